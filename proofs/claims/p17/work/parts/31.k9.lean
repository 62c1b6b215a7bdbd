def w4X5_time : List Cond := .code yX5_time cX5_time 7 (some .int) :: ([.methodLink RX5 83 yX5_raceAt, .instanceMethod yX5_raceAt, .selects RX5 yX5_raceAt yX5_raceAt, .initialized RX5, .code yX5_raceAt cX5_raceAt 2 (some (.object "SkiShots$Race")), .fieldLink RX5 80 "SkiShots" "raceCount" "I", .fieldLink RX5 29 "SkiShots" "races" "[LSkiShots$Race;", .methodLink RX5 168 yX5_isDay, .instanceMethod yX5_isDay, .selects RX5 yX5_isDay yX5_isDay, .code yX5_isDay cX5_isDay 2 (some .boolean), .fieldLink RX5 70 "SkiShots" "today" "I", .methodLink RX5 99 yX3_entryOf, .instanceMethod yX3_entryOf, .selects RX3 yX3_entryOf yX3_entryOf, .initialized RX3, .code yX3_entryOf cX3_entryOf 3 (some (.object "SkiShots$Entry")), .fieldLink RX3 29 "SkiShots$Race" "entryCount" "I", .fieldLink RX3 25 "SkiShots$Race" "entries" "[LSkiShots$Entry;", .fieldLink RX3 35 "SkiShots$Entry" "racer" "I", .methodLink RX5 171 yX5_workOut, .instanceMethod yX5_workOut, .selects RX5 yX5_workOut yX5_workOut, .code yX5_workOut cX5_workOut 4 none, .methodLink RX5 228 yX3_workOut, .instanceMethod yX3_workOut, .selects RX3 yX3_workOut yX3_workOut, .code yX3_workOut cX3_workOut 4 none, .fieldLink RX3 9 "SkiShots$Race" "format" "LSkiShots$Format;", .methodLink RX3 41 yX3_startOf, .instanceMethod yX3_startOf, .selects RX3 yX3_startOf yX3_startOf, .code yX3_startOf cX3_startOf 2 (some .int), .fieldLink RX3 56 "SkiShots$Format" "startSort" "I", .fieldLink RX3 61 "SkiShots$Format" "startSeconds" "I", .methodLink RX3 64 yX3_chaseStart, .instanceMethod yX3_chaseStart, .selects RX3 yX3_chaseStart yX3_chaseStart, .code yX3_chaseStart cX3_chaseStart 4 (some .int), .fieldLink RX3 15 "SkiShots$Race" "by" "LSkiShots$Race;", .methodLink RX3 67 yX3_entryOf, .methodLink RX3 49 yX0_hasTime, .instanceMethod yX0_hasTime, .selects RX0 yX0_hasTime yX0_hasTime, .initialized RX0, .code yX0_hasTime cX0_hasTime 1 (some .boolean), .fieldLink RX0 39 "SkiShots$Entry" "low" "I", .fieldLink RX3 53 "SkiShots$Entry" "low" "I", .fieldLink RX3 38 "SkiShots$Race" "leastLow" "I", .methodLink RX3 71 Lib.Math.min.name, .static Lib.Math.min.name, .initialized "java/lang/Math", .code Lib.Math.min.name Lib.Math.min.code 2 (some .int), .methodLink RX3 45 yX0_workOut, .instanceMethod yX0_workOut, .selects RX0 yX0_workOut yX0_workOut, .code yX0_workOut cX0_workOut 5 none, .fieldLink RX0 56 "SkiShots$Entry" "leastPenalty" "I", .fieldLink RX0 59 "SkiShots$Entry" "greatestPenalty" "I", .fieldLink RX0 78 "SkiShots$Entry" "high" "I", .fieldLink RX0 62 "SkiShots$Format" "shootings" "I", .fieldLink RX0 46 "SkiShots$Entry" "struck" "Z", .fieldLink RX0 71 "SkiShots$Format" "laps" "I", .methodLink RX0 42 yX0_known, .instanceMethod yX0_known, .selects RX0 yX0_known yX0_known, .code yX0_known cX0_known 5 (some .int), .fieldLink RX0 19 "SkiShots$Event" "day" "I", .fieldLink RX0 33 "SkiShots$Event" "before" "LSkiShots$Event;", .fieldLink RX0 24 "SkiShots$Event" "sort" "I", .fieldLink RX0 27 "SkiShots$Event" "k" "I", .fieldLink RX0 30 "SkiShots$Event" "v" "I", .fieldLink RX0 15 "SkiShots$Entry" "latest" "LSkiShots$Event;", .methodLink RX0 74 yX0_sinceStart, .instanceMethod yX0_sinceStart, .selects RX0 yX0_sinceStart yX0_sinceStart, .code yX0_sinceStart cX0_sinceStart 2 (some .int), .fieldLink RX0 36 "SkiShots$Entry" "start" "I", .methodLink RX0 67 yX0_addShooting, .instanceMethod yX0_addShooting, .selects RX0 yX0_addShooting yX0_addShooting, .code yX0_addShooting cX0_addShooting 11 none, .fieldLink RX0 89 "SkiShots$Format" "missSeconds" "I", .fieldLink RX0 50 "SkiShots$Entry" "fewestMisses" "I", .fieldLink RX0 53 "SkiShots$Entry" "mostMisses" "I", .methodLink RX0 92 Lib.Math.max.name, .static Lib.Math.max.name, .code Lib.Math.max.name Lib.Math.max.code 2 (some .int), .methodLink RX0 81 yJ6_bitCount_0f7a4, .static yJ6_bitCount_0f7a4, .initialized RJ6, .code yJ6_bitCount_0f7a4 cJ6_bitCount_0f7a4 1 (some .int), .constant RJ6 265 (1431655765), .constant RJ6 266 (858993459), .constant RJ6 267 (252645135), .fieldLink RX0 86 "SkiShots$Format" "loops" "Z", .fieldLink RX5 175 "SkiShots$Entry" "start" "I", .fieldLink RX5 178 "SkiShots$Entry" "low" "I", .fieldLink RX5 181 "SkiShots$Entry" "high" "I", .methodLink RX5 184 yX3_firstPlace, .instanceMethod yX3_firstPlace, .selects RX3 yX3_firstPlace yX3_firstPlace, .code yX3_firstPlace cX3_firstPlace 5 (some .int), .fieldLink RX3 77 "SkiShots$Entry" "high" "I", .methodLink RX5 188 yX3_lastPlace, .instanceMethod yX3_lastPlace, .selects RX3 yX3_lastPlace yX3_lastPlace, .code yX3_lastPlace cX3_lastPlace 5 (some .int), .fieldLink RX5 191 "SkiShots$Entry" "struck" "Z", .fieldLink RX5 195 "SkiShots$Entry" "fewestMisses" "I", .fieldLink RX5 198 "SkiShots$Entry" "mostMisses" "I"] ++ wsX00 ++ wsX10 ++ wsX20 ++ wsX30 ++ wsX50)
set_option maxRecDepth 20000 in
theorem gk_X5_time_X5_raceAt_1 : GoodIn w4X5_time (wsV RX5 83 RX5 yX5_raceAt w4X5_raceAt) := goodIn_p _ [5] rfl (by decide +kernel)
set_option maxRecDepth 20000 in
theorem gk_X5_time_X5_isDay_6 : GoodIn w4X5_time (wsV RX5 168 RX5 yX5_isDay w4X5_isDay) := goodIn_p _ [11] rfl (by decide +kernel)
set_option maxRecDepth 20000 in
theorem gk_X5_time_X3_entryOf_12 : GoodIn w4X5_time (wsV RX5 99 RX3 yX3_entryOf w4X3_entryOf) := goodIn_p _ [17] rfl (by decide +kernel)
set_option maxRecDepth 20000 in
theorem gk_X5_time_X5_workOut_18 : GoodIn w4X5_time (wsV RX5 171 RX5 yX5_workOut w4X5_workOut) := goodIn_p _ [24, 28, 33, 39, 17, 46, 53, 57, 67, 77, 82, 88, 92] rfl (by decide +kernel)
set_option maxRecDepth 20000 in
theorem gk_X5_time_X3_firstPlace_29 : GoodIn w4X5_time (wsV RX5 184 RX3 yX3_firstPlace w4X3_firstPlace) := goodIn_p _ [103, 46] rfl (by decide +kernel)
set_option maxRecDepth 20000 in
theorem gk_X5_time_X3_lastPlace_34 : GoodIn w4X5_time (wsV RX5 188 RX3 yX3_lastPlace w4X3_lastPlace) := goodIn_p _ [108, 46] rfl (by decide +kernel)
set_option maxHeartbeats 4000000 in
set_option maxRecDepth 100000 in
theorem h4_X5_time (l : Launch) (D : va_G) (cA : Nat → ClassId) (ad av : Nat → Nat) (L : List Nat) (K : Nat → Nat) (I : Nat → Nat → Int32) (O : Nat → Nat → Option Nat) (sz : Nat) (x0 : Nat) (p0 : Int32) (p1 : Int32) (p2 : Int32) (p3 : Int32) (hI : cI L K I O) (mx0 : x0 ∈ L) (kx0 : K x0 = 5)  : Met l yX5_time w4X5_time ({ frames := 5, cells := 0, slots := 0, locals := 124 }) (cPre D cA ad av L K I O sz [.ref x0, .int p0, .int p1, .int p2, .int p3]) (cQi D cA L K I O sz [] [(0, 2), (0, 3), (0, 4), (0, 5), (0, 6), (0, 7), (0, 8), (0, 9), (3, 6)] [] (fun r L' K' I' O' => True)) 0 0 (va_A (cW cA L K I O) sz) := by
  refine cr_met (own := RX5) (xs := []) (WI := [(0, 2), (0, 3), (0, 4), (0, 5), (0, 6), (0, 7), (0, 8), (0, 9), (3, 6)]) (WO := []) (cc := cX5_time) (maxL := 7) (ret := (some .int)) (by decide) rfl rfl (Nat.le_of_ble_eq_true rfl) hI ?_
  intro p e s m args below meth c ls E hV hml hr hlk hname hsz hA hM hl
  have hx := E.1
  have hb := E.2.1
  have hts := E.2.2.1
  have hown := E.2.2.2.1
  have hl : lv_has ls 7 [(0, .ref x0), (1, .int p0), (2, .int p1), (3, .int p2), (4, .int p3)] := hl
  have hin0 : ∀ w ∈ wsX00, w ∈ w4X5_time := by decide +kernel
  have hin1 : ∀ w ∈ wsX10, w ∈ w4X5_time := by decide +kernel
  have hin2 : ∀ w ∈ wsX20, w ∈ w4X5_time := by decide +kernel
  have hin3 : ∀ w ∈ wsX30, w ∈ w4X5_time := by decide +kernel
  have hin5 : ∀ w ∈ wsX50, w ∈ w4X5_time := by decide +kernel
  refine lv_aload_n hx hb dX5_time_0 rfl (lv_at hl 0 rfl) ?_
  refine lv_iload_n hx hb dX5_time_1 rfl (lv_at hl 1 rfl) ?_
  refine cc_Vqp (vs := [.int p0]) (rest := []) (b := x0) (κ := 5) E hV rfl hA hml hM mx0 kx0 rfl rfl (h4_X5_raceAt l D cA ad av L K I O _ x0 p0 hM.2.2.2.1 mx0 kx0) (cwV 1 hts gk_X5_time_X5_raceAt_1 rfl rfl rfl (by decide +kernel) ⟨Nat.le_of_ble_eq_true rfl, Nat.le_of_ble_eq_true rfl⟩) rfl hl.1 rfl (Nat.le_of_ble_eq_true rfl) dX5_time_2 ⟨show (0 : Nat) ≤ 0 from by omega, show (0 : Nat) ≤ 0 from by omega⟩ (fun r_2 H locs p_3 hM => ?_)
  rcases r_2 with _ | x_5
  · show W _ _ _ _ _ _ _ _ _ _ _ _ _ _ _ (F0 m 5 ls [.null])
    refine lv_astoreN (lv' := [(5, .null), (0, .ref x0), (1, .int p0), (2, .int p1), (3, .int p2), (4, .int p3)]) hx hb dX5_time_5 hl (by decide) rfl (fun ls hl => ?_)
    refine lv_aloadN hx hb dX5_time_7 (lv_at hl 0 rfl) ?_
    refine lv_ifnullN (tgt := 20) hx hb dX5_time_9 (by decide) ?_
    refine lv_bipush (v := (-2)) hx hb dX5_time_20 (by decide) ?_
    exact cr_ri (mc := 0) (ms := 0) E hr hlk hsz hM ⟨show (0 : Nat) ≤ 0 from by omega, show (0 : Nat) ≤ 0 from by omega⟩ trivial dX5_time_22
  · obtain ⟨m_5, k_5⟩ := p_3 x_5 rfl
    show W _ _ _ _ _ _ _ _ _ _ _ _ _ _ _ (F0 m 5 ls [.ref x_5])
    refine lv_astore (lv' := [(5, .ref x_5), (0, .ref x0), (1, .int p0), (2, .int p1), (3, .int p2), (4, .int p3)]) hx hb dX5_time_5 hl (by decide) rfl (fun ls hl => ?_)
    refine lv_aload hx hb dX5_time_7 (lv_at hl 0 rfl) ?_
    refine lv_ifnull hx hb dX5_time_9 ?_
    refine lv_aload_n hx hb dX5_time_12 rfl (lv_at hl 1 rfl) ?_
    refine lv_iload_n hx hb dX5_time_13 rfl (lv_at hl 4 rfl) ?_
    have b_7 : 0 ≤ (I x0 6).toInt ∧ (I x0 6).toInt ≤ 200 := hM.ib mx0 kx0 6 rfl
    refine cc_Vip (vs := [.int p2]) (rest := []) (b := x0) (κ := 5) E hV rfl hA hml hM mx0 kx0 rfl rfl (h4_X5_isDay l D cA ad av L K I O _ x0 p2 hM.2.2.2.1 mx0 kx0) (cwV 1 hts gk_X5_time_X5_isDay_6 rfl rfl rfl (by decide +kernel) ⟨Nat.le_of_ble_eq_true rfl, Nat.le_of_ble_eq_true rfl⟩) rfl hl.1 rfl (Nat.le_of_ble_eq_true rfl) dX5_time_14 ⟨show (0 : Nat) ≤ 0 from by omega, show (0 : Nat) ≤ 0 from by omega⟩ (fun r_8 H locs p_9 hM => ?_)
    replace p_9 : (r_8.toInt = 1 ∧ 0 ≤ p2.toInt ∧ p2.toInt ≤ (I x0 6).toInt) ∨ (r_8.toInt = 0 ∧ ¬ (0 ≤ p2.toInt ∧ p2.toInt ≤ (I x0 6).toInt)) := p_9
    refine mm_if_ne (X := r_8.toInt) (tgt := 23) hx hb dX5_time_17 (by decide) rfl (fun c_11 => ?_) (fun c_11 => ?_)
    · refine lv_aload hx hb dX5_time_23 (lv_at hl 0 rfl) ?_
      refine lv_iload_n hx hb dX5_time_25 rfl (lv_at hl 3 rfl) ?_
      refine cc_Vqp (vs := [.int p1]) (rest := []) (b := x_5) (κ := 3) E hV rfl hA hml hM m_5 k_5 rfl rfl (h4_X3_entryOf l D cA ad av L K I O _ x_5 p1 hM.2.2.2.1 m_5 k_5) (cwV 1 hts gk_X5_time_X3_entryOf_12 rfl rfl rfl (by decide +kernel) ⟨Nat.le_of_ble_eq_true rfl, Nat.le_of_ble_eq_true rfl⟩) rfl hl.1 rfl (Nat.le_of_ble_eq_true rfl) dX5_time_26 ⟨show (0 : Nat) ≤ 0 from by omega, show (0 : Nat) ≤ 0 from by omega⟩ (fun r_13 H locs p_14 hM => ?_)
      rcases r_13 with _ | x_16
      · show W _ _ _ _ _ _ _ _ _ _ _ _ _ _ _ (F0 m 29 ls [.null])
        refine lv_astoreN (lv' := [(6, .null), (5, .ref x_5), (0, .ref x0), (1, .int p0), (2, .int p1), (3, .int p2), (4, .int p3)]) hx hb dX5_time_29 hl (by decide) rfl (fun ls hl => ?_)
        refine lv_aloadN hx hb dX5_time_31 (lv_at hl 0 rfl) ?_
        refine lv_ifnonnullN hx hb dX5_time_33 ?_
        refine lv_bipush (v := (-2)) hx hb dX5_time_36 (by decide) ?_
        exact cr_ri (mc := 0) (ms := 0) E hr hlk hsz hM ⟨show (0 : Nat) ≤ 0 from by omega, show (0 : Nat) ≤ 0 from by omega⟩ trivial dX5_time_38
      · obtain ⟨m_16, k_16⟩ := p_14 x_16 rfl
        show W _ _ _ _ _ _ _ _ _ _ _ _ _ _ _ (F0 m 29 ls [.ref x_16])
        refine lv_astore (lv' := [(6, .ref x_16), (5, .ref x_5), (0, .ref x0), (1, .int p0), (2, .int p1), (3, .int p2), (4, .int p3)]) hx hb dX5_time_29 hl (by decide) rfl (fun ls hl => ?_)
        refine lv_aload hx hb dX5_time_31 (lv_at hl 0 rfl) ?_
        refine lv_ifnonnull (tgt := 39) hx hb dX5_time_33 (by decide) ?_
        refine lv_aload_n hx hb dX5_time_39 rfl (lv_at hl 2 rfl) ?_
        refine lv_iload_n hx hb dX5_time_40 rfl (lv_at hl 3 rfl) ?_
        refine lv_iconst (v := 1) hx hb dX5_time_41 (by decide) ?_
        refine mm_iaddU hx hb dX5_time_42 (fun z_17 => ?_)
        refine lv_iload_n hx hb dX5_time_43 rfl (lv_at hl 5 rfl) ?_
        refine cc_Vv (vs := [.int z_17, .int p2]) (rest := []) (b := x0) (κ := 5) E hV rfl hA hml hM mx0 kx0 rfl rfl (h4_X5_workOut l D cA ad av L K I O _ x0 z_17 p2 hM.2.2.2.1 mx0 kx0) (cwV 2 hts gk_X5_time_X5_workOut_18 rfl rfl rfl (by decide +kernel) ⟨Nat.le_of_ble_eq_true rfl, Nat.le_of_ble_eq_true rfl⟩) rfl hl.1 rfl (Nat.le_of_ble_eq_true rfl) dX5_time_44 ⟨show (0 + 0 : Nat) ≤ 0 from by omega, show (0 + 0 : Nat) ≤ 0 from by omega⟩ (fun _ h => by cases h) (by decide) (by decide) (fun L_21 K_21 I_21 O_21 H locs fr_21 p_20 hM => ?_)
        have m_22 := (fr_21 x0 mx0 (fun z => by cases z)).1
        have k_22 : K_21 x0 = 5 := (fr_21 x0 mx0 (fun z => by cases z)).2.1.trans kx0
        have m_23 := (fr_21 x_5 m_5 (fun z => by cases z)).1
        have k_23 : K_21 x_5 = 3 := (fr_21 x_5 m_5 (fun z => by cases z)).2.1.trans k_5
        have m_24 := (fr_21 x_16 m_16 (fun z => by cases z)).1
        have k_24 : K_21 x_16 = 0 := (fr_21 x_16 m_16 (fun z => by cases z)).2.1.trans k_16
        refine lv_iload hx hb dX5_time_47 (lv_at hl 6 rfl) ?_
        by_cases s_25 : p3.toInt = 0
        · refine lv_tableIn (tgt := 96) (off := 47) hx hb dX5_time_49 (by omega) (by omega) (by rw [s_25]; rfl) (by decide) ?_
          refine lv_aload hx hb dX5_time_96 (lv_at hl 0 rfl) ?_
          refine cr_get (κ := 0) (ci := 0) (k := 2) (C := RX0) (T := TX0) (N := 10) (fs := cfs 0) (v := .int (I_21 x_16 2)) E hM m_24 k_24 (fun _ _ => rfl) rfl hin0 (by decide) (index := 175) (mm_at 97 rfl) rfl rfl dX5_time_98 ?_
          exact cr_ri (mc := 0) (ms := 0) E hr hlk hsz hM ⟨show (0 : Nat) ≤ 0 from by omega, show (0 : Nat) ≤ 0 from by omega⟩ trivial dX5_time_101
        by_cases s_26 : p3.toInt = 1
        · refine lv_tableIn (tgt := 102) (off := 53) hx hb dX5_time_49 (by omega) (by omega) (by rw [s_26]; rfl) (by decide) ?_
          refine lv_aload hx hb dX5_time_102 (lv_at hl 0 rfl) ?_
          refine cr_get (κ := 0) (ci := 0) (k := 3) (C := RX0) (T := TX0) (N := 10) (fs := cfs 0) (v := .int (I_21 x_16 3)) E hM m_24 k_24 (fun _ _ => rfl) rfl hin0 (by decide) (index := 178) (mm_at 98 rfl) rfl rfl dX5_time_104 ?_
          exact cr_ri (mc := 0) (ms := 0) E hr hlk hsz hM ⟨show (0 : Nat) ≤ 0 from by omega, show (0 : Nat) ≤ 0 from by omega⟩ trivial dX5_time_107
        by_cases s_27 : p3.toInt = 2
        · refine lv_tableIn (tgt := 108) (off := 59) hx hb dX5_time_49 (by omega) (by omega) (by rw [s_27]; rfl) (by decide) ?_
          refine lv_aload hx hb dX5_time_108 (lv_at hl 0 rfl) ?_
          refine cr_get (κ := 0) (ci := 0) (k := 4) (C := RX0) (T := TX0) (N := 10) (fs := cfs 0) (v := .int (I_21 x_16 4)) E hM m_24 k_24 (fun _ _ => rfl) rfl hin0 (by decide) (index := 181) (mm_at 99 rfl) rfl rfl dX5_time_110 ?_
          exact cr_ri (mc := 0) (ms := 0) E hr hlk hsz hM ⟨show (0 : Nat) ≤ 0 from by omega, show (0 : Nat) ≤ 0 from by omega⟩ trivial dX5_time_113
        by_cases s_28 : p3.toInt = 3
        · refine lv_tableIn (tgt := 114) (off := 65) hx hb dX5_time_49 (by omega) (by omega) (by rw [s_28]; rfl) (by decide) ?_
          refine lv_aload hx hb dX5_time_114 (lv_at hl 1 rfl) ?_
          refine lv_aload hx hb dX5_time_116 (lv_at hl 0 rfl) ?_
          refine cc_Vip (vs := [.ref x_16]) (rest := []) (b := x_5) (κ := 3) E hV rfl hA hml hM m_23 k_23 rfl rfl (h4_X3_firstPlace l D cA ad av L_21 K_21 I_21 O_21 _ x_5 x_16 hM.2.2.2.1 m_23 k_23 m_24 k_24) (cwV 1 hts gk_X5_time_X3_firstPlace_29 rfl rfl rfl (by decide +kernel) ⟨Nat.le_of_ble_eq_true rfl, Nat.le_of_ble_eq_true rfl⟩) rfl hl.1 rfl (Nat.le_of_ble_eq_true rfl) dX5_time_118 ⟨show (0 : Nat) ≤ 0 from by omega, show (0 : Nat) ≤ 0 from by omega⟩ (fun r_30 H locs p_31 hM => ?_)
          exact cr_ri (mc := 0) (ms := 0) E hr hlk hsz hM ⟨show (0 : Nat) ≤ 0 from by omega, show (0 : Nat) ≤ 0 from by omega⟩ trivial dX5_time_121
        by_cases s_33 : p3.toInt = 4
        · refine lv_tableIn (tgt := 122) (off := 73) hx hb dX5_time_49 (by omega) (by omega) (by rw [s_33]; rfl) (by decide) ?_
          refine lv_aload hx hb dX5_time_122 (lv_at hl 1 rfl) ?_
          refine lv_aload hx hb dX5_time_124 (lv_at hl 0 rfl) ?_
          refine cc_Vip (vs := [.ref x_16]) (rest := []) (b := x_5) (κ := 3) E hV rfl hA hml hM m_23 k_23 rfl rfl (h4_X3_lastPlace l D cA ad av L_21 K_21 I_21 O_21 _ x_5 x_16 hM.2.2.2.1 m_23 k_23 m_24 k_24) (cwV 1 hts gk_X5_time_X3_lastPlace_34 rfl rfl rfl (by decide +kernel) ⟨Nat.le_of_ble_eq_true rfl, Nat.le_of_ble_eq_true rfl⟩) rfl hl.1 rfl (Nat.le_of_ble_eq_true rfl) dX5_time_126 ⟨show (0 : Nat) ≤ 0 from by omega, show (0 : Nat) ≤ 0 from by omega⟩ (fun r_35 H locs p_36 hM => ?_)
          exact cr_ri (mc := 0) (ms := 0) E hr hlk hsz hM ⟨show (0 : Nat) ≤ 0 from by omega, show (0 : Nat) ≤ 0 from by omega⟩ trivial dX5_time_129
        by_cases s_38 : p3.toInt = 5
        · refine lv_tableIn (tgt := 130) (off := 81) hx hb dX5_time_49 (by omega) (by omega) (by rw [s_38]; rfl) (by decide) ?_
          refine lv_aload hx hb dX5_time_130 (lv_at hl 0 rfl) ?_
          refine cr_get (κ := 0) (ci := 0) (k := 5) (C := RX0) (T := TX0) (N := 10) (fs := cfs 0) (v := .int (I_21 x_16 5)) E hM m_24 k_24 (fun _ _ => rfl) rfl hin0 (by decide) (index := 191) (mm_at 109 rfl) rfl rfl dX5_time_132 ?_
          refine mm_if_eq (X := (I_21 x_16 5).toInt) (tgt := 142) hx hb dX5_time_135 (by decide) rfl (fun c_39 => ?_) (fun c_39 => ?_)
          · refine lv_iconst (v := 0) hx hb dX5_time_142 (by decide) ?_
            exact cr_ri (mc := 0) (ms := 0) E hr hlk hsz hM ⟨show (0 : Nat) ≤ 0 from by omega, show (0 : Nat) ≤ 0 from by omega⟩ trivial dX5_time_143
          · refine lv_iconst (v := 1) hx hb dX5_time_138 (by decide) ?_
            refine lv_goto (tgt := 143) hx hb dX5_time_139 (by decide) ?_
            exact cr_ri (mc := 0) (ms := 0) E hr hlk hsz hM ⟨show (0 : Nat) ≤ 0 from by omega, show (0 : Nat) ≤ 0 from by omega⟩ trivial dX5_time_143
        by_cases s_40 : p3.toInt = 6
        · refine lv_tableIn (tgt := 144) (off := 95) hx hb dX5_time_49 (by omega) (by omega) (by rw [s_40]; rfl) (by decide) ?_
          refine lv_aload hx hb dX5_time_144 (lv_at hl 0 rfl) ?_
          refine cr_get (κ := 0) (ci := 0) (k := 6) (C := RX0) (T := TX0) (N := 10) (fs := cfs 0) (v := .int (I_21 x_16 6)) E hM m_24 k_24 (fun _ _ => rfl) rfl hin0 (by decide) (index := 195) (mm_at 110 rfl) rfl rfl dX5_time_146 ?_
          exact cr_ri (mc := 0) (ms := 0) E hr hlk hsz hM ⟨show (0 : Nat) ≤ 0 from by omega, show (0 : Nat) ≤ 0 from by omega⟩ trivial dX5_time_149
        by_cases s_41 : p3.toInt = 7
        · refine lv_tableIn (tgt := 150) (off := 101) hx hb dX5_time_49 (by omega) (by omega) (by rw [s_41]; rfl) (by decide) ?_
          refine lv_aload hx hb dX5_time_150 (lv_at hl 0 rfl) ?_
          refine cr_get (κ := 0) (ci := 0) (k := 7) (C := RX0) (T := TX0) (N := 10) (fs := cfs 0) (v := .int (I_21 x_16 7)) E hM m_24 k_24 (fun _ _ => rfl) rfl hin0 (by decide) (index := 198) (mm_at 111 rfl) rfl rfl dX5_time_152 ?_
          exact cr_ri (mc := 0) (ms := 0) E hr hlk hsz hM ⟨show (0 : Nat) ≤ 0 from by omega, show (0 : Nat) ≤ 0 from by omega⟩ trivial dX5_time_155
        · refine lv_tableOut (tgt := 156) hx hb dX5_time_49 (by omega) (by decide) ?_
          refine lv_bipush (v := (-2)) hx hb dX5_time_156 (by decide) ?_
          exact cr_ri (mc := 0) (ms := 0) E hr hlk hsz hM ⟨show (0 : Nat) ≤ 0 from by omega, show (0 : Nat) ≤ 0 from by omega⟩ trivial dX5_time_158
    · refine lv_bipush (v := (-2)) hx hb dX5_time_20 (by decide) ?_
      exact cr_ri (mc := 0) (ms := 0) E hr hlk hsz hM ⟨show (0 : Nat) ≤ 0 from by omega, show (0 : Nat) ≤ 0 from by omega⟩ trivial dX5_time_22
def w4X5_split : List Cond := .code yX5_split cX5_split 7 (some .int) :: ([.methodLink RX5 83 yX5_raceAt, .instanceMethod yX5_raceAt, .selects RX5 yX5_raceAt yX5_raceAt, .initialized RX5, .code yX5_raceAt cX5_raceAt 2 (some (.object "SkiShots$Race")), .fieldLink RX5 80 "SkiShots" "raceCount" "I", .fieldLink RX5 29 "SkiShots" "races" "[LSkiShots$Race;", .methodLink RX5 168 yX5_isDay, .instanceMethod yX5_isDay, .selects RX5 yX5_isDay yX5_isDay, .code yX5_isDay cX5_isDay 2 (some .boolean), .fieldLink RX5 70 "SkiShots" "today" "I", .fieldLink RX5 112 "SkiShots$Race" "format" "LSkiShots$Format;", .methodLink RX5 116 yX2_hasEvent, .instanceMethod yX2_hasEvent, .selects RX2 yX2_hasEvent yX2_hasEvent, .initialized RX2, .code yX2_hasEvent cX2_hasEvent 3 (some .boolean), .fieldLink RX2 15 "SkiShots$Format" "laps" "I", .fieldLink RX2 18 "SkiShots$Format" "shootings" "I", .methodLink RX5 99 yX3_entryOf, .instanceMethod yX3_entryOf, .selects RX3 yX3_entryOf yX3_entryOf, .initialized RX3, .code yX3_entryOf cX3_entryOf 3 (some (.object "SkiShots$Entry")), .fieldLink RX3 29 "SkiShots$Race" "entryCount" "I", .fieldLink RX3 25 "SkiShots$Race" "entries" "[LSkiShots$Entry;", .fieldLink RX3 35 "SkiShots$Entry" "racer" "I", .methodLink RX5 171 yX5_workOut, .instanceMethod yX5_workOut, .selects RX5 yX5_workOut yX5_workOut, .code yX5_workOut cX5_workOut 4 none, .methodLink RX5 228 yX3_workOut, .instanceMethod yX3_workOut, .selects RX3 yX3_workOut yX3_workOut, .code yX3_workOut cX3_workOut 4 none, .fieldLink RX3 9 "SkiShots$Race" "format" "LSkiShots$Format;", .methodLink RX3 41 yX3_startOf, .instanceMethod yX3_startOf, .selects RX3 yX3_startOf yX3_startOf, .code yX3_startOf cX3_startOf 2 (some .int), .fieldLink RX3 56 "SkiShots$Format" "startSort" "I", .fieldLink RX3 61 "SkiShots$Format" "startSeconds" "I", .methodLink RX3 64 yX3_chaseStart, .instanceMethod yX3_chaseStart, .selects RX3 yX3_chaseStart yX3_chaseStart, .code yX3_chaseStart cX3_chaseStart 4 (some .int), .fieldLink RX3 15 "SkiShots$Race" "by" "LSkiShots$Race;", .methodLink RX3 67 yX3_entryOf, .methodLink RX3 49 yX0_hasTime, .instanceMethod yX0_hasTime, .selects RX0 yX0_hasTime yX0_hasTime, .initialized RX0, .code yX0_hasTime cX0_hasTime 1 (some .boolean), .fieldLink RX0 39 "SkiShots$Entry" "low" "I", .fieldLink RX3 53 "SkiShots$Entry" "low" "I", .fieldLink RX3 38 "SkiShots$Race" "leastLow" "I", .methodLink RX3 71 Lib.Math.min.name, .static Lib.Math.min.name, .initialized "java/lang/Math", .code Lib.Math.min.name Lib.Math.min.code 2 (some .int), .methodLink RX3 45 yX0_workOut, .instanceMethod yX0_workOut, .selects RX0 yX0_workOut yX0_workOut, .code yX0_workOut cX0_workOut 5 none, .fieldLink RX0 56 "SkiShots$Entry" "leastPenalty" "I", .fieldLink RX0 59 "SkiShots$Entry" "greatestPenalty" "I", .fieldLink RX0 78 "SkiShots$Entry" "high" "I", .fieldLink RX0 62 "SkiShots$Format" "shootings" "I", .fieldLink RX0 46 "SkiShots$Entry" "struck" "Z", .fieldLink RX0 71 "SkiShots$Format" "laps" "I", .methodLink RX0 42 yX0_known, .instanceMethod yX0_known, .selects RX0 yX0_known yX0_known, .code yX0_known cX0_known 5 (some .int), .fieldLink RX0 19 "SkiShots$Event" "day" "I", .fieldLink RX0 33 "SkiShots$Event" "before" "LSkiShots$Event;", .fieldLink RX0 24 "SkiShots$Event" "sort" "I", .fieldLink RX0 27 "SkiShots$Event" "k" "I", .fieldLink RX0 30 "SkiShots$Event" "v" "I", .fieldLink RX0 15 "SkiShots$Entry" "latest" "LSkiShots$Event;", .methodLink RX0 74 yX0_sinceStart, .instanceMethod yX0_sinceStart, .selects RX0 yX0_sinceStart yX0_sinceStart, .code yX0_sinceStart cX0_sinceStart 2 (some .int), .fieldLink RX0 36 "SkiShots$Entry" "start" "I", .methodLink RX0 67 yX0_addShooting, .instanceMethod yX0_addShooting, .selects RX0 yX0_addShooting yX0_addShooting, .code yX0_addShooting cX0_addShooting 11 none, .fieldLink RX0 89 "SkiShots$Format" "missSeconds" "I", .fieldLink RX0 50 "SkiShots$Entry" "fewestMisses" "I", .fieldLink RX0 53 "SkiShots$Entry" "mostMisses" "I", .methodLink RX0 92 Lib.Math.max.name, .static Lib.Math.max.name, .code Lib.Math.max.name Lib.Math.max.code 2 (some .int), .methodLink RX0 81 yJ6_bitCount_0f7a4, .static yJ6_bitCount_0f7a4, .initialized RJ6, .code yJ6_bitCount_0f7a4 cJ6_bitCount_0f7a4 1 (some .int), .constant RJ6 265 (1431655765), .constant RJ6 266 (858993459), .constant RJ6 267 (252645135), .fieldLink RX0 86 "SkiShots$Format" "loops" "Z", .methodLink RX5 201 yX0_known, .methodLink RX5 205 yX0_sinceStart] ++ wsX00 ++ wsX10 ++ wsX20 ++ wsX30 ++ wsX50)
set_option maxRecDepth 20000 in
theorem gk_X5_split_X5_raceAt_1 : GoodIn w4X5_split (wsV RX5 83 RX5 yX5_raceAt w4X5_raceAt) := goodIn_p _ [5] rfl (by decide +kernel)
set_option maxRecDepth 20000 in
theorem gk_X5_split_X5_isDay_6 : GoodIn w4X5_split (wsV RX5 168 RX5 yX5_isDay w4X5_isDay) := goodIn_p _ [11] rfl (by decide +kernel)
set_option maxRecDepth 20000 in
theorem gk_X5_split_X2_hasEvent_13 : GoodIn w4X5_split (wsV RX5 116 RX2 yX2_hasEvent w4X2_hasEvent) := goodIn_p _ [18] rfl (by decide +kernel)
set_option maxRecDepth 20000 in
theorem gk_X5_split_X3_entryOf_18 : GoodIn w4X5_split (wsV RX5 99 RX3 yX3_entryOf w4X3_entryOf) := goodIn_p _ [25] rfl (by decide +kernel)
set_option maxRecDepth 20000 in
theorem gk_X5_split_X5_workOut_24 : GoodIn w4X5_split (wsV RX5 171 RX5 yX5_workOut w4X5_workOut) := goodIn_p _ [32, 36, 41, 47, 25, 54, 61, 65, 75, 85, 90, 96, 100] rfl (by decide +kernel)
set_option maxRecDepth 20000 in
theorem gk_X5_split_X0_known_32 : GoodIn w4X5_split (wsV RX5 201 RX0 yX0_known w4X0_known) := goodIn_p _ [75] rfl (by decide +kernel)
set_option maxRecDepth 20000 in
theorem gk_X5_split_X0_sinceStart_36 : GoodIn w4X5_split (wsV RX5 205 RX0 yX0_sinceStart w4X0_sinceStart) := goodIn_p _ [85] rfl (by decide +kernel)
set_option maxHeartbeats 4000000 in
set_option maxRecDepth 100000 in
theorem h4_X5_split (l : Launch) (D : va_G) (cA : Nat → ClassId) (ad av : Nat → Nat) (L : List Nat) (K : Nat → Nat) (I : Nat → Nat → Int32) (O : Nat → Nat → Option Nat) (sz : Nat) (x0 : Nat) (p0 : Int32) (p1 : Int32) (p2 : Int32) (p3 : Int32) (hI : cI L K I O) (mx0 : x0 ∈ L) (kx0 : K x0 = 5)  : Met l yX5_split w4X5_split ({ frames := 5, cells := 0, slots := 0, locals := 124 }) (cPre D cA ad av L K I O sz [.ref x0, .int p0, .int p1, .int p2, .int p3]) (cQi D cA L K I O sz [] [(0, 2), (0, 3), (0, 4), (0, 5), (0, 6), (0, 7), (0, 8), (0, 9), (3, 6)] [] (fun r L' K' I' O' => True)) 0 0 (va_A (cW cA L K I O) sz) := by
  refine cr_met (own := RX5) (xs := []) (WI := [(0, 2), (0, 3), (0, 4), (0, 5), (0, 6), (0, 7), (0, 8), (0, 9), (3, 6)]) (WO := []) (cc := cX5_split) (maxL := 7) (ret := (some .int)) (by decide) rfl rfl (Nat.le_of_ble_eq_true rfl) hI ?_
  intro p e s m args below meth c ls E hV hml hr hlk hname hsz hA hM hl
  have hx := E.1
  have hb := E.2.1
  have hts := E.2.2.1
  have hown := E.2.2.2.1
  have hl : lv_has ls 7 [(0, .ref x0), (1, .int p0), (2, .int p1), (3, .int p2), (4, .int p3)] := hl
  have hin0 : ∀ w ∈ wsX00, w ∈ w4X5_split := by decide +kernel
  have hin1 : ∀ w ∈ wsX10, w ∈ w4X5_split := by decide +kernel
  have hin2 : ∀ w ∈ wsX20, w ∈ w4X5_split := by decide +kernel
  have hin3 : ∀ w ∈ wsX30, w ∈ w4X5_split := by decide +kernel
  have hin5 : ∀ w ∈ wsX50, w ∈ w4X5_split := by decide +kernel
  refine lv_aload_n hx hb dX5_split_0 rfl (lv_at hl 0 rfl) ?_
  refine lv_iload_n hx hb dX5_split_1 rfl (lv_at hl 1 rfl) ?_
  refine cc_Vqp (vs := [.int p0]) (rest := []) (b := x0) (κ := 5) E hV rfl hA hml hM mx0 kx0 rfl rfl (h4_X5_raceAt l D cA ad av L K I O _ x0 p0 hM.2.2.2.1 mx0 kx0) (cwV 1 hts gk_X5_split_X5_raceAt_1 rfl rfl rfl (by decide +kernel) ⟨Nat.le_of_ble_eq_true rfl, Nat.le_of_ble_eq_true rfl⟩) rfl hl.1 rfl (Nat.le_of_ble_eq_true rfl) dX5_split_2 ⟨show (0 : Nat) ≤ 0 from by omega, show (0 : Nat) ≤ 0 from by omega⟩ (fun r_2 H locs p_3 hM => ?_)
  rcases r_2 with _ | x_5
  · show W _ _ _ _ _ _ _ _ _ _ _ _ _ _ _ (F0 m 5 ls [.null])
    refine lv_astoreN (lv' := [(5, .null), (0, .ref x0), (1, .int p0), (2, .int p1), (3, .int p2), (4, .int p3)]) hx hb dX5_split_5 hl (by decide) rfl (fun ls hl => ?_)
    refine lv_aloadN hx hb dX5_split_7 (lv_at hl 0 rfl) ?_
    refine lv_ifnullN (tgt := 34) hx hb dX5_split_9 (by decide) ?_
    refine lv_bipush (v := (-2)) hx hb dX5_split_34 (by decide) ?_
    exact cr_ri (mc := 0) (ms := 0) E hr hlk hsz hM ⟨show (0 : Nat) ≤ 0 from by omega, show (0 : Nat) ≤ 0 from by omega⟩ trivial dX5_split_36
  · obtain ⟨m_5, k_5⟩ := p_3 x_5 rfl
    show W _ _ _ _ _ _ _ _ _ _ _ _ _ _ _ (F0 m 5 ls [.ref x_5])
    refine lv_astore (lv' := [(5, .ref x_5), (0, .ref x0), (1, .int p0), (2, .int p1), (3, .int p2), (4, .int p3)]) hx hb dX5_split_5 hl (by decide) rfl (fun ls hl => ?_)
    refine lv_aload hx hb dX5_split_7 (lv_at hl 0 rfl) ?_
    refine lv_ifnull hx hb dX5_split_9 ?_
    refine lv_aload_n hx hb dX5_split_12 rfl (lv_at hl 1 rfl) ?_
    refine lv_iload hx hb dX5_split_13 (lv_at hl 5 rfl) ?_
    have b_7 : 0 ≤ (I x0 6).toInt ∧ (I x0 6).toInt ≤ 200 := hM.ib mx0 kx0 6 rfl
    refine cc_Vip (vs := [.int p3]) (rest := []) (b := x0) (κ := 5) E hV rfl hA hml hM mx0 kx0 rfl rfl (h4_X5_isDay l D cA ad av L K I O _ x0 p3 hM.2.2.2.1 mx0 kx0) (cwV 1 hts gk_X5_split_X5_isDay_6 rfl rfl rfl (by decide +kernel) ⟨Nat.le_of_ble_eq_true rfl, Nat.le_of_ble_eq_true rfl⟩) rfl hl.1 rfl (Nat.le_of_ble_eq_true rfl) dX5_split_15 ⟨show (0 : Nat) ≤ 0 from by omega, show (0 : Nat) ≤ 0 from by omega⟩ (fun r_8 H locs p_9 hM => ?_)
    replace p_9 : (r_8.toInt = 1 ∧ 0 ≤ p3.toInt ∧ p3.toInt ≤ (I x0 6).toInt) ∨ (r_8.toInt = 0 ∧ ¬ (0 ≤ p3.toInt ∧ p3.toInt ≤ (I x0 6).toInt)) := p_9
    refine mm_if_eq (X := r_8.toInt) (tgt := 34) hx hb dX5_split_18 (by decide) rfl (fun c_11 => ?_) (fun c_11 => ?_)
    · refine lv_bipush (v := (-2)) hx hb dX5_split_34 (by decide) ?_
      exact cr_ri (mc := 0) (ms := 0) E hr hlk hsz hM ⟨show (0 : Nat) ≤ 0 from by omega, show (0 : Nat) ≤ 0 from by omega⟩ trivial dX5_split_36
    · refine lv_aload hx hb dX5_split_21 (lv_at hl 0 rfl) ?_
      obtain ⟨x_12, o_12, m_12, k_12⟩ := hM.nn m_5 k_5 0 (κ' := 2) rfl rfl
      refine cr_get (κ := 3) (ci := 3) (k := 0) (C := RX3) (T := TX3) (N := 7) (fs := cfs 3) (v := .ref x_12) E hM m_5 k_5 (fun _ _ => rfl) rfl hin3 (by decide) (index := 112) (mm_at 13 rfl) rfl (by show some (va_rf (O x_5 0)) = some (.ref x_12); rw [o_12]; rfl) dX5_split_23 ?_
      refine lv_iconst (v := 0) hx hb dX5_split_26 (by decide) ?_
      refine lv_iload_n hx hb dX5_split_27 rfl (lv_at hl 4 rfl) ?_
      refine cc_Vip (vs := [.int 0, .int p2]) (rest := []) (b := x_12) (κ := 2) E hV rfl hA hml hM m_12 k_12 rfl rfl (h4_X2_hasEvent l D cA ad av L K I O _ x_12 0 p2 hM.2.2.2.1 m_12 k_12) (cwV 2 hts gk_X5_split_X2_hasEvent_13 rfl rfl rfl (by decide +kernel) ⟨Nat.le_of_ble_eq_true rfl, Nat.le_of_ble_eq_true rfl⟩) rfl hl.1 rfl (Nat.le_of_ble_eq_true rfl) dX5_split_28 ⟨show (0 : Nat) ≤ 0 from by omega, show (0 : Nat) ≤ 0 from by omega⟩ (fun r_14 H locs p_15 hM => ?_)
      refine mm_if_ne (X := r_14.toInt) (tgt := 37) hx hb dX5_split_31 (by decide) rfl (fun c_17 => ?_) (fun c_17 => ?_)
      · refine lv_aload hx hb dX5_split_37 (lv_at hl 0 rfl) ?_
        refine lv_iload_n hx hb dX5_split_39 rfl (lv_at hl 3 rfl) ?_
        refine cc_Vqp (vs := [.int p1]) (rest := []) (b := x_5) (κ := 3) E hV rfl hA hml hM m_5 k_5 rfl rfl (h4_X3_entryOf l D cA ad av L K I O _ x_5 p1 hM.2.2.2.1 m_5 k_5) (cwV 1 hts gk_X5_split_X3_entryOf_18 rfl rfl rfl (by decide +kernel) ⟨Nat.le_of_ble_eq_true rfl, Nat.le_of_ble_eq_true rfl⟩) rfl hl.1 rfl (Nat.le_of_ble_eq_true rfl) dX5_split_40 ⟨show (0 : Nat) ≤ 0 from by omega, show (0 : Nat) ≤ 0 from by omega⟩ (fun r_19 H locs p_20 hM => ?_)
        rcases r_19 with _ | x_22
        · show W _ _ _ _ _ _ _ _ _ _ _ _ _ _ _ (F0 m 43 ls [.null])
          refine lv_astoreN (lv' := [(6, .null), (5, .ref x_5), (0, .ref x0), (1, .int p0), (2, .int p1), (3, .int p2), (4, .int p3)]) hx hb dX5_split_43 hl (by decide) rfl (fun ls hl => ?_)
          refine lv_aloadN hx hb dX5_split_45 (lv_at hl 0 rfl) ?_
          refine lv_ifnonnullN hx hb dX5_split_47 ?_
          refine lv_bipush (v := (-2)) hx hb dX5_split_50 (by decide) ?_
          exact cr_ri (mc := 0) (ms := 0) E hr hlk hsz hM ⟨show (0 : Nat) ≤ 0 from by omega, show (0 : Nat) ≤ 0 from by omega⟩ trivial dX5_split_52
        · obtain ⟨m_22, k_22⟩ := p_20 x_22 rfl
          show W _ _ _ _ _ _ _ _ _ _ _ _ _ _ _ (F0 m 43 ls [.ref x_22])
          refine lv_astore (lv' := [(6, .ref x_22), (5, .ref x_5), (0, .ref x0), (1, .int p0), (2, .int p1), (3, .int p2), (4, .int p3)]) hx hb dX5_split_43 hl (by decide) rfl (fun ls hl => ?_)
          refine lv_aload hx hb dX5_split_45 (lv_at hl 0 rfl) ?_
          refine lv_ifnonnull (tgt := 53) hx hb dX5_split_47 (by decide) ?_
          refine lv_aload_n hx hb dX5_split_53 rfl (lv_at hl 2 rfl) ?_
          refine lv_iload_n hx hb dX5_split_54 rfl (lv_at hl 3 rfl) ?_
          refine lv_iconst (v := 1) hx hb dX5_split_55 (by decide) ?_
          refine mm_iaddU hx hb dX5_split_56 (fun z_23 => ?_)
          refine lv_iload hx hb dX5_split_57 (lv_at hl 6 rfl) ?_
          refine cc_Vv (vs := [.int z_23, .int p3]) (rest := []) (b := x0) (κ := 5) E hV rfl hA hml hM mx0 kx0 rfl rfl (h4_X5_workOut l D cA ad av L K I O _ x0 z_23 p3 hM.2.2.2.1 mx0 kx0) (cwV 2 hts gk_X5_split_X5_workOut_24 rfl rfl rfl (by decide +kernel) ⟨Nat.le_of_ble_eq_true rfl, Nat.le_of_ble_eq_true rfl⟩) rfl hl.1 rfl (Nat.le_of_ble_eq_true rfl) dX5_split_59 ⟨show (0 + 0 : Nat) ≤ 0 from by omega, show (0 + 0 : Nat) ≤ 0 from by omega⟩ (fun _ h => by cases h) (by decide) (by decide) (fun L_27 K_27 I_27 O_27 H locs fr_27 p_26 hM => ?_)
          have m_28 := (fr_27 x0 mx0 (fun z => by cases z)).1
          have k_28 : K_27 x0 = 5 := (fr_27 x0 mx0 (fun z => by cases z)).2.1.trans kx0
          have m_29 := (fr_27 x_5 m_5 (fun z => by cases z)).1
          have k_29 : K_27 x_5 = 3 := (fr_27 x_5 m_5 (fun z => by cases z)).2.1.trans k_5
          have m_30 := (fr_27 x_12 m_12 (fun z => by cases z)).1
          have k_30 : K_27 x_12 = 2 := (fr_27 x_12 m_12 (fun z => by cases z)).2.1.trans k_12
          have m_31 := (fr_27 x_22 m_22 (fun z => by cases z)).1
          have k_31 : K_27 x_22 = 0 := (fr_27 x_22 m_22 (fun z => by cases z)).2.1.trans k_22
          refine lv_aload hx hb dX5_split_62 (lv_at hl 0 rfl) ?_
          refine lv_aload hx hb dX5_split_64 (lv_at hl 0 rfl) ?_
          refine lv_iconst (v := 0) hx hb dX5_split_66 (by decide) ?_
          refine lv_iload_n hx hb dX5_split_67 rfl (lv_at hl 5 rfl) ?_
          refine lv_iload hx hb dX5_split_68 (lv_at hl 6 rfl) ?_
          refine cc_Vip (vs := [.int 0, .int p2, .int p3]) (rest := [.ref x_22]) (b := x_22) (κ := 0) E hV rfl hA hml hM m_31 k_31 rfl rfl (h4_X0_known l D cA ad av L_27 K_27 I_27 O_27 _ x_22 0 p2 p3 hM.2.2.2.1 m_31 k_31) (cwV 3 hts gk_X5_split_X0_known_32 rfl rfl rfl (by decide +kernel) ⟨Nat.le_of_ble_eq_true rfl, Nat.le_of_ble_eq_true rfl⟩) rfl hl.1 rfl (Nat.le_of_ble_eq_true rfl) dX5_split_70 ⟨show (0 : Nat) ≤ 0 from by omega, show (0 : Nat) ≤ 0 from by omega⟩ (fun r_33 H locs p_34 hM => ?_)
          refine cc_Vip (vs := [.int r_33]) (rest := []) (b := x_22) (κ := 0) E hV rfl hA hml hM m_31 k_31 rfl rfl (h4_X0_sinceStart l D cA ad av L_27 K_27 I_27 O_27 _ x_22 r_33 hM.2.2.2.1 m_31 k_31) (cwV 1 hts gk_X5_split_X0_sinceStart_36 rfl rfl rfl (by decide +kernel) ⟨Nat.le_of_ble_eq_true rfl, Nat.le_of_ble_eq_true rfl⟩) rfl hl.1 rfl (Nat.le_of_ble_eq_true rfl) dX5_split_73 ⟨show (0 : Nat) ≤ 0 from by omega, show (0 : Nat) ≤ 0 from by omega⟩ (fun r_37 H locs p_38 hM => ?_)
          exact cr_ri (mc := 0) (ms := 0) E hr hlk hsz hM ⟨show (0 : Nat) ≤ 0 from by omega, show (0 : Nat) ≤ 0 from by omega⟩ trivial dX5_split_76
      · refine lv_bipush (v := (-2)) hx hb dX5_split_34 (by decide) ?_
        exact cr_ri (mc := 0) (ms := 0) E hr hlk hsz hM ⟨show (0 : Nat) ≤ 0 from by omega, show (0 : Nat) ≤ 0 from by omega⟩ trivial dX5_split_36
def w4X5_order : List Cond := .code yX5_order cX5_order 6 (some .int) :: ([.fieldLink RX5 106 "SkiShots$Race" "entryCount" "I", .fieldLink RX5 161 "SkiShots$Race" "entries" "[LSkiShots$Entry;", .methodLink RX5 209 yX0_hasTime, .instanceMethod yX0_hasTime, .selects RX0 yX0_hasTime yX0_hasTime, .initialized RX0, .code yX0_hasTime cX0_hasTime 1 (some .boolean), .fieldLink RX0 39 "SkiShots$Entry" "low" "I", .methodLink RX5 212 yX3_aheadInOrder, .instanceMethod yX3_aheadInOrder, .selects RX3 yX3_aheadInOrder yX3_aheadInOrder, .initialized RX3, .code yX3_aheadInOrder cX3_aheadInOrder 5 (some .int), .fieldLink RX3 29 "SkiShots$Race" "entryCount" "I", .fieldLink RX3 25 "SkiShots$Race" "entries" "[LSkiShots$Entry;", .fieldLink RX3 53 "SkiShots$Entry" "low" "I", .fieldLink RX5 165 "SkiShots$Entry" "racer" "I", .methodLink RX5 83 yX5_raceAt, .instanceMethod yX5_raceAt, .selects RX5 yX5_raceAt yX5_raceAt, .initialized RX5, .code yX5_raceAt cX5_raceAt 2 (some (.object "SkiShots$Race")), .fieldLink RX5 80 "SkiShots" "raceCount" "I", .fieldLink RX5 29 "SkiShots" "races" "[LSkiShots$Race;", .methodLink RX5 168 yX5_isDay, .instanceMethod yX5_isDay, .selects RX5 yX5_isDay yX5_isDay, .code yX5_isDay cX5_isDay 2 (some .boolean), .fieldLink RX5 70 "SkiShots" "today" "I", .methodLink RX5 171 yX5_workOut, .instanceMethod yX5_workOut, .selects RX5 yX5_workOut yX5_workOut, .code yX5_workOut cX5_workOut 4 none, .methodLink RX5 228 yX3_workOut, .instanceMethod yX3_workOut, .selects RX3 yX3_workOut yX3_workOut, .code yX3_workOut cX3_workOut 4 none, .fieldLink RX3 9 "SkiShots$Race" "format" "LSkiShots$Format;", .methodLink RX3 41 yX3_startOf, .instanceMethod yX3_startOf, .selects RX3 yX3_startOf yX3_startOf, .code yX3_startOf cX3_startOf 2 (some .int), .fieldLink RX3 56 "SkiShots$Format" "startSort" "I", .fieldLink RX3 61 "SkiShots$Format" "startSeconds" "I", .fieldLink RX3 35 "SkiShots$Entry" "racer" "I", .methodLink RX3 64 yX3_chaseStart, .instanceMethod yX3_chaseStart, .selects RX3 yX3_chaseStart yX3_chaseStart, .code yX3_chaseStart cX3_chaseStart 4 (some .int), .fieldLink RX3 15 "SkiShots$Race" "by" "LSkiShots$Race;", .methodLink RX3 67 yX3_entryOf, .instanceMethod yX3_entryOf, .selects RX3 yX3_entryOf yX3_entryOf, .code yX3_entryOf cX3_entryOf 3 (some (.object "SkiShots$Entry")), .methodLink RX3 49 yX0_hasTime, .fieldLink RX3 38 "SkiShots$Race" "leastLow" "I", .methodLink RX3 71 Lib.Math.min.name, .static Lib.Math.min.name, .initialized "java/lang/Math", .code Lib.Math.min.name Lib.Math.min.code 2 (some .int), .methodLink RX3 45 yX0_workOut, .instanceMethod yX0_workOut, .selects RX0 yX0_workOut yX0_workOut, .code yX0_workOut cX0_workOut 5 none, .fieldLink RX0 56 "SkiShots$Entry" "leastPenalty" "I", .fieldLink RX0 59 "SkiShots$Entry" "greatestPenalty" "I", .fieldLink RX0 78 "SkiShots$Entry" "high" "I", .fieldLink RX0 62 "SkiShots$Format" "shootings" "I", .fieldLink RX0 46 "SkiShots$Entry" "struck" "Z", .fieldLink RX0 71 "SkiShots$Format" "laps" "I", .methodLink RX0 42 yX0_known, .instanceMethod yX0_known, .selects RX0 yX0_known yX0_known, .code yX0_known cX0_known 5 (some .int), .fieldLink RX0 19 "SkiShots$Event" "day" "I", .fieldLink RX0 33 "SkiShots$Event" "before" "LSkiShots$Event;", .fieldLink RX0 24 "SkiShots$Event" "sort" "I", .fieldLink RX0 27 "SkiShots$Event" "k" "I", .fieldLink RX0 30 "SkiShots$Event" "v" "I", .fieldLink RX0 15 "SkiShots$Entry" "latest" "LSkiShots$Event;", .methodLink RX0 74 yX0_sinceStart, .instanceMethod yX0_sinceStart, .selects RX0 yX0_sinceStart yX0_sinceStart, .code yX0_sinceStart cX0_sinceStart 2 (some .int), .fieldLink RX0 36 "SkiShots$Entry" "start" "I", .methodLink RX0 67 yX0_addShooting, .instanceMethod yX0_addShooting, .selects RX0 yX0_addShooting yX0_addShooting, .code yX0_addShooting cX0_addShooting 11 none, .fieldLink RX0 89 "SkiShots$Format" "missSeconds" "I", .fieldLink RX0 50 "SkiShots$Entry" "fewestMisses" "I", .fieldLink RX0 53 "SkiShots$Entry" "mostMisses" "I", .methodLink RX0 92 Lib.Math.max.name, .static Lib.Math.max.name, .code Lib.Math.max.name Lib.Math.max.code 2 (some .int), .methodLink RX0 81 yJ6_bitCount_0f7a4, .static yJ6_bitCount_0f7a4, .initialized RJ6, .code yJ6_bitCount_0f7a4 cJ6_bitCount_0f7a4 1 (some .int), .constant RJ6 265 (1431655765), .constant RJ6 266 (858993459), .constant RJ6 267 (252645135), .fieldLink RX0 86 "SkiShots$Format" "loops" "Z"] ++ wsX00 ++ wsX10 ++ wsX20 ++ wsX30 ++ wsX50)
set_option maxRecDepth 20000 in
theorem gk_X5_order_X0_hasTime_6 : GoodIn w4X5_order (wsV RX5 209 RX0 yX0_hasTime w4X0_hasTime) := goodIn_p _ [7] rfl (by decide +kernel)
set_option maxRecDepth 20000 in
theorem gk_X5_order_X3_aheadInOrder_12 : GoodIn w4X5_order (wsV RX5 212 RX3 yX3_aheadInOrder w4X3_aheadInOrder) := goodIn_p _ [13] rfl (by decide +kernel)
set_option maxRecDepth 20000 in
theorem gk_X5_order_X5_raceAt_19 : GoodIn w4X5_order (wsV RX5 83 RX5 yX5_raceAt w4X5_raceAt) := goodIn_p _ [22] rfl (by decide +kernel)
set_option maxRecDepth 20000 in
theorem gk_X5_order_X5_isDay_24 : GoodIn w4X5_order (wsV RX5 168 RX5 yX5_isDay w4X5_isDay) := goodIn_p _ [28] rfl (by decide +kernel)
set_option maxRecDepth 20000 in
theorem gk_X5_order_X5_workOut_31 : GoodIn w4X5_order (wsV RX5 171 RX5 yX5_workOut w4X5_workOut) := goodIn_p _ [33, 37, 42, 49, 54, 7, 60, 64, 74, 84, 89, 95, 99] rfl (by decide +kernel)
set_option maxHeartbeats 4000000 in
set_option maxRecDepth 100000 in
theorem h4_X5_order (l : Launch) (D : va_G) (cA : Nat → ClassId) (ad av : Nat → Nat) (L : List Nat) (K : Nat → Nat) (I : Nat → Nat → Int32) (O : Nat → Nat → Option Nat) (sz : Nat) (x0 : Nat) (p0 : Int32) (p1 : Int32) (p2 : Int32) (hI : cI L K I O) (mx0 : x0 ∈ L) (kx0 : K x0 = 5)  : Met l yX5_order w4X5_order ({ frames := 5, cells := 0, slots := 0, locals := 124 }) (cPre D cA ad av L K I O sz [.ref x0, .int p0, .int p1, .int p2]) (cQi D cA L K I O sz [] [(0, 2), (0, 3), (0, 4), (0, 5), (0, 6), (0, 7), (0, 8), (0, 9), (3, 6)] [] (fun r L' K' I' O' => True)) 0 0 (va_A (cW cA L K I O) sz) := by
  refine cr_met (own := RX5) (xs := []) (WI := [(0, 2), (0, 3), (0, 4), (0, 5), (0, 6), (0, 7), (0, 8), (0, 9), (3, 6)]) (WO := []) (cc := cX5_order) (maxL := 6) (ret := (some .int)) (by decide) rfl rfl (Nat.le_of_ble_eq_true rfl) hI ?_
  intro p e s m args below meth c ls E hV hml hr hlk hname hsz hA hM hl
  have hx := E.1
  have hb := E.2.1
  have hts := E.2.2.1
  have hown := E.2.2.2.1
  have hl : lv_has ls 6 [(0, .ref x0), (1, .int p0), (2, .int p1), (3, .int p2)] := hl
  have hin0 : ∀ w ∈ wsX00, w ∈ w4X5_order := by decide +kernel
  have hin1 : ∀ w ∈ wsX10, w ∈ w4X5_order := by decide +kernel
  have hin2 : ∀ w ∈ wsX20, w ∈ w4X5_order := by decide +kernel
  have hin3 : ∀ w ∈ wsX30, w ∈ w4X5_order := by decide +kernel
  have hin5 : ∀ w ∈ wsX50, w ∈ w4X5_order := by decide +kernel
  have B_33 : ∀ n_33 : Nat, ∀ (H : Heap) (locs : List Loc) (ls : Array Slot) (Lc_33 : List Nat) (Kc_33 : Nat → Nat) (Ic_33 : Nat → Nat → Int32) (Oc_33 : Nat → Nat → Option Nat) (i : Int32) (wh : Nat), wh ∈ Lc_33 → Kc_33 wh = 3 → (0 ≤ i.toInt ∧ i.toInt ≤ 16) → (16 - i.toInt) < (n_33 : Int) → cQ D cA (va_A (cW cA L K I O) sz) s.heap [] [(0, 2), (0, 3), (0, 4), (0, 5), (0, 6), (0, 7), (0, 8), (0, 9), (3, 6)] [] L K I O H locs Lc_33 Kc_33 Ic_33 Oc_33 → lv_has ls 6 [(0, .ref x0), (1, .int p0), (2, .int p1), (3, .int p2), (4, .ref wh), (5, .int i)] → W p l e ({ frames := 5, cells := 0, slots := 0, locals := 124 }) s m args below meth c H locs 0 0 (MQ below (cQi D cA L K I O sz [] [(0, 2), (0, 3), (0, 4), (0, 5), (0, 6), (0, 7), (0, 8), (0, 9), (3, 6)] [] (fun r L' K' I' O' => True)) args s 0 0 (va_A (cW cA L K I O) sz)) (F0 m 33 ls []) := by
    intro n_33
    induction n_33 with
    | zero => intro H locs ls Lc_33 Kc_33 Ic_33 Oc_33 i wh y33_0 y33_1 f33_0 hn hM hl; exact False.elim (by omega)
    | succ n_33 ih_33 =>
      intro H locs ls Lc_33 Kc_33 Ic_33 Oc_33 i wh y33_0 y33_1 f33_0 hn hM hl
      have hfr_33 := hM.2.2.2.2
      have m_1 := (hfr_33 x0 mx0 (fun z => by cases z)).1
      have k_1 : Kc_33 x0 = 5 := (hfr_33 x0 mx0 (fun z => by cases z)).2.1.trans kx0
      refine lv_iload hx hb dX5_order_33 (lv_at hl 5 rfl) ?_
      refine lv_aload hx hb dX5_order_35 (lv_at hl 4 rfl) ?_
      have b_2 : 0 ≤ (Ic_33 wh 4).toInt ∧ (Ic_33 wh 4).toInt ≤ 16 := hM.ib y33_0 y33_1 4 rfl
      refine cr_get (κ := 3) (ci := 3) (k := 4) (C := RX3) (T := TX3) (N := 7) (fs := cfs 3) (v := .int (Ic_33 wh 4)) E hM y33_0 y33_1 (fun _ _ => rfl) rfl hin3 (by decide) (index := 106) (mm_at 1 rfl) rfl rfl dX5_order_37 ?_
      refine mm_icmp_ge (X := i.toInt) (Y := (Ic_33 wh 4).toInt) (tgt := 86) hx hb dX5_order_40 (by decide) rfl rfl (fun c_3 => ?_) (fun c_3 => ?_)
      · refine lv_iconst (v := (-1)) hx hb dX5_order_86 (by decide) ?_
        exact cr_ri (mc := 0) (ms := 0) E hr hlk hsz hM ⟨show (0 : Nat) ≤ 0 from by omega, show (0 : Nat) ≤ 0 from by omega⟩ trivial dX5_order_87
      · refine lv_aload hx hb dX5_order_43 (lv_at hl 4 rfl) ?_
        obtain ⟨x_4, o_4, m_4, k_4⟩ := hM.nn y33_0 y33_1 3 (κ' := 15) rfl rfl
        refine cr_get (κ := 3) (ci := 3) (k := 3) (C := RX3) (T := TX3) (N := 7) (fs := cfs 3) (v := .ref x_4) E hM y33_0 y33_1 (fun _ _ => rfl) rfl hin3 (by decide) (index := 161) (mm_at 2 rfl) rfl (by show some (va_rf (Oc_33 wh 3)) = some (.ref x_4); rw [o_4]; rfl) dX5_order_45 ?_
        refine lv_iload hx hb dX5_order_48 (lv_at hl 5 rfl) ?_
        obtain ⟨x_5, o_5⟩ := c_nn ((hM.sp y33_0 y33_1).2.1 rfl x_4 o_4 (Int32.toNatClampNeg i) (by rw [mm_nat]; omega))
        obtain ⟨m_5, k_5⟩ := hM.rt m_4 k_4 (Int32.toNatClampNeg i) (κ' := 0) rfl o_5
        refine cr_aalds (κ := 15) (t0 := 4) (X := i.toInt) E hM m_4 k_4 (fun _ _ => rfl) rfl rfl (by omega) o_5 dX5_order_50 ?_
        refine cc_Vip (vs := []) (rest := []) (b := x_5) (κ := 0) E hV rfl hA hml hM m_5 k_5 rfl rfl (h4_X0_hasTime l D cA ad av Lc_33 Kc_33 Ic_33 Oc_33 _ x_5 hM.2.2.2.1 m_5 k_5) (cwV 0 hts gk_X5_order_X0_hasTime_6 rfl rfl rfl (by decide +kernel) ⟨Nat.le_of_ble_eq_true rfl, Nat.le_of_ble_eq_true rfl⟩) rfl hl.1 rfl (Nat.le_of_ble_eq_true rfl) dX5_order_51 ⟨show (0 : Nat) ≤ 0 from by omega, show (0 : Nat) ≤ 0 from by omega⟩ (fun r_7 H locs p_8 hM => ?_)
        refine mm_if_eq (X := r_7.toInt) (tgt := 80) hx hb dX5_order_54 (by decide) rfl (fun c_10 => ?_) (fun c_10 => ?_)
        · refine mm_iinc (X := i.toInt) (v := 1) (lv2 := fun z => [(5, .int z), (0, .ref x0), (1, .int p0), (2, .int p1), (3, .int p2), (4, .ref wh)]) hx hb dX5_order_80 hl (k := 5) rfl rfl (by decide) num_1 (by omega) (by decide) (fun _ => rfl) (fun z_11 ls hz_11 hl => ?_)
          have hl : lv_has ls 6 [(5, .int z_11), (0, .ref x0), (1, .int p0), (2, .int p1), (3, .int p2), (4, .ref wh)] := hl
          refine lv_goto (tgt := 33) hx hb dX5_order_83 (by decide) ?_
          exact ih_33 _ _ _ Lc_33 Kc_33 Ic_33 Oc_33 z_11 wh  y33_0 y33_1 (show (0 ≤ z_11.toInt ∧ z_11.toInt ≤ 16) from by omega) (show (16 - z_11.toInt) < ((n_33 : Nat) : Int) from by omega) hM (lv_sub hl [1, 2, 3, 4, 5, 0] rfl)
        · refine lv_aload hx hb dX5_order_57 (lv_at hl 4 rfl) ?_
          refine lv_iload hx hb dX5_order_59 (lv_at hl 5 rfl) ?_
          refine cc_Vip (vs := [.int i]) (rest := []) (b := wh) (κ := 3) E hV rfl hA hml hM y33_0 y33_1 rfl rfl (h4_X3_aheadInOrder l D cA ad av Lc_33 Kc_33 Ic_33 Oc_33 _ wh i hM.2.2.2.1 y33_0 y33_1 (show 0 ≤ i.toInt ∧ i.toInt < (Ic_33 wh 4).toInt from by omega)) (cwV 1 hts gk_X5_order_X3_aheadInOrder_12 rfl rfl rfl (by decide +kernel) ⟨Nat.le_of_ble_eq_true rfl, Nat.le_of_ble_eq_true rfl⟩) rfl hl.1 rfl (Nat.le_of_ble_eq_true rfl) dX5_order_61 ⟨show (0 : Nat) ≤ 0 from by omega, show (0 : Nat) ≤ 0 from by omega⟩ (fun r_13 H locs p_14 hM => ?_)
          refine lv_iload_n hx hb dX5_order_64 rfl (lv_at hl 3 rfl) ?_
          refine mm_icmp_ne (X := r_13.toInt) (Y := p2.toInt) (tgt := 80) hx hb dX5_order_65 (by decide) rfl rfl (fun c_16 => ?_) (fun c_16 => ?_)
          · refine mm_iinc (X := i.toInt) (v := 1) (lv2 := fun z => [(5, .int z), (0, .ref x0), (1, .int p0), (2, .int p1), (3, .int p2), (4, .ref wh)]) hx hb dX5_order_80 hl (k := 5) rfl rfl (by decide) num_1 (by omega) (by decide) (fun _ => rfl) (fun z_17 ls hz_17 hl => ?_)
            have hl : lv_has ls 6 [(5, .int z_17), (0, .ref x0), (1, .int p0), (2, .int p1), (3, .int p2), (4, .ref wh)] := hl
            refine lv_goto (tgt := 33) hx hb dX5_order_83 (by decide) ?_
            exact ih_33 _ _ _ Lc_33 Kc_33 Ic_33 Oc_33 z_17 wh  y33_0 y33_1 (show (0 ≤ z_17.toInt ∧ z_17.toInt ≤ 16) from by omega) (show (16 - z_17.toInt) < ((n_33 : Nat) : Int) from by omega) hM (lv_sub hl [1, 2, 3, 4, 5, 0] rfl)
          · refine lv_aload hx hb dX5_order_68 (lv_at hl 4 rfl) ?_
            refine cr_get (κ := 3) (ci := 3) (k := 3) (C := RX3) (T := TX3) (N := 7) (fs := cfs 3) (v := .ref x_4) E hM y33_0 y33_1 (fun _ _ => rfl) rfl hin3 (by decide) (index := 161) (mm_at 2 rfl) rfl (by show some (va_rf (Oc_33 wh 3)) = some (.ref x_4); rw [o_4]; rfl) dX5_order_70 ?_
            refine lv_iload hx hb dX5_order_73 (lv_at hl 5 rfl) ?_
            refine cr_aalds (κ := 15) (t0 := 4) (X := i.toInt) E hM m_4 k_4 (fun _ _ => rfl) rfl rfl (by omega) o_5 dX5_order_75 ?_
            have b_18 : 0 ≤ (Ic_33 x_5 0).toInt ∧ (Ic_33 x_5 0).toInt ≤ 15 := hM.ib m_5 k_5 0 rfl
            refine cr_get (κ := 0) (ci := 0) (k := 0) (C := RX0) (T := TX0) (N := 10) (fs := cfs 0) (v := .int (Ic_33 x_5 0)) E hM m_5 k_5 (fun _ _ => rfl) rfl hin0 (by decide) (index := 165) (mm_at 17 rfl) rfl rfl dX5_order_76 ?_
            exact cr_ri (mc := 0) (ms := 0) E hr hlk hsz hM ⟨show (0 : Nat) ≤ 0 from by omega, show (0 : Nat) ≤ 0 from by omega⟩ trivial dX5_order_79
  refine lv_aload_n hx hb dX5_order_0 rfl (lv_at hl 0 rfl) ?_
  refine lv_iload_n hx hb dX5_order_1 rfl (lv_at hl 1 rfl) ?_
  refine cc_Vqp (vs := [.int p0]) (rest := []) (b := x0) (κ := 5) E hV rfl hA hml hM mx0 kx0 rfl rfl (h4_X5_raceAt l D cA ad av L K I O _ x0 p0 hM.2.2.2.1 mx0 kx0) (cwV 1 hts gk_X5_order_X5_raceAt_19 rfl rfl rfl (by decide +kernel) ⟨Nat.le_of_ble_eq_true rfl, Nat.le_of_ble_eq_true rfl⟩) rfl hl.1 rfl (Nat.le_of_ble_eq_true rfl) dX5_order_2 ⟨show (0 : Nat) ≤ 0 from by omega, show (0 : Nat) ≤ 0 from by omega⟩ (fun r_20 H locs p_21 hM => ?_)
  rcases r_20 with _ | x_23
  · show W _ _ _ _ _ _ _ _ _ _ _ _ _ _ _ (F0 m 5 ls [.null])
    refine lv_astoreN (lv' := [(4, .null), (0, .ref x0), (1, .int p0), (2, .int p1), (3, .int p2)]) hx hb dX5_order_5 hl (by decide) rfl (fun ls hl => ?_)
    refine lv_aloadN hx hb dX5_order_7 (lv_at hl 0 rfl) ?_
    refine lv_ifnullN (tgt := 20) hx hb dX5_order_9 (by decide) ?_
    refine lv_iconst (v := (-1)) hx hb dX5_order_20 (by decide) ?_
    exact cr_ri (mc := 0) (ms := 0) E hr hlk hsz hM ⟨show (0 : Nat) ≤ 0 from by omega, show (0 : Nat) ≤ 0 from by omega⟩ trivial dX5_order_21
  · obtain ⟨m_23, k_23⟩ := p_21 x_23 rfl
    show W _ _ _ _ _ _ _ _ _ _ _ _ _ _ _ (F0 m 5 ls [.ref x_23])
    refine lv_astore (lv' := [(4, .ref x_23), (0, .ref x0), (1, .int p0), (2, .int p1), (3, .int p2)]) hx hb dX5_order_5 hl (by decide) rfl (fun ls hl => ?_)
    refine lv_aload hx hb dX5_order_7 (lv_at hl 0 rfl) ?_
    refine lv_ifnull hx hb dX5_order_9 ?_
    refine lv_aload_n hx hb dX5_order_12 rfl (lv_at hl 1 rfl) ?_
    refine lv_iload_n hx hb dX5_order_13 rfl (lv_at hl 3 rfl) ?_
    have b_25 : 0 ≤ (I x0 6).toInt ∧ (I x0 6).toInt ≤ 200 := hM.ib mx0 kx0 6 rfl
    refine cc_Vip (vs := [.int p1]) (rest := []) (b := x0) (κ := 5) E hV rfl hA hml hM mx0 kx0 rfl rfl (h4_X5_isDay l D cA ad av L K I O _ x0 p1 hM.2.2.2.1 mx0 kx0) (cwV 1 hts gk_X5_order_X5_isDay_24 rfl rfl rfl (by decide +kernel) ⟨Nat.le_of_ble_eq_true rfl, Nat.le_of_ble_eq_true rfl⟩) rfl hl.1 rfl (Nat.le_of_ble_eq_true rfl) dX5_order_14 ⟨show (0 : Nat) ≤ 0 from by omega, show (0 : Nat) ≤ 0 from by omega⟩ (fun r_26 H locs p_27 hM => ?_)
    replace p_27 : (r_26.toInt = 1 ∧ 0 ≤ p1.toInt ∧ p1.toInt ≤ (I x0 6).toInt) ∨ (r_26.toInt = 0 ∧ ¬ (0 ≤ p1.toInt ∧ p1.toInt ≤ (I x0 6).toInt)) := p_27
    refine mm_if_ne (X := r_26.toInt) (tgt := 22) hx hb dX5_order_17 (by decide) rfl (fun c_29 => ?_) (fun c_29 => ?_)
    · refine lv_aload_n hx hb dX5_order_22 rfl (lv_at hl 1 rfl) ?_
      refine lv_iload_n hx hb dX5_order_23 rfl (lv_at hl 2 rfl) ?_
      refine lv_iconst (v := 1) hx hb dX5_order_24 (by decide) ?_
      refine mm_iaddU hx hb dX5_order_25 (fun z_30 => ?_)
      refine lv_iload_n hx hb dX5_order_26 rfl (lv_at hl 3 rfl) ?_
      refine cc_Vv (vs := [.int z_30, .int p1]) (rest := []) (b := x0) (κ := 5) E hV rfl hA hml hM mx0 kx0 rfl rfl (h4_X5_workOut l D cA ad av L K I O _ x0 z_30 p1 hM.2.2.2.1 mx0 kx0) (cwV 2 hts gk_X5_order_X5_workOut_31 rfl rfl rfl (by decide +kernel) ⟨Nat.le_of_ble_eq_true rfl, Nat.le_of_ble_eq_true rfl⟩) rfl hl.1 rfl (Nat.le_of_ble_eq_true rfl) dX5_order_27 ⟨show (0 + 0 : Nat) ≤ 0 from by omega, show (0 + 0 : Nat) ≤ 0 from by omega⟩ (fun _ h => by cases h) (by decide) (by decide) (fun L_34 K_34 I_34 O_34 H locs fr_34 p_33 hM => ?_)
      have m_35 := (fr_34 x0 mx0 (fun z => by cases z)).1
      have k_35 : K_34 x0 = 5 := (fr_34 x0 mx0 (fun z => by cases z)).2.1.trans kx0
      have m_36 := (fr_34 x_23 m_23 (fun z => by cases z)).1
      have k_36 : K_34 x_23 = 3 := (fr_34 x_23 m_23 (fun z => by cases z)).2.1.trans k_23
      refine lv_iconst (v := 0) hx hb dX5_order_30 (by decide) ?_
      refine lv_istore (lv' := [(5, .int 0), (4, .ref x_23), (0, .ref x0), (1, .int p0), (2, .int p1), (3, .int p2)]) hx hb dX5_order_31 hl (by decide) rfl (fun ls hl => ?_)
      exact B_33 4294967296 _ _ _ L_34 K_34 I_34 O_34 0 x_23  m_36 k_36 (show (0 ≤ (0 : Int32).toInt ∧ (0 : Int32).toInt ≤ 16) from by have n_0 := num_0; omega) (show (16 - (0 : Int32).toInt) < ((4294967296 : Nat) : Int) from by have n_0 := num_0; omega) hM (lv_sub hl [2, 3, 4, 5, 1, 0] rfl)
    · refine lv_iconst (v := (-1)) hx hb dX5_order_20 (by decide) ?_
      exact cr_ri (mc := 0) (ms := 0) E hr hlk hsz hM ⟨show (0 : Nat) ≤ 0 from by omega, show (0 : Nat) ≤ 0 from by omega⟩ trivial dX5_order_21
def w4X5_points : List Cond := .code yX5_points cX5_points 3 (some .int) :: ([.methodLink RX5 93 yX5_isRacer, .instanceMethod yX5_isRacer, .selects RX5 yX5_isRacer yX5_isRacer, .initialized RX5, .code yX5_isRacer cX5_isRacer 2 (some .boolean), .fieldLink RX5 77 "SkiShots" "racerCount" "I", .methodLink RX5 168 yX5_isDay, .instanceMethod yX5_isDay, .selects RX5 yX5_isDay yX5_isDay, .code yX5_isDay cX5_isDay 2 (some .boolean), .fieldLink RX5 70 "SkiShots" "today" "I", .methodLink RX5 215 yX5_addUpCup, .instanceMethod yX5_addUpCup, .selects RX5 yX5_addUpCup yX5_addUpCup, .code yX5_addUpCup cX5_addUpCup 3 none, .fieldLink RX5 80 "SkiShots" "raceCount" "I", .fieldLink RX5 29 "SkiShots" "races" "[LSkiShots$Race;", .methodLink RX5 230 yX5_addToCup, .instanceMethod yX5_addToCup, .selects RX5 yX5_addToCup yX5_addToCup, .code yX5_addToCup cX5_addToCup 4 none, .fieldLink RX5 106 "SkiShots$Race" "entryCount" "I", .fieldLink RX5 161 "SkiShots$Race" "entries" "[LSkiShots$Entry;", .methodLink RX5 209 yX0_hasTime, .instanceMethod yX0_hasTime, .selects RX0 yX0_hasTime yX0_hasTime, .initialized RX0, .code yX0_hasTime cX0_hasTime 1 (some .boolean), .fieldLink RX0 39 "SkiShots$Entry" "low" "I", .fieldLink RX5 33 "SkiShots" "cup" "[I", .fieldLink RX5 165 "SkiShots$Entry" "racer" "I", .methodLink RX5 188 yX3_lastPlace, .instanceMethod yX3_lastPlace, .selects RX3 yX3_lastPlace yX3_lastPlace, .initialized RX3, .code yX3_lastPlace cX3_lastPlace 5 (some .int), .fieldLink RX3 29 "SkiShots$Race" "entryCount" "I", .fieldLink RX3 25 "SkiShots$Race" "entries" "[LSkiShots$Entry;", .methodLink RX3 49 yX0_hasTime, .fieldLink RX3 53 "SkiShots$Entry" "low" "I", .fieldLink RX3 77 "SkiShots$Entry" "high" "I", .methodLink RX5 234 Lib.Math.max.name, .static Lib.Math.max.name, .initialized "java/lang/Math", .code Lib.Math.max.name Lib.Math.max.code 2 (some .int), .methodLink RX5 171 yX5_workOut, .instanceMethod yX5_workOut, .selects RX5 yX5_workOut yX5_workOut, .code yX5_workOut cX5_workOut 4 none, .methodLink RX5 228 yX3_workOut, .instanceMethod yX3_workOut, .selects RX3 yX3_workOut yX3_workOut, .code yX3_workOut cX3_workOut 4 none, .fieldLink RX3 9 "SkiShots$Race" "format" "LSkiShots$Format;", .methodLink RX3 41 yX3_startOf, .instanceMethod yX3_startOf, .selects RX3 yX3_startOf yX3_startOf, .code yX3_startOf cX3_startOf 2 (some .int), .fieldLink RX3 56 "SkiShots$Format" "startSort" "I", .fieldLink RX3 61 "SkiShots$Format" "startSeconds" "I", .fieldLink RX3 35 "SkiShots$Entry" "racer" "I", .methodLink RX3 64 yX3_chaseStart, .instanceMethod yX3_chaseStart, .selects RX3 yX3_chaseStart yX3_chaseStart, .code yX3_chaseStart cX3_chaseStart 4 (some .int), .fieldLink RX3 15 "SkiShots$Race" "by" "LSkiShots$Race;", .methodLink RX3 67 yX3_entryOf, .instanceMethod yX3_entryOf, .selects RX3 yX3_entryOf yX3_entryOf, .code yX3_entryOf cX3_entryOf 3 (some (.object "SkiShots$Entry")), .fieldLink RX3 38 "SkiShots$Race" "leastLow" "I", .methodLink RX3 71 Lib.Math.min.name, .static Lib.Math.min.name, .code Lib.Math.min.name Lib.Math.min.code 2 (some .int), .methodLink RX3 45 yX0_workOut, .instanceMethod yX0_workOut, .selects RX0 yX0_workOut yX0_workOut, .code yX0_workOut cX0_workOut 5 none, .fieldLink RX0 56 "SkiShots$Entry" "leastPenalty" "I", .fieldLink RX0 59 "SkiShots$Entry" "greatestPenalty" "I", .fieldLink RX0 78 "SkiShots$Entry" "high" "I", .fieldLink RX0 62 "SkiShots$Format" "shootings" "I", .fieldLink RX0 46 "SkiShots$Entry" "struck" "Z", .fieldLink RX0 71 "SkiShots$Format" "laps" "I", .methodLink RX0 42 yX0_known, .instanceMethod yX0_known, .selects RX0 yX0_known yX0_known, .code yX0_known cX0_known 5 (some .int), .fieldLink RX0 19 "SkiShots$Event" "day" "I", .fieldLink RX0 33 "SkiShots$Event" "before" "LSkiShots$Event;", .fieldLink RX0 24 "SkiShots$Event" "sort" "I", .fieldLink RX0 27 "SkiShots$Event" "k" "I", .fieldLink RX0 30 "SkiShots$Event" "v" "I", .fieldLink RX0 15 "SkiShots$Entry" "latest" "LSkiShots$Event;", .methodLink RX0 74 yX0_sinceStart, .instanceMethod yX0_sinceStart, .selects RX0 yX0_sinceStart yX0_sinceStart, .code yX0_sinceStart cX0_sinceStart 2 (some .int), .fieldLink RX0 36 "SkiShots$Entry" "start" "I", .methodLink RX0 67 yX0_addShooting, .instanceMethod yX0_addShooting, .selects RX0 yX0_addShooting yX0_addShooting, .code yX0_addShooting cX0_addShooting 11 none, .fieldLink RX0 89 "SkiShots$Format" "missSeconds" "I", .fieldLink RX0 50 "SkiShots$Entry" "fewestMisses" "I", .fieldLink RX0 53 "SkiShots$Entry" "mostMisses" "I", .methodLink RX0 92 Lib.Math.max.name, .methodLink RX0 81 yJ6_bitCount_0f7a4, .static yJ6_bitCount_0f7a4, .initialized RJ6, .code yJ6_bitCount_0f7a4 cJ6_bitCount_0f7a4 1 (some .int), .constant RJ6 265 (1431655765), .constant RJ6 266 (858993459), .constant RJ6 267 (252645135), .fieldLink RX0 86 "SkiShots$Format" "loops" "Z"] ++ wsX00 ++ wsX10 ++ wsX20 ++ wsX30 ++ wsX50)
set_option maxRecDepth 20000 in
theorem gk_X5_points_X5_isRacer_1 : GoodIn w4X5_points (wsV RX5 93 RX5 yX5_isRacer w4X5_isRacer) := goodIn_p _ [5] rfl (by decide +kernel)
set_option maxRecDepth 20000 in
theorem gk_X5_points_X5_isDay_7 : GoodIn w4X5_points (wsV RX5 168 RX5 yX5_isDay w4X5_isDay) := goodIn_p _ [10] rfl (by decide +kernel)
set_option maxRecDepth 20000 in
theorem gk_X5_points_X5_addUpCup_13 : GoodIn w4X5_points (wsV RX5 215 RX5 yX5_addUpCup w4X5_addUpCup) := goodIn_p _ [15, 21, 28, 36, 45, 49, 53, 58, 65, 70, 74, 78, 88, 98, 103, 111] rfl (by decide +kernel)
set_option maxHeartbeats 4000000 in
set_option maxRecDepth 100000 in
theorem h4_X5_points (l : Launch) (D : va_G) (cA : Nat → ClassId) (ad av : Nat → Nat) (L : List Nat) (K : Nat → Nat) (I : Nat → Nat → Int32) (O : Nat → Nat → Option Nat) (sz : Nat) (x0 : Nat) (p0 : Int32) (p1 : Int32) (hI : cI L K I O) (mx0 : x0 ∈ L) (kx0 : K x0 = 5)  : Met l yX5_points w4X5_points ({ frames := 6, cells := 0, slots := 0, locals := 146 }) (cPre D cA ad av L K I O sz [.ref x0, .int p0, .int p1]) (cQi D cA L K I O sz [] [(0, 2), (0, 3), (0, 4), (0, 5), (0, 6), (0, 7), (0, 8), (0, 9), (3, 6), (13, 0)] [] (fun r L' K' I' O' => True)) 0 0 (va_A (cW cA L K I O) sz) := by
  refine cr_met (own := RX5) (xs := []) (WI := [(0, 2), (0, 3), (0, 4), (0, 5), (0, 6), (0, 7), (0, 8), (0, 9), (3, 6), (13, 0)]) (WO := []) (cc := cX5_points) (maxL := 3) (ret := (some .int)) (by decide) rfl rfl (Nat.le_of_ble_eq_true rfl) hI ?_
  intro p e s m args below meth c ls E hV hml hr hlk hname hsz hA hM hl
  have hx := E.1
  have hb := E.2.1
  have hts := E.2.2.1
  have hown := E.2.2.2.1
  have hl : lv_has ls 3 [(0, .ref x0), (1, .int p0), (2, .int p1)] := hl
  have hin0 : ∀ w ∈ wsX00, w ∈ w4X5_points := by decide +kernel
  have hin1 : ∀ w ∈ wsX10, w ∈ w4X5_points := by decide +kernel
  have hin2 : ∀ w ∈ wsX20, w ∈ w4X5_points := by decide +kernel
  have hin3 : ∀ w ∈ wsX30, w ∈ w4X5_points := by decide +kernel
  have hin5 : ∀ w ∈ wsX50, w ∈ w4X5_points := by decide +kernel
  refine lv_aload_n hx hb dX5_points_0 rfl (lv_at hl 0 rfl) ?_
  refine lv_iload_n hx hb dX5_points_1 rfl (lv_at hl 1 rfl) ?_
  have b_2 : 0 ≤ (I x0 8).toInt ∧ (I x0 8).toInt ≤ 16 := hM.ib mx0 kx0 8 rfl
  refine cc_Vip (vs := [.int p0]) (rest := []) (b := x0) (κ := 5) E hV rfl hA hml hM mx0 kx0 rfl rfl (h4_X5_isRacer l D cA ad av L K I O _ x0 p0 hM.2.2.2.1 mx0 kx0) (cwV 1 hts gk_X5_points_X5_isRacer_1 rfl rfl rfl (by decide +kernel) ⟨Nat.le_of_ble_eq_true rfl, Nat.le_of_ble_eq_true rfl⟩) rfl hl.1 rfl (Nat.le_of_ble_eq_true rfl) dX5_points_2 ⟨show (0 : Nat) ≤ 0 from by omega, show (0 : Nat) ≤ 0 from by omega⟩ (fun r_3 H locs p_4 hM => ?_)
  replace p_4 : (r_3.toInt = 1 ∧ 0 ≤ p0.toInt ∧ p0.toInt < (I x0 8).toInt) ∨ (r_3.toInt = 0 ∧ ¬ (0 ≤ p0.toInt ∧ p0.toInt < (I x0 8).toInt)) := p_4
  refine mm_if_eq (X := r_3.toInt) (tgt := 16) hx hb dX5_points_5 (by decide) rfl (fun c_6 => ?_) (fun c_6 => ?_)
  · refine lv_iconst (v := (-1)) hx hb dX5_points_16 (by decide) ?_
    exact cr_ri (mc := 0) (ms := 0) E hr hlk hsz hM ⟨show (0 : Nat) ≤ 0 from by omega, show (0 : Nat) ≤ 0 from by omega⟩ trivial dX5_points_17
  · refine lv_aload_n hx hb dX5_points_8 rfl (lv_at hl 0 rfl) ?_
    refine lv_iload_n hx hb dX5_points_9 rfl (lv_at hl 2 rfl) ?_
    have b_8 : 0 ≤ (I x0 6).toInt ∧ (I x0 6).toInt ≤ 200 := hM.ib mx0 kx0 6 rfl
    refine cc_Vip (vs := [.int p1]) (rest := []) (b := x0) (κ := 5) E hV rfl hA hml hM mx0 kx0 rfl rfl (h4_X5_isDay l D cA ad av L K I O _ x0 p1 hM.2.2.2.1 mx0 kx0) (cwV 1 hts gk_X5_points_X5_isDay_7 rfl rfl rfl (by decide +kernel) ⟨Nat.le_of_ble_eq_true rfl, Nat.le_of_ble_eq_true rfl⟩) rfl hl.1 rfl (Nat.le_of_ble_eq_true rfl) dX5_points_10 ⟨show (0 : Nat) ≤ 0 from by omega, show (0 : Nat) ≤ 0 from by omega⟩ (fun r_9 H locs p_10 hM => ?_)
    replace p_10 : (r_9.toInt = 1 ∧ 0 ≤ p1.toInt ∧ p1.toInt ≤ (I x0 6).toInt) ∨ (r_9.toInt = 0 ∧ ¬ (0 ≤ p1.toInt ∧ p1.toInt ≤ (I x0 6).toInt)) := p_10
    refine mm_if_ne (X := r_9.toInt) (tgt := 18) hx hb dX5_points_13 (by decide) rfl (fun c_12 => ?_) (fun c_12 => ?_)
    · refine lv_aload_n hx hb dX5_points_18 rfl (lv_at hl 0 rfl) ?_
      refine lv_iload_n hx hb dX5_points_19 rfl (lv_at hl 2 rfl) ?_
      refine cc_Vv (vs := [.int p1]) (rest := []) (b := x0) (κ := 5) E hV rfl hA hml hM mx0 kx0 rfl rfl (h4_X5_addUpCup l D cA ad av L K I O _ x0 p1 hM.2.2.2.1 mx0 kx0) (cwV 1 hts gk_X5_points_X5_addUpCup_13 rfl rfl rfl (by decide +kernel) ⟨Nat.le_of_ble_eq_true rfl, Nat.le_of_ble_eq_true rfl⟩) rfl hl.1 rfl (Nat.le_of_ble_eq_true rfl) dX5_points_20 ⟨show (0 + 0 : Nat) ≤ 0 from by omega, show (0 + 0 : Nat) ≤ 0 from by omega⟩ (fun _ h => by cases h) (by decide) (by decide) (fun L_16 K_16 I_16 O_16 H locs fr_16 p_15 hM => ?_)
      have m_17 := (fr_16 x0 mx0 (fun z => by cases z)).1
      have k_17 : K_16 x0 = 5 := (fr_16 x0 mx0 (fun z => by cases z)).2.1.trans kx0
      refine lv_aload_n hx hb dX5_points_23 rfl (lv_at hl 0 rfl) ?_
      obtain ⟨x_18, o_18, m_18, k_18⟩ := hM.nn m_17 k_17 12 (κ' := 13) rfl rfl
      refine cr_get (κ := 5) (ci := 5) (k := 12) (C := RX5) (T := TX5) (N := 13) (fs := cfs 5) (v := .ref x_18) E hM m_17 k_17 (fun _ _ => rfl) rfl hin5 (by decide) (index := 33) (mm_at 30 rfl) rfl (by show some (va_rf (O_16 x0 12)) = some (.ref x_18); rw [o_18]; rfl) dX5_points_24 ?_
      refine lv_iload_n hx hb dX5_points_27 rfl (lv_at hl 1 rfl) ?_
      refine cr_iald (κ := 13) (t0 := 1) (X := p0.toInt) E hM m_18 k_18 (fun _ _ => rfl) rfl rfl (by omega) dX5_points_28 ?_
      exact cr_ri (mc := 0) (ms := 0) E hr hlk hsz hM ⟨show (0 : Nat) ≤ 0 from by omega, show (0 : Nat) ≤ 0 from by omega⟩ trivial dX5_points_29
    · refine lv_iconst (v := (-1)) hx hb dX5_points_16 (by decide) ?_
      exact cr_ri (mc := 0) (ms := 0) E hr hlk hsz hM ⟨show (0 : Nat) ≤ 0 from by omega, show (0 : Nat) ≤ 0 from by omega⟩ trivial dX5_points_17
def w4X5_standing : List Cond := .code yX5_standing cX5_standing 3 (some .int) :: ([.methodLink RX5 93 yX5_isRacer, .instanceMethod yX5_isRacer, .selects RX5 yX5_isRacer yX5_isRacer, .initialized RX5, .code yX5_isRacer cX5_isRacer 2 (some .boolean), .fieldLink RX5 77 "SkiShots" "racerCount" "I", .methodLink RX5 168 yX5_isDay, .instanceMethod yX5_isDay, .selects RX5 yX5_isDay yX5_isDay, .code yX5_isDay cX5_isDay 2 (some .boolean), .fieldLink RX5 70 "SkiShots" "today" "I", .methodLink RX5 215 yX5_addUpCup, .instanceMethod yX5_addUpCup, .selects RX5 yX5_addUpCup yX5_addUpCup, .code yX5_addUpCup cX5_addUpCup 3 none, .fieldLink RX5 80 "SkiShots" "raceCount" "I", .fieldLink RX5 29 "SkiShots" "races" "[LSkiShots$Race;", .methodLink RX5 230 yX5_addToCup, .instanceMethod yX5_addToCup, .selects RX5 yX5_addToCup yX5_addToCup, .code yX5_addToCup cX5_addToCup 4 none, .fieldLink RX5 106 "SkiShots$Race" "entryCount" "I", .fieldLink RX5 161 "SkiShots$Race" "entries" "[LSkiShots$Entry;", .methodLink RX5 209 yX0_hasTime, .instanceMethod yX0_hasTime, .selects RX0 yX0_hasTime yX0_hasTime, .initialized RX0, .code yX0_hasTime cX0_hasTime 1 (some .boolean), .fieldLink RX0 39 "SkiShots$Entry" "low" "I", .fieldLink RX5 33 "SkiShots" "cup" "[I", .fieldLink RX5 165 "SkiShots$Entry" "racer" "I", .methodLink RX5 188 yX3_lastPlace, .instanceMethod yX3_lastPlace, .selects RX3 yX3_lastPlace yX3_lastPlace, .initialized RX3, .code yX3_lastPlace cX3_lastPlace 5 (some .int), .fieldLink RX3 29 "SkiShots$Race" "entryCount" "I", .fieldLink RX3 25 "SkiShots$Race" "entries" "[LSkiShots$Entry;", .methodLink RX3 49 yX0_hasTime, .fieldLink RX3 53 "SkiShots$Entry" "low" "I", .fieldLink RX3 77 "SkiShots$Entry" "high" "I", .methodLink RX5 234 Lib.Math.max.name, .static Lib.Math.max.name, .initialized "java/lang/Math", .code Lib.Math.max.name Lib.Math.max.code 2 (some .int), .methodLink RX5 171 yX5_workOut, .instanceMethod yX5_workOut, .selects RX5 yX5_workOut yX5_workOut, .code yX5_workOut cX5_workOut 4 none, .methodLink RX5 228 yX3_workOut, .instanceMethod yX3_workOut, .selects RX3 yX3_workOut yX3_workOut, .code yX3_workOut cX3_workOut 4 none, .fieldLink RX3 9 "SkiShots$Race" "format" "LSkiShots$Format;", .methodLink RX3 41 yX3_startOf, .instanceMethod yX3_startOf, .selects RX3 yX3_startOf yX3_startOf, .code yX3_startOf cX3_startOf 2 (some .int), .fieldLink RX3 56 "SkiShots$Format" "startSort" "I", .fieldLink RX3 61 "SkiShots$Format" "startSeconds" "I", .fieldLink RX3 35 "SkiShots$Entry" "racer" "I", .methodLink RX3 64 yX3_chaseStart, .instanceMethod yX3_chaseStart, .selects RX3 yX3_chaseStart yX3_chaseStart, .code yX3_chaseStart cX3_chaseStart 4 (some .int), .fieldLink RX3 15 "SkiShots$Race" "by" "LSkiShots$Race;", .methodLink RX3 67 yX3_entryOf, .instanceMethod yX3_entryOf, .selects RX3 yX3_entryOf yX3_entryOf, .code yX3_entryOf cX3_entryOf 3 (some (.object "SkiShots$Entry")), .fieldLink RX3 38 "SkiShots$Race" "leastLow" "I", .methodLink RX3 71 Lib.Math.min.name, .static Lib.Math.min.name, .code Lib.Math.min.name Lib.Math.min.code 2 (some .int), .methodLink RX3 45 yX0_workOut, .instanceMethod yX0_workOut, .selects RX0 yX0_workOut yX0_workOut, .code yX0_workOut cX0_workOut 5 none, .fieldLink RX0 56 "SkiShots$Entry" "leastPenalty" "I", .fieldLink RX0 59 "SkiShots$Entry" "greatestPenalty" "I", .fieldLink RX0 78 "SkiShots$Entry" "high" "I", .fieldLink RX0 62 "SkiShots$Format" "shootings" "I", .fieldLink RX0 46 "SkiShots$Entry" "struck" "Z", .fieldLink RX0 71 "SkiShots$Format" "laps" "I", .methodLink RX0 42 yX0_known, .instanceMethod yX0_known, .selects RX0 yX0_known yX0_known, .code yX0_known cX0_known 5 (some .int), .fieldLink RX0 19 "SkiShots$Event" "day" "I", .fieldLink RX0 33 "SkiShots$Event" "before" "LSkiShots$Event;", .fieldLink RX0 24 "SkiShots$Event" "sort" "I", .fieldLink RX0 27 "SkiShots$Event" "k" "I", .fieldLink RX0 30 "SkiShots$Event" "v" "I", .fieldLink RX0 15 "SkiShots$Entry" "latest" "LSkiShots$Event;", .methodLink RX0 74 yX0_sinceStart, .instanceMethod yX0_sinceStart, .selects RX0 yX0_sinceStart yX0_sinceStart, .code yX0_sinceStart cX0_sinceStart 2 (some .int), .fieldLink RX0 36 "SkiShots$Entry" "start" "I", .methodLink RX0 67 yX0_addShooting, .instanceMethod yX0_addShooting, .selects RX0 yX0_addShooting yX0_addShooting, .code yX0_addShooting cX0_addShooting 11 none, .fieldLink RX0 89 "SkiShots$Format" "missSeconds" "I", .fieldLink RX0 50 "SkiShots$Entry" "fewestMisses" "I", .fieldLink RX0 53 "SkiShots$Entry" "mostMisses" "I", .methodLink RX0 92 Lib.Math.max.name, .methodLink RX0 81 yJ6_bitCount_0f7a4, .static yJ6_bitCount_0f7a4, .initialized RJ6, .code yJ6_bitCount_0f7a4 cJ6_bitCount_0f7a4 1 (some .int), .constant RJ6 265 (1431655765), .constant RJ6 266 (858993459), .constant RJ6 267 (252645135), .fieldLink RX0 86 "SkiShots$Format" "loops" "Z", .methodLink RX5 218 yX5_standingInCup, .instanceMethod yX5_standingInCup, .selects RX5 yX5_standingInCup yX5_standingInCup, .code yX5_standingInCup cX5_standingInCup 4 (some .int)] ++ wsX00 ++ wsX10 ++ wsX20 ++ wsX30 ++ wsX50)
set_option maxRecDepth 20000 in
theorem gk_X5_standing_X5_isRacer_1 : GoodIn w4X5_standing (wsV RX5 93 RX5 yX5_isRacer w4X5_isRacer) := goodIn_p _ [5] rfl (by decide +kernel)
set_option maxRecDepth 20000 in
theorem gk_X5_standing_X5_isDay_7 : GoodIn w4X5_standing (wsV RX5 168 RX5 yX5_isDay w4X5_isDay) := goodIn_p _ [10] rfl (by decide +kernel)
set_option maxRecDepth 20000 in
theorem gk_X5_standing_X5_addUpCup_13 : GoodIn w4X5_standing (wsV RX5 215 RX5 yX5_addUpCup w4X5_addUpCup) := goodIn_p _ [15, 21, 28, 36, 45, 49, 53, 58, 65, 70, 74, 78, 88, 98, 103, 111] rfl (by decide +kernel)
set_option maxRecDepth 20000 in
theorem gk_X5_standing_X5_standingInCup_18 : GoodIn w4X5_standing (wsV RX5 218 RX5 yX5_standingInCup w4X5_standingInCup) := goodIn_p _ [119] rfl (by decide +kernel)
set_option maxHeartbeats 4000000 in
set_option maxRecDepth 100000 in
theorem h4_X5_standing (l : Launch) (D : va_G) (cA : Nat → ClassId) (ad av : Nat → Nat) (L : List Nat) (K : Nat → Nat) (I : Nat → Nat → Int32) (O : Nat → Nat → Option Nat) (sz : Nat) (x0 : Nat) (p0 : Int32) (p1 : Int32) (hI : cI L K I O) (mx0 : x0 ∈ L) (kx0 : K x0 = 5)  : Met l yX5_standing w4X5_standing ({ frames := 6, cells := 0, slots := 0, locals := 146 }) (cPre D cA ad av L K I O sz [.ref x0, .int p0, .int p1]) (cQi D cA L K I O sz [] [(0, 2), (0, 3), (0, 4), (0, 5), (0, 6), (0, 7), (0, 8), (0, 9), (3, 6), (13, 0)] [] (fun r L' K' I' O' => True)) 0 0 (va_A (cW cA L K I O) sz) := by
  refine cr_met (own := RX5) (xs := []) (WI := [(0, 2), (0, 3), (0, 4), (0, 5), (0, 6), (0, 7), (0, 8), (0, 9), (3, 6), (13, 0)]) (WO := []) (cc := cX5_standing) (maxL := 3) (ret := (some .int)) (by decide) rfl rfl (Nat.le_of_ble_eq_true rfl) hI ?_
  intro p e s m args below meth c ls E hV hml hr hlk hname hsz hA hM hl
  have hx := E.1
  have hb := E.2.1
  have hts := E.2.2.1
  have hown := E.2.2.2.1
  have hl : lv_has ls 3 [(0, .ref x0), (1, .int p0), (2, .int p1)] := hl
  have hin0 : ∀ w ∈ wsX00, w ∈ w4X5_standing := by decide +kernel
  have hin1 : ∀ w ∈ wsX10, w ∈ w4X5_standing := by decide +kernel
  have hin2 : ∀ w ∈ wsX20, w ∈ w4X5_standing := by decide +kernel
  have hin3 : ∀ w ∈ wsX30, w ∈ w4X5_standing := by decide +kernel
  have hin5 : ∀ w ∈ wsX50, w ∈ w4X5_standing := by decide +kernel
  refine lv_aload_n hx hb dX5_standing_0 rfl (lv_at hl 0 rfl) ?_
  refine lv_iload_n hx hb dX5_standing_1 rfl (lv_at hl 1 rfl) ?_
  have b_2 : 0 ≤ (I x0 8).toInt ∧ (I x0 8).toInt ≤ 16 := hM.ib mx0 kx0 8 rfl
  refine cc_Vip (vs := [.int p0]) (rest := []) (b := x0) (κ := 5) E hV rfl hA hml hM mx0 kx0 rfl rfl (h4_X5_isRacer l D cA ad av L K I O _ x0 p0 hM.2.2.2.1 mx0 kx0) (cwV 1 hts gk_X5_standing_X5_isRacer_1 rfl rfl rfl (by decide +kernel) ⟨Nat.le_of_ble_eq_true rfl, Nat.le_of_ble_eq_true rfl⟩) rfl hl.1 rfl (Nat.le_of_ble_eq_true rfl) dX5_standing_2 ⟨show (0 : Nat) ≤ 0 from by omega, show (0 : Nat) ≤ 0 from by omega⟩ (fun r_3 H locs p_4 hM => ?_)
  replace p_4 : (r_3.toInt = 1 ∧ 0 ≤ p0.toInt ∧ p0.toInt < (I x0 8).toInt) ∨ (r_3.toInt = 0 ∧ ¬ (0 ≤ p0.toInt ∧ p0.toInt < (I x0 8).toInt)) := p_4
  refine mm_if_eq (X := r_3.toInt) (tgt := 16) hx hb dX5_standing_5 (by decide) rfl (fun c_6 => ?_) (fun c_6 => ?_)
  · refine lv_iconst (v := (-1)) hx hb dX5_standing_16 (by decide) ?_
    exact cr_ri (mc := 0) (ms := 0) E hr hlk hsz hM ⟨show (0 : Nat) ≤ 0 from by omega, show (0 : Nat) ≤ 0 from by omega⟩ trivial dX5_standing_17
  · refine lv_aload_n hx hb dX5_standing_8 rfl (lv_at hl 0 rfl) ?_
    refine lv_iload_n hx hb dX5_standing_9 rfl (lv_at hl 2 rfl) ?_
    have b_8 : 0 ≤ (I x0 6).toInt ∧ (I x0 6).toInt ≤ 200 := hM.ib mx0 kx0 6 rfl
    refine cc_Vip (vs := [.int p1]) (rest := []) (b := x0) (κ := 5) E hV rfl hA hml hM mx0 kx0 rfl rfl (h4_X5_isDay l D cA ad av L K I O _ x0 p1 hM.2.2.2.1 mx0 kx0) (cwV 1 hts gk_X5_standing_X5_isDay_7 rfl rfl rfl (by decide +kernel) ⟨Nat.le_of_ble_eq_true rfl, Nat.le_of_ble_eq_true rfl⟩) rfl hl.1 rfl (Nat.le_of_ble_eq_true rfl) dX5_standing_10 ⟨show (0 : Nat) ≤ 0 from by omega, show (0 : Nat) ≤ 0 from by omega⟩ (fun r_9 H locs p_10 hM => ?_)
    replace p_10 : (r_9.toInt = 1 ∧ 0 ≤ p1.toInt ∧ p1.toInt ≤ (I x0 6).toInt) ∨ (r_9.toInt = 0 ∧ ¬ (0 ≤ p1.toInt ∧ p1.toInt ≤ (I x0 6).toInt)) := p_10
    refine mm_if_ne (X := r_9.toInt) (tgt := 18) hx hb dX5_standing_13 (by decide) rfl (fun c_12 => ?_) (fun c_12 => ?_)
    · refine lv_aload_n hx hb dX5_standing_18 rfl (lv_at hl 0 rfl) ?_
      refine lv_iload_n hx hb dX5_standing_19 rfl (lv_at hl 2 rfl) ?_
      refine cc_Vv (vs := [.int p1]) (rest := []) (b := x0) (κ := 5) E hV rfl hA hml hM mx0 kx0 rfl rfl (h4_X5_addUpCup l D cA ad av L K I O _ x0 p1 hM.2.2.2.1 mx0 kx0) (cwV 1 hts gk_X5_standing_X5_addUpCup_13 rfl rfl rfl (by decide +kernel) ⟨Nat.le_of_ble_eq_true rfl, Nat.le_of_ble_eq_true rfl⟩) rfl hl.1 rfl (Nat.le_of_ble_eq_true rfl) dX5_standing_20 ⟨show (0 + 0 : Nat) ≤ 0 from by omega, show (0 + 0 : Nat) ≤ 0 from by omega⟩ (fun _ h => by cases h) (by decide) (by decide) (fun L_16 K_16 I_16 O_16 H locs fr_16 p_15 hM => ?_)
      have m_17 := (fr_16 x0 mx0 (fun z => by cases z)).1
      have k_17 : K_16 x0 = 5 := (fr_16 x0 mx0 (fun z => by cases z)).2.1.trans kx0
      refine lv_aload_n hx hb dX5_standing_23 rfl (lv_at hl 0 rfl) ?_
      refine lv_iload_n hx hb dX5_standing_24 rfl (lv_at hl 1 rfl) ?_
      refine cc_Vip (vs := [.int p0]) (rest := []) (b := x0) (κ := 5) E hV rfl hA hml hM m_17 k_17 rfl rfl (h4_X5_standingInCup l D cA ad av L_16 K_16 I_16 O_16 _ x0 p0 hM.2.2.2.1 m_17 k_17 (show 0 ≤ p0.toInt ∧ p0.toInt < 16 from by omega)) (cwV 1 hts gk_X5_standing_X5_standingInCup_18 rfl rfl rfl (by decide +kernel) ⟨Nat.le_of_ble_eq_true rfl, Nat.le_of_ble_eq_true rfl⟩) rfl hl.1 rfl (Nat.le_of_ble_eq_true rfl) dX5_standing_25 ⟨show (0 : Nat) ≤ 0 from by omega, show (0 : Nat) ≤ 0 from by omega⟩ (fun r_19 H locs p_20 hM => ?_)
      exact cr_ri (mc := 0) (ms := 0) E hr hlk hsz hM ⟨show (0 : Nat) ≤ 0 from by omega, show (0 : Nat) ≤ 0 from by omega⟩ trivial dX5_standing_28
    · refine lv_iconst (v := (-1)) hx hb dX5_standing_16 (by decide) ?_
      exact cr_ri (mc := 0) (ms := 0) E hr hlk hsz hM ⟨show (0 : Nat) ≤ 0 from by omega, show (0 : Nat) ≤ 0 from by omega⟩ trivial dX5_standing_17
