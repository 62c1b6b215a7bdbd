theorem num_2 : (2 : Int32).toInt = 2 := by decide
theorem num_9 : (9 : Int32).toInt = 9 := by decide
theorem num_31 : (31 : Int32).toInt = 31 := by decide
theorem num_400 : (400 : Int32).toInt = 400 := by decide
theorem num_200000 : (200000 : Int32).toInt = 200000 := by decide
def w3X6_isIn : List Cond := .code yX6_isIn cX6_isIn 3 (some .boolean) :: ([.methodLink RX6 203 yX6_isRace, .instanceMethod yX6_isRace, .selects RX6 yX6_isRace yX6_isRace, .initialized RX6, .code yX6_isRace cX6_isRace 2 (some .boolean), .fieldLink RX6 200 "SkiShotsModel" "races" "I", .methodLink RX6 206 yX6_isRacer, .instanceMethod yX6_isRacer, .selects RX6 yX6_isRacer yX6_isRacer, .code yX6_isRacer cX6_isRacer 2 (some .boolean), .fieldLink RX6 197 "SkiShotsModel" "racers" "I", .fieldLink RX6 81 "SkiShotsModel" "entryOf" "[I"] ++ wsX60)
set_option maxRecDepth 20000 in
theorem gc_X6_isIn_X6_isRace_1 : GoodIn w3X6_isIn (wsV RX6 203 RX6 yX6_isRace w3X6_isRace) := goodIn_p _ [5] rfl (by decide +kernel)
set_option maxRecDepth 20000 in
theorem gc_X6_isIn_X6_isRacer_6 : GoodIn w3X6_isIn (wsV RX6 206 RX6 yX6_isRacer w3X6_isRacer) := goodIn_p _ [10] rfl (by decide +kernel)
set_option maxHeartbeats 4000000 in
set_option maxRecDepth 100000 in
theorem g3_X6_isIn (l : Launch) (D : va_G) (h0 : Nat) (q : Nat → Nat) (cq : Nat → ClassId) (F : Nat → Int32) (G : Nat → Nat → Int32) (sz : Nat) (p0 : Int32) (p1 : Int32) (hI : mI F G)  : Met l yX6_isIn w3X6_isIn ({ frames := 1, cells := 0, slots := 0, locals := 21 }) (mPre D h0 q cq F G sz [.ref h0, .int p0, .int p1]) (mQi D h0 q cq F G sz [] [] (fun r F' G' => (r.toInt = 1 ∧ 0 ≤ p0.toInt ∧ p0.toInt < (F 17).toInt ∧ 0 ≤ p1.toInt ∧ p1.toInt < (F 15).toInt) ∨ r.toInt = 0)) 0 0 (va_A (mW h0 q cq F G) sz) := by
  refine mr_met (WF := []) (WG := []) (cc := cX6_isIn) (maxL := 3) (ret := (some .boolean)) (by decide) rfl rfl (by decide +kernel) (Nat.le_of_ble_eq_true rfl) hI ?_
  intro p e s m args below meth c ls E hml hr hlk hsz hA hM hl
  have hx := E.1
  have hb := E.2.1
  have hts := E.2.2.1
  have hown := E.2.2.2.2.1
  have hl : lv_has ls 3 [(0, .ref h0), (1, .int p0), (2, .int p1)] := hl
  refine lv_aload_n hx hb dX6_isIn_0 rfl (lv_at hl 0 rfl) ?_
  refine lv_iload_n hx hb dX6_isIn_1 rfl (lv_at hl 1 rfl) ?_
  have b_2 : 0 ≤ (F 17).toInt ∧ (F 17).toInt ≤ 8 := hM.fb 17 rfl
  refine mr_callp (av := [.int p0]) (rest := []) E hA hml hM (g3_X6_isRace l D h0 q cq F G _ p0 hM.2.2.2.1 ) (cwV 1 hts gc_X6_isIn_X6_isRace_1 rfl rfl rfl (by decide +kernel) ⟨Nat.le_of_ble_eq_true rfl, Nat.le_of_ble_eq_true rfl⟩) rfl hl.1 rfl (Nat.le_of_ble_eq_true rfl) dX6_isIn_2 ⟨Nat.le_of_ble_eq_true rfl, Nat.le_of_ble_eq_true rfl⟩ (fun r_3 H locs p_4 hM => ?_)
  replace p_4 : (r_3.toInt = 1 ∧ 0 ≤ p0.toInt ∧ p0.toInt < (F 17).toInt) ∨ (r_3.toInt = 0 ∧ ¬ (0 ≤ p0.toInt ∧ p0.toInt < (F 17).toInt)) := p_4
  refine mm_if_eq (X := r_3.toInt) (tgt := 34) hx hb dX6_isIn_5 (by decide) rfl (fun c_5 => ?_) (fun c_5 => ?_)
  · refine lv_iconst (v := 0) hx hb dX6_isIn_34 (by decide) ?_
    exact mr_rz (X := 0) E hr hlk hsz hM num_0 (by omega) (show ((0 : Int32).toInt = 1 ∧ 0 ≤ p0.toInt ∧ p0.toInt < (F 17).toInt ∧ 0 ≤ p1.toInt ∧ p1.toInt < (F 15).toInt) ∨ (0 : Int32).toInt = 0 from by have n9 := num_0; omega) dX6_isIn_35
  · refine lv_aload_n hx hb dX6_isIn_8 rfl (lv_at hl 0 rfl) ?_
    refine lv_iload_n hx hb dX6_isIn_9 rfl (lv_at hl 2 rfl) ?_
    have b_7 : 0 ≤ (F 15).toInt ∧ (F 15).toInt ≤ 16 := hM.fb 15 rfl
    refine mr_callp (av := [.int p1]) (rest := []) E hA hml hM (g3_X6_isRacer l D h0 q cq F G _ p1 hM.2.2.2.1 ) (cwV 1 hts gc_X6_isIn_X6_isRacer_6 rfl rfl rfl (by decide +kernel) ⟨Nat.le_of_ble_eq_true rfl, Nat.le_of_ble_eq_true rfl⟩) rfl hl.1 rfl (Nat.le_of_ble_eq_true rfl) dX6_isIn_10 ⟨Nat.le_of_ble_eq_true rfl, Nat.le_of_ble_eq_true rfl⟩ (fun r_8 H locs p_9 hM => ?_)
    replace p_9 : (r_8.toInt = 1 ∧ 0 ≤ p1.toInt ∧ p1.toInt < (F 15).toInt) ∨ (r_8.toInt = 0 ∧ ¬ (0 ≤ p1.toInt ∧ p1.toInt < (F 15).toInt)) := p_9
    refine mm_if_eq (X := r_8.toInt) (tgt := 34) hx hb dX6_isIn_13 (by decide) rfl (fun c_10 => ?_) (fun c_10 => ?_)
    · refine lv_iconst (v := 0) hx hb dX6_isIn_34 (by decide) ?_
      exact mr_rz (X := 0) E hr hlk hsz hM num_0 (by omega) (show ((0 : Int32).toInt = 1 ∧ 0 ≤ p0.toInt ∧ p0.toInt < (F 17).toInt ∧ 0 ≤ p1.toInt ∧ p1.toInt < (F 15).toInt) ∨ (0 : Int32).toInt = 0 from by have n9 := num_0; omega) dX6_isIn_35
    · refine lv_aload_n hx hb dX6_isIn_16 rfl (lv_at hl 0 rfl) ?_
      refine mr_get (v := .ref (q 30)) E hM 30 (by decide) (index := 81) (mm_at 12 rfl) rfl rfl dX6_isIn_17 ?_
      refine lv_bipush (v := 16) hx hb dX6_isIn_20 (by decide) ?_
      refine lv_iload_n hx hb dX6_isIn_22 rfl (lv_at hl 1 rfl) ?_
      refine mm_imul (X := 16) (Y := p0.toInt) hx hb dX6_isIn_23 num_16 rfl (by omega) (fun z_11 hz_11 => ?_)
      refine lv_iload_n hx hb dX6_isIn_24 rfl (lv_at hl 2 rfl) ?_
      refine mm_iadd (X := z_11.toInt) (Y := p1.toInt) hx hb dX6_isIn_25 rfl rfl (by omega) (fun z_12 hz_12 => ?_)
      refine mr_ald (X := z_12.toInt) E hM 23 22 rfl rfl rfl (by omega) dX6_isIn_26 ?_
      have b_13 : -1 ≤ (G 30 (Int32.toNatClampNeg z_12)).toInt ∧ (G 30 (Int32.toNatClampNeg z_12)).toInt ≤ 15 := hM.ab 30 rfl _
      refine mm_if_lt (X := (G 30 (Int32.toNatClampNeg z_12)).toInt) (tgt := 34) hx hb dX6_isIn_27 (by decide) rfl (fun c_14 => ?_) (fun c_14 => ?_)
      · refine lv_iconst (v := 0) hx hb dX6_isIn_34 (by decide) ?_
        exact mr_rz (X := 0) E hr hlk hsz hM num_0 (by omega) (show ((0 : Int32).toInt = 1 ∧ 0 ≤ p0.toInt ∧ p0.toInt < (F 17).toInt ∧ 0 ≤ p1.toInt ∧ p1.toInt < (F 15).toInt) ∨ (0 : Int32).toInt = 0 from by have n9 := num_0; omega) dX6_isIn_35
      · refine lv_iconst (v := 1) hx hb dX6_isIn_30 (by decide) ?_
        refine lv_goto (tgt := 35) hx hb dX6_isIn_31 (by decide) ?_
        exact mr_rz (X := 1) E hr hlk hsz hM num_1 (by omega) (show ((1 : Int32).toInt = 1 ∧ 0 ≤ p0.toInt ∧ p0.toInt < (F 17).toInt ∧ 0 ≤ p1.toInt ∧ p1.toInt < (F 15).toInt) ∨ (1 : Int32).toInt = 0 from by have n9 := num_1; omega) dX6_isIn_35
def w3X6_look : List Cond := .code yX6_look cX6_look 3 (some .int) :: ([.fieldLink RX6 126 "SkiShotsModel" "thrown" "I", .methodLink RX6 203 yX6_isRace, .instanceMethod yX6_isRace, .selects RX6 yX6_isRace yX6_isRace, .initialized RX6, .code yX6_isRace cX6_isRace 2 (some .boolean), .fieldLink RX6 200 "SkiShotsModel" "races" "I", .fieldLink RX6 45 "SkiShotsModel" "rName" "[I", .fieldLink RX6 48 "SkiShotsModel" "rLaps" "[I", .fieldLink RX6 51 "SkiShotsModel" "rShoots" "[I", .fieldLink RX6 54 "SkiShotsModel" "rSpares" "[I", .fieldLink RX6 69 "SkiShotsModel" "rBy" "[I", .fieldLink RX6 72 "SkiShotsModel" "rEntries" "[I", .fieldLink RX6 75 "SkiShotsModel" "rEvents" "[I", .methodLink RX6 220 yX6_fails, .instanceMethod yX6_fails, .selects RX6 yX6_fails yX6_fails, .code yX6_fails cX6_fails 2 (some .int)] ++ wsX60)
set_option maxRecDepth 20000 in
theorem gc_X6_look_X6_isRace_1 : GoodIn w3X6_look (wsV RX6 203 RX6 yX6_isRace w3X6_isRace) := goodIn_p _ [6] rfl (by decide +kernel)
set_option maxRecDepth 20000 in
theorem gc_X6_look_X6_fails_16 : GoodIn w3X6_look (wsV RX6 220 RX6 yX6_fails w3X6_fails) := goodIn_p _ [18] rfl (by decide +kernel)
set_option maxRecDepth 20000 in
theorem gc_X6_look_X6_fails_22 : GoodIn w3X6_look (wsV RX6 220 RX6 yX6_fails w3X6_fails) := goodIn_p _ [18] rfl (by decide +kernel)
set_option maxHeartbeats 4000000 in
set_option maxRecDepth 100000 in
theorem g3_X6_look (l : Launch) (D : va_G) (h0 : Nat) (q : Nat → Nat) (cq : Nat → ClassId) (F : Nat → Int32) (G : Nat → Nat → Int32) (sz : Nat) (p0 : Int32) (p1 : Int32) (hI : mI F G)  : Met l yX6_look w3X6_look ({ frames := 1, cells := 0, slots := 0, locals := 21 }) (mPre D h0 q cq F G sz [.ref h0, .int p0, .int p1]) (mQi D h0 q cq F G sz [2] [] (fun r F' G' => True)) 0 0 (va_A (mW h0 q cq F G) sz) := by
  refine mr_met (WF := [2]) (WG := []) (cc := cX6_look) (maxL := 3) (ret := (some .int)) (by decide) rfl rfl (by decide +kernel) (Nat.le_of_ble_eq_true rfl) hI ?_
  intro p e s m args below meth c ls E hml hr hlk hsz hA hM hl
  have hx := E.1
  have hb := E.2.1
  have hts := E.2.2.1
  have hown := E.2.2.2.2.1
  have hl : lv_has ls 3 [(0, .ref h0), (1, .int p0), (2, .int p1)] := hl
  refine lv_aload_n hx hb dX6_look_0 rfl (lv_at hl 0 rfl) ?_
  refine lv_iconst (v := 0) hx hb dX6_look_1 (by decide) ?_
  refine mr_put (v := 0) E hM 2 (by decide) (index := 126) (mm_at 1 rfl) rfl rfl (by decide +kernel) ms_2 (mm_nb rfl) (by decide) dX6_look_2 (fun H locs hM => ?_)
  refine lv_aload_n hx hb dX6_look_5 rfl (lv_at hl 0 rfl) ?_
  refine lv_iload_n hx hb dX6_look_6 rfl (lv_at hl 1 rfl) ?_
  have b_2 : 0 ≤ (F 17).toInt ∧ (F 17).toInt ≤ 8 := hM.fb 17 rfl
  refine mr_callp (av := [.int p0]) (rest := []) E hA hml hM (g3_X6_isRace l D h0 q cq (upd F 2 0) G _ p0 hM.2.2.2.1 ) (cwV 1 hts gc_X6_look_X6_isRace_1 rfl rfl rfl (by decide +kernel) ⟨Nat.le_of_ble_eq_true rfl, Nat.le_of_ble_eq_true rfl⟩) rfl hl.1 rfl (Nat.le_of_ble_eq_true rfl) dX6_look_7 ⟨Nat.le_of_ble_eq_true rfl, Nat.le_of_ble_eq_true rfl⟩ (fun r_3 H locs p_4 hM => ?_)
  replace p_4 : (r_3.toInt = 1 ∧ 0 ≤ p0.toInt ∧ p0.toInt < (F 17).toInt) ∨ (r_3.toInt = 0 ∧ ¬ (0 ≤ p0.toInt ∧ p0.toInt < (F 17).toInt)) := p_4
  refine mm_if_ne (X := r_3.toInt) (tgt := 19) hx hb dX6_look_10 (by decide) rfl (fun c_5 => ?_) (fun c_5 => ?_)
  · refine lv_iload_n hx hb dX6_look_19 rfl (lv_at hl 2 rfl) ?_
    by_cases s_6 : p1.toInt = 0
    · refine lv_tableIn (tgt := 64) (off := 44) hx hb dX6_look_20 (by omega) (by omega) (by rw [s_6]; rfl) (by decide) ?_
      refine lv_aload_n hx hb dX6_look_64 rfl (lv_at hl 0 rfl) ?_
      refine mr_get (v := .ref (q 18)) E hM 18 (by decide) (index := 45) (mm_at 8 rfl) rfl rfl dX6_look_65 ?_
      refine lv_iload_n hx hb dX6_look_68 rfl (lv_at hl 1 rfl) ?_
      refine mr_ald (X := p0.toInt) E hM 11 10 rfl rfl rfl (by omega) dX6_look_69 ?_
      exact mr_ri E hr hlk hsz hM trivial dX6_look_70
    by_cases s_7 : p1.toInt = 1
    · refine lv_tableIn (tgt := 71) (off := 51) hx hb dX6_look_20 (by omega) (by omega) (by rw [s_7]; rfl) (by decide) ?_
      refine lv_aload_n hx hb dX6_look_71 rfl (lv_at hl 0 rfl) ?_
      refine mr_get (v := .ref (q 19)) E hM 19 (by decide) (index := 48) (mm_at 9 rfl) rfl rfl dX6_look_72 ?_
      refine lv_iload_n hx hb dX6_look_75 rfl (lv_at hl 1 rfl) ?_
      refine mr_ald (X := p0.toInt) E hM 12 11 rfl rfl rfl (by omega) dX6_look_76 ?_
      exact mr_ri E hr hlk hsz hM trivial dX6_look_77
    by_cases s_8 : p1.toInt = 2
    · refine lv_tableIn (tgt := 78) (off := 58) hx hb dX6_look_20 (by omega) (by omega) (by rw [s_8]; rfl) (by decide) ?_
      refine lv_aload_n hx hb dX6_look_78 rfl (lv_at hl 0 rfl) ?_
      refine mr_get (v := .ref (q 20)) E hM 20 (by decide) (index := 51) (mm_at 10 rfl) rfl rfl dX6_look_79 ?_
      refine lv_iload_n hx hb dX6_look_82 rfl (lv_at hl 1 rfl) ?_
      refine mr_ald (X := p0.toInt) E hM 13 12 rfl rfl rfl (by omega) dX6_look_83 ?_
      have b_9 : 0 ≤ (G 20 (Int32.toNatClampNeg p0)).toInt ∧ (G 20 (Int32.toNatClampNeg p0)).toInt ≤ 4 := hM.ab 20 rfl _
      exact mr_ri E hr hlk hsz hM trivial dX6_look_84
    by_cases s_10 : p1.toInt = 3
    · refine lv_tableIn (tgt := 85) (off := 65) hx hb dX6_look_20 (by omega) (by omega) (by rw [s_10]; rfl) (by decide) ?_
      refine lv_aload_n hx hb dX6_look_85 rfl (lv_at hl 0 rfl) ?_
      refine mr_get (v := .ref (q 21)) E hM 21 (by decide) (index := 54) (mm_at 11 rfl) rfl rfl dX6_look_86 ?_
      refine lv_iload_n hx hb dX6_look_89 rfl (lv_at hl 1 rfl) ?_
      refine mr_ald (X := p0.toInt) E hM 14 13 rfl rfl rfl (by omega) dX6_look_90 ?_
      exact mr_ri E hr hlk hsz hM trivial dX6_look_91
    by_cases s_11 : p1.toInt = 4
    · refine lv_tableIn (tgt := 92) (off := 72) hx hb dX6_look_20 (by omega) (by omega) (by rw [s_11]; rfl) (by decide) ?_
      refine lv_aload_n hx hb dX6_look_92 rfl (lv_at hl 0 rfl) ?_
      refine mr_get (v := .ref (q 26)) E hM 26 (by decide) (index := 69) (mm_at 12 rfl) rfl rfl dX6_look_93 ?_
      refine lv_iload_n hx hb dX6_look_96 rfl (lv_at hl 1 rfl) ?_
      refine mr_ald (X := p0.toInt) E hM 19 18 rfl rfl rfl (by omega) dX6_look_97 ?_
      have b_12 : -1 ≤ (G 26 (Int32.toNatClampNeg p0)).toInt ∧ (G 26 (Int32.toNatClampNeg p0)).toInt ≤ 7 := hM.ab 26 rfl _
      exact mr_ri E hr hlk hsz hM trivial dX6_look_98
    by_cases s_13 : p1.toInt = 5
    · refine lv_tableIn (tgt := 99) (off := 79) hx hb dX6_look_20 (by omega) (by omega) (by rw [s_13]; rfl) (by decide) ?_
      refine lv_aload_n hx hb dX6_look_99 rfl (lv_at hl 0 rfl) ?_
      refine mr_get (v := .ref (q 27)) E hM 27 (by decide) (index := 72) (mm_at 13 rfl) rfl rfl dX6_look_100 ?_
      refine lv_iload_n hx hb dX6_look_103 rfl (lv_at hl 1 rfl) ?_
      refine mr_ald (X := p0.toInt) E hM 20 19 rfl rfl rfl (by omega) dX6_look_104 ?_
      have b_14 : 0 ≤ (G 27 (Int32.toNatClampNeg p0)).toInt ∧ (G 27 (Int32.toNatClampNeg p0)).toInt ≤ 16 := hM.ab 27 rfl _
      exact mr_ri E hr hlk hsz hM trivial dX6_look_105
    by_cases s_15 : p1.toInt = 6
    · refine lv_tableIn (tgt := 106) (off := 86) hx hb dX6_look_20 (by omega) (by omega) (by rw [s_15]; rfl) (by decide) ?_
      refine lv_aload_n hx hb dX6_look_106 rfl (lv_at hl 0 rfl) ?_
      refine mr_get (v := .ref (q 28)) E hM 28 (by decide) (index := 75) (mm_at 14 rfl) rfl rfl dX6_look_107 ?_
      refine lv_iload_n hx hb dX6_look_110 rfl (lv_at hl 1 rfl) ?_
      refine mr_ald (X := p0.toInt) E hM 21 20 rfl rfl rfl (by omega) dX6_look_111 ?_
      exact mr_ri E hr hlk hsz hM trivial dX6_look_112
    · refine lv_tableOut (tgt := 113) hx hb dX6_look_20 (by omega) (by decide) ?_
      refine lv_aload_n hx hb dX6_look_113 rfl (lv_at hl 0 rfl) ?_
      refine lv_iconst (v := 2) hx hb dX6_look_114 (by decide) ?_
      refine mr_calli (av := [.int 2]) (rest := []) E hA hml hM (g3_X6_fails l D h0 q cq (upd F 2 0) G _ 2 hM.2.2.2.1 ) (cwV 1 hts gc_X6_look_X6_fails_16 rfl rfl rfl (by decide +kernel) ⟨Nat.le_of_ble_eq_true rfl, Nat.le_of_ble_eq_true rfl⟩) rfl hl.1 rfl (Nat.le_of_ble_eq_true rfl) dX6_look_115 ⟨Nat.le_of_ble_eq_true rfl, Nat.le_of_ble_eq_true rfl⟩ (by decide) (by decide) (fun r_17 F_19 G_20 H locs fr_21 p_18 hM => ?_)
      exact mr_ri E hr hlk hsz hM trivial dX6_look_118
  · refine lv_aload_n hx hb dX6_look_13 rfl (lv_at hl 0 rfl) ?_
    refine lv_iconst (v := 1) hx hb dX6_look_14 (by decide) ?_
    refine mr_calli (av := [.int 1]) (rest := []) E hA hml hM (g3_X6_fails l D h0 q cq (upd F 2 0) G _ 1 hM.2.2.2.1 ) (cwV 1 hts gc_X6_look_X6_fails_22 rfl rfl rfl (by decide +kernel) ⟨Nat.le_of_ble_eq_true rfl, Nat.le_of_ble_eq_true rfl⟩) rfl hl.1 rfl (Nat.le_of_ble_eq_true rfl) dX6_look_15 ⟨Nat.le_of_ble_eq_true rfl, Nat.le_of_ble_eq_true rfl⟩ (by decide) (by decide) (fun r_23 F_25 G_26 H locs fr_27 p_24 hM => ?_)
    exact mr_ri E hr hlk hsz hM trivial dX6_look_18
