theorem num_m8 : ((-8) : Int32).toInt = -8 := by decide
def w4X4_readFormat : List Cond := .code yX4_readFormat cX4_readFormat 3 (some .boolean) :: ([.methodLink RX4 50 yX4_readWord, .instanceMethod yX4_readWord, .selects RX4 yX4_readWord yX4_readWord, .initialized RX4, .code yX4_readWord cX4_readWord 2 (some .boolean), .methodLink RX4 107 yX4_isWord, .instanceMethod yX4_isWord, .selects RX4 yX4_isWord yX4_isWord, .code yX4_isWord cX4_isWord 3 (some .boolean), .methodLink RX4 140 yJ0_length_8abf5, .instanceMethod yJ0_length_8abf5, .selects RJ0 yJ0_length_8abf5 yJ0_length_8abf5, .initialized RJ0, .code yJ0_length_8abf5 cJ0_length_8abf5 1 (some .int), .fieldLink RJ0 9 "java/lang/String" "value" "[B", .methodLink RJ0 335 yJ0_coder_7d493, .instanceMethod yJ0_coder_7d493, .selects RJ0 yJ0_coder_7d493 yJ0_coder_7d493, .code yJ0_coder_7d493 cJ0_coder_7d493 1 (some .byte), .fieldLink RJ0 38 "java/lang/String" "COMPACT_STRINGS" "Z", .fieldLink RJ0 15 "java/lang/String" "coder" "B", .fieldLink RX4 9 "SkiShots$Reader" "text" "[B", .fieldLink RX4 54 "SkiShots$Reader" "place" "I", .methodLink RX4 145 yJ0_charAt_5068e, .instanceMethod yJ0_charAt_5068e, .selects RJ0 yJ0_charAt_5068e yJ0_charAt_5068e, .code yJ0_charAt_5068e cJ0_charAt_5068e 2 (some .char), .methodLink RJ0 492 yJ0_isLatin1_aae02, .instanceMethod yJ0_isLatin1_aae02, .selects RJ0 yJ0_isLatin1_aae02 yJ0_isLatin1_aae02, .code yJ0_isLatin1_aae02 cJ0_isLatin1_aae02 1 (some .boolean), .methodLink RJ0 495 yJ1_charAt_3b067, .static yJ1_charAt_3b067, .initialized RJ1, .code yJ1_charAt_3b067 cJ1_charAt_3b067 2 (some .char), .methodLink RJ1 9 yJ0_checkIndex_df160, .static yJ0_checkIndex_df160, .code yJ0_checkIndex_df160 cJ0_checkIndex_df160 2 none, .fieldLink RJ0 1053 "jdk/internal/util/Preconditions" "SIOOBE_FORMATTER" "Ljava/util/function/BiFunction;", .methodLink RJ0 1059 yJ3_checkIndex_8e157, .static yJ3_checkIndex_8e157, .initialized RJ3, .code yJ3_checkIndex_8e157 cJ3_checkIndex_8e157 3 (some .int), .fieldLink RX4 37 "SkiShots$Reader" "sort" "I", .fieldLink RX4 133 "SkiShots$Reader" "behind" "I", .methodLink RX4 34 yX4_step, .instanceMethod yX4_step, .selects RX4 yX4_step yX4_step, .code yX4_step cX4_step 1 none, .fieldLink RX4 21 "SkiShots$Reader" "length" "I", .methodLink RX4 149 yX4_sortAt, .instanceMethod yX4_sortAt, .selects RX4 yX4_sortAt yX4_sortAt, .code yX4_sortAt cX4_sortAt 3 (some .int), .methodLink RX4 15 Lib.Math.min.name, .static Lib.Math.min.name, .initialized "java/lang/Math", .code Lib.Math.min.name Lib.Math.min.code 2 (some .int), .methodLink RX4 44 yX4_fail, .instanceMethod yX4_fail, .selects RX4 yX4_fail yX4_fail, .code yX4_fail cX4_fail 2 (some .boolean), .fieldLink RX4 137 "SkiShots$Reader" "fault" "I", .fieldLink RX4 31 "SkiShots$Reader" "faultPlace" "I", .fieldLink RX4 27 "SkiShots$Reader" "found" "[LSkiShots$Format;", .classLink RX4 25 RX2, .instantiable RX2 8, .initialized RX2, .methodLink RX4 57 yX2_init, .instanceMethod yX2_init, .code yX2_init cX2_init 2 none, .methodLink RX2 3 objectInit, .instanceMethod objectInit, .code objectInit ⟨#[0xb1]⟩ 1 none, .fieldLink RX2 9 "SkiShots$Format" "name" "I", .fieldLink RX4 60 "SkiShots$Reader" "foundCount" "I", .methodLink RX4 63 yX4_readSign, .instanceMethod yX4_readSign, .selects RX4 yX4_readSign yX4_readSign, .code yX4_readSign cX4_readSign 2 (some .boolean), .methodLink RX4 67 yX4_readLaps, .instanceMethod yX4_readLaps, .selects RX4 yX4_readLaps yX4_readLaps, .code yX4_readLaps cX4_readLaps 2 (some .boolean), .methodLink RX4 85 yX4_readNumber, .instanceMethod yX4_readNumber, .selects RX4 yX4_readNumber yX4_readNumber, .code yX4_readNumber cX4_readNumber 4 (some .boolean), .fieldLink RX4 89 "SkiShots$Reader" "number" "I", .constant RX4 136 (100000), .fieldLink RX4 92 "SkiShots$Format" "laps" "I", .methodLink RX4 71 yX4_readShootings, .instanceMethod yX4_readShootings, .selects RX4 yX4_readShootings yX4_readShootings, .code yX4_readShootings cX4_readShootings 4 (some .boolean), .fieldLink RX4 96 "SkiShots$Format" "shootings" "I", .methodLink RX4 74 yX4_readSpares, .instanceMethod yX4_readSpares, .selects RX4 yX4_readSpares yX4_readSpares, .code yX4_readSpares cX4_readSpares 2 (some .boolean), .fieldLink RX4 101 "SkiShots$Format" "spares" "I", .methodLink RX4 77 yX4_readMiss, .instanceMethod yX4_readMiss, .selects RX4 yX4_readMiss yX4_readMiss, .code yX4_readMiss cX4_readMiss 2 (some .boolean), .fieldLink RX4 110 "SkiShots$Format" "loops" "Z", .fieldLink RX4 116 "SkiShots$Format" "missSeconds" "I", .methodLink RX4 80 yX4_readStart, .instanceMethod yX4_readStart, .selects RX4 yX4_readStart yX4_readStart, .code yX4_readStart cX4_readStart 3 (some .boolean), .fieldLink RX4 123 "SkiShots$Format" "startSort" "I", .fieldLink RX4 130 "SkiShots$Format" "startSeconds" "I"] ++ wsX20 ++ wsX40)
set_option maxRecDepth 20000 in
theorem gk_X4_readFormat_X4_readWord_1 : GoodIn w4X4_readFormat (wsV RX4 50 RX4 yX4_readWord w4X4_readWord) := goodIn_p _ [5, 9, 14, 19, 27, 31, 35, 38, 43, 49, 54, 58, 62] rfl (by decide +kernel)
set_option maxRecDepth 20000 in
theorem gk_X4_readFormat_X4_fail_12 : GoodIn w4X4_readFormat (wsV RX4 44 RX4 yX4_fail w4X4_fail) := goodIn_p _ [62] rfl (by decide +kernel)
set_option maxRecDepth 20000 in
theorem gk_X4_readFormat_X4_fail_25 : GoodIn w4X4_readFormat (wsV RX4 44 RX4 yX4_fail w4X4_fail) := goodIn_p _ [62] rfl (by decide +kernel)
set_option maxRecDepth 20000 in
theorem gk_X4_readFormat_X4_step_38 : GoodIn w4X4_readFormat (wsV RX4 34 RX4 yX4_step w4X4_step) := goodIn_p _ [49, 54, 58] rfl (by decide +kernel)
set_option maxRecDepth 20000 in
theorem gk_X4_readFormat_X2_init_49 : GoodIn w4X4_readFormat (w4X2_init) := goodIn_p _ [71, 74] rfl (by decide +kernel)
set_option maxRecDepth 20000 in
theorem gk_X4_readFormat_X4_readSign_67 : GoodIn w4X4_readFormat (wsV RX4 63 RX4 yX4_readSign w4X4_readSign) := goodIn_p _ [80, 62, 49, 54, 58] rfl (by decide +kernel)
set_option maxRecDepth 20000 in
theorem gk_X4_readFormat_X4_readLaps_86 : GoodIn w4X4_readFormat (wsV RX4 67 RX4 yX4_readLaps w4X4_readLaps) := goodIn_p _ [84, 5, 9, 14, 19, 27, 31, 35, 38, 43, 49, 54, 58, 62, 88] rfl (by decide +kernel)
set_option maxRecDepth 20000 in
theorem gk_X4_readFormat_X4_readSign_99 : GoodIn w4X4_readFormat (wsV RX4 63 RX4 yX4_readSign w4X4_readSign) := goodIn_p _ [80, 62, 49, 54, 58] rfl (by decide +kernel)
set_option maxRecDepth 20000 in
theorem gk_X4_readFormat_X4_readShootings_112 : GoodIn w4X4_readFormat (wsV RX4 71 RX4 yX4_readShootings w4X4_readShootings) := goodIn_p _ [95, 62, 88, 49, 54, 58, 5, 9, 14, 19, 27, 31, 35, 38, 43] rfl (by decide +kernel)
set_option maxRecDepth 20000 in
theorem gk_X4_readFormat_X4_readSign_125 : GoodIn w4X4_readFormat (wsV RX4 63 RX4 yX4_readSign w4X4_readSign) := goodIn_p _ [80, 62, 49, 54, 58] rfl (by decide +kernel)
set_option maxRecDepth 20000 in
theorem gk_X4_readFormat_X4_readSpares_138 : GoodIn w4X4_readFormat (wsV RX4 74 RX4 yX4_readSpares w4X4_readSpares) := goodIn_p _ [100, 5, 9, 14, 19, 27, 31, 35, 38, 43, 49, 54, 58, 62, 88] rfl (by decide +kernel)
set_option maxRecDepth 20000 in
theorem gk_X4_readFormat_X4_readSign_151 : GoodIn w4X4_readFormat (wsV RX4 63 RX4 yX4_readSign w4X4_readSign) := goodIn_p _ [80, 62, 49, 54, 58] rfl (by decide +kernel)
set_option maxRecDepth 20000 in
theorem gk_X4_readFormat_X4_readMiss_164 : GoodIn w4X4_readFormat (wsV RX4 77 RX4 yX4_readMiss w4X4_readMiss) := goodIn_p _ [105, 5, 9, 14, 19, 27, 31, 35, 38, 43, 49, 54, 58, 62, 88] rfl (by decide +kernel)
set_option maxRecDepth 20000 in
theorem gk_X4_readFormat_X4_readSign_177 : GoodIn w4X4_readFormat (wsV RX4 63 RX4 yX4_readSign w4X4_readSign) := goodIn_p _ [80, 62, 49, 54, 58] rfl (by decide +kernel)
set_option maxRecDepth 20000 in
theorem gk_X4_readFormat_X4_readStart_190 : GoodIn w4X4_readFormat (wsV RX4 80 RX4 yX4_readStart w4X4_readStart) := goodIn_p _ [111, 5, 9, 14, 19, 27, 31, 35, 38, 43, 49, 54, 58, 62, 88] rfl (by decide +kernel)
set_option maxRecDepth 20000 in
theorem gk_X4_readFormat_X4_readSign_203 : GoodIn w4X4_readFormat (wsV RX4 63 RX4 yX4_readSign w4X4_readSign) := goodIn_p _ [80, 62, 49, 54, 58] rfl (by decide +kernel)
set_option maxRecDepth 20000 in
theorem gk_X4_readFormat_X4_readSign_216 : GoodIn w4X4_readFormat (wsV RX4 63 RX4 yX4_readSign w4X4_readSign) := goodIn_p _ [80, 62, 49, 54, 58] rfl (by decide +kernel)
set_option maxRecDepth 20000 in
theorem gk_X4_readFormat_X4_fail_231 : GoodIn w4X4_readFormat (wsV RX4 44 RX4 yX4_fail w4X4_fail) := goodIn_p _ [62] rfl (by decide +kernel)
set_option maxRecDepth 20000 in
theorem gk_X4_readFormat_X4_fail_243 : GoodIn w4X4_readFormat (wsV RX4 44 RX4 yX4_fail w4X4_fail) := goodIn_p _ [62] rfl (by decide +kernel)
set_option maxHeartbeats 4000000 in
set_option maxRecDepth 100000 in
theorem h4_X4_readFormat (l : Launch) (D : va_G) (cA : Nat → ClassId) (ad av : Nat → Nat) (L : List Nat) (K : Nat → Nat) (I : Nat → Nat → Int32) (O : Nat → Nat → Option Nat) (sz : Nat) (x0 : Nat) (hI : cI L K I O) (mx0 : x0 ∈ L) (kx0 : K x0 = 4) (hrp : (I x0 6).toInt = 0 ∨ (I x0 7).toInt ≤ 999) : Met l yX4_readFormat w4X4_readFormat ({ frames := 7, cells := 1, slots := 8, locals := 151 }) (cPre D cA ad av L K I O sz [.ref x0]) (cQi D cA L K I O sz [] [(2, 0), (2, 1), (2, 2), (2, 3), (2, 4), (2, 5), (2, 6), (2, 7), (4, 3), (4, 4), (4, 5), (4, 6), (4, 7), (4, 8), (4, 9)] [(14, 0)] (fun r L' K' I' O' => (I' x0 6).toInt = 0 ∨ (I' x0 7).toInt ≤ 999)) 1 8 (va_A (cW cA L K I O) sz) := by
  refine cr_met (own := RX4) (xs := []) (WI := [(2, 0), (2, 1), (2, 2), (2, 3), (2, 4), (2, 5), (2, 6), (2, 7), (4, 3), (4, 4), (4, 5), (4, 6), (4, 7), (4, 8), (4, 9)]) (WO := [(14, 0)]) (cc := cX4_readFormat) (maxL := 3) (ret := (some .boolean)) (by decide) rfl rfl (Nat.le_of_ble_eq_true rfl) hI ?_
  intro p e s m args below meth c ls E hV hml hr hlk hname hsz hA hM hl
  have hx := E.1
  have hb := E.2.1
  have hts := E.2.2.1
  have hown := E.2.2.2.1
  have hl : lv_has ls 3 [(0, .ref x0)] := hl
  have hin2 : ∀ w ∈ wsX20, w ∈ w4X4_readFormat := by decide +kernel
  have hin4 : ∀ w ∈ wsX40, w ∈ w4X4_readFormat := by decide +kernel
  refine lv_aload_n hx hb dX4_readFormat_0 rfl (lv_at hl 0 rfl) ?_
  refine va_ldcS (own := RX4) (q := ad 0) hx hb hown (hV.2.2.1 0 (48, "format") rfl) dX4_readFormat_1 ?_
  have b_2 : 0 ≤ (I x0 6).toInt ∧ (I x0 6).toInt ≤ 4 := hM.ib mx0 kx0 6 rfl
  have b_3 : 0 ≤ (I x0 7).toInt ∧ (I x0 7).toInt ≤ 1000 := hM.ib mx0 kx0 7 rfl
  refine cc_Vi (vs := [.ref (ad 0)]) (rest := []) (b := x0) (κ := 4) E hV rfl hA hml hM mx0 kx0 rfl rfl (h4_X4_readWord l D cA ad av L K I O _ x0 0 hM.2.2.2.1 mx0 kx0 (by decide) (show (I x0 6).toInt = 0 ∨ (I x0 7).toInt ≤ 999 from by omega)) (cwV 1 hts gk_X4_readFormat_X4_readWord_1 rfl rfl rfl (by decide +kernel) ⟨Nat.le_of_ble_eq_true rfl, Nat.le_of_ble_eq_true rfl⟩) rfl hl.1 rfl (Nat.le_of_ble_eq_true rfl) dX4_readFormat_3 ⟨show (0 + 0 : Nat) ≤ 1 from by omega, show (0 + 0 : Nat) ≤ 8 from by omega⟩ (fun _ h => by cases h) (by decide) (by decide) (fun r_4 L_6 K_6 I_6 O_6 H locs fr_6 p_5 hM => ?_)
  have m_7 := (fr_6 x0 mx0 (fun z => by cases z)).1
  have k_7 : K_6 x0 = 4 := (fr_6 x0 mx0 (fun z => by cases z)).2.1.trans kx0
  replace p_5 : (I_6 x0 6).toInt = 0 ∨ (I_6 x0 7).toInt ≤ 999 := p_5
  refine mm_if_ne (X := r_4.toInt) (tgt := 11) hx hb dX4_readFormat_6 (by decide) rfl (fun c_8 => ?_) (fun c_8 => ?_)
  · refine lv_aload_n hx hb dX4_readFormat_11 rfl (lv_at hl 0 rfl) ?_
    have b_9 : 0 ≤ (I_6 x0 6).toInt ∧ (I_6 x0 6).toInt ≤ 4 := hM.ib m_7 k_7 6 rfl
    refine cr_get (κ := 4) (ci := 4) (k := 6) (C := RX4) (T := TX4) (N := 10) (fs := cfs 4) (v := .int (I_6 x0 6)) E hM m_7 k_7 (fun _ _ => rfl) rfl hin4 (by decide) (index := 37) (mm_at 44 rfl) rfl rfl dX4_readFormat_12 ?_
    refine lv_iconst (v := 3) hx hb dX4_readFormat_15 (by decide) ?_
    refine mm_icmp_ne (X := (I_6 x0 6).toInt) (Y := 3) (tgt := 34) hx hb dX4_readFormat_16 (by decide) rfl num_3 (fun c_10 => ?_) (fun c_10 => ?_)
    · refine lv_iconst (v := (-1)) hx hb dX4_readFormat_34 (by decide) ?_
      refine lv_istore_n (lv' := [(1, .int (-1)), (0, .ref x0)]) hx hb dX4_readFormat_35 rfl hl (by decide) rfl (fun ls hl => ?_)
      refine lv_iload_n hx hb dX4_readFormat_36 rfl (lv_at hl 0 rfl) ?_
      refine mm_if_lt (X := (-1)) (tgt := 46) hx hb dX4_readFormat_37 (by decide) num_m1 (fun c_11 => ?_) (fun c_11 => False.elim (by omega))
      refine lv_aload_n hx hb dX4_readFormat_46 rfl (lv_at hl 1 rfl) ?_
      refine lv_iconst (v := 1) hx hb dX4_readFormat_47 (by decide) ?_
      refine cc_Vi (vs := [.int 1]) (rest := []) (b := x0) (κ := 4) E hV rfl hA hml hM m_7 k_7 rfl rfl (h4_X4_fail l D cA ad av L_6 K_6 I_6 O_6 _ x0 1 hM.2.2.2.1 m_7 k_7) (cwV 1 hts gk_X4_readFormat_X4_fail_12 rfl rfl rfl (by decide +kernel) ⟨Nat.le_of_ble_eq_true rfl, Nat.le_of_ble_eq_true rfl⟩) rfl hl.1 rfl (Nat.le_of_ble_eq_true rfl) dX4_readFormat_48 ⟨show (0 + 0 : Nat) ≤ 1 from by omega, show (0 + 0 : Nat) ≤ 8 from by omega⟩ (fun _ h => by cases h) (by decide) (by decide) (fun r_13 L_15 K_15 I_15 O_15 H locs fr_15 p_14 hM => ?_)
      have m_16 := (fr_15 x0 m_7 (fun z => by cases z)).1
      have k_16 : K_15 x0 = 4 := (fr_15 x0 m_7 (fun z => by cases z)).2.1.trans k_7
      replace p_14 : r_13.toInt = 0 := p_14
      have b_17 : 0 ≤ (I_15 x0 6).toInt ∧ (I_15 x0 6).toInt ≤ 4 := hM.ib m_16 k_16 6 rfl
      have e_18 : (I_15 x0 6).toInt = (I_6 x0 6).toInt := congrArg Int32.toInt ((fr_15 x0 m_7 (fun z => by cases z)).2.2.1 6 (by rw [k_7]; rfl))
      have b_19 : 0 ≤ (I_15 x0 7).toInt ∧ (I_15 x0 7).toInt ≤ 1000 := hM.ib m_16 k_16 7 rfl
      have e_20 : (I_15 x0 7).toInt = (I_6 x0 7).toInt := congrArg Int32.toInt ((fr_15 x0 m_7 (fun z => by cases z)).2.2.1 7 (by rw [k_7]; rfl))
      exact cr_rz (mc := 1) (ms := 8) (X := r_13.toInt) E hr hlk hsz hM ⟨show (0 : Nat) ≤ 1 from by omega, show (0 : Nat) ≤ 8 from by omega⟩ rfl (by omega) (show (I_15 x0 6).toInt = 0 ∨ (I_15 x0 7).toInt ≤ 999 from by omega) dX4_readFormat_51
    · refine lv_aload_n hx hb dX4_readFormat_19 rfl (lv_at hl 0 rfl) ?_
      obtain ⟨x_21, o_21, m_21, k_21⟩ := hM.nn m_7 k_7 0 (κ' := 10) rfl rfl
      refine cr_get (κ := 4) (ci := 4) (k := 0) (C := RX4) (T := TX4) (N := 10) (fs := cfs 4) (v := .ref x_21) E hM m_7 k_7 (fun _ _ => rfl) rfl hin4 (by decide) (index := 9) (mm_at 22 rfl) rfl (by show some (va_rf (O_6 x0 0)) = some (.ref x_21); rw [o_21]; rfl) dX4_readFormat_20 ?_
      refine lv_aload_n hx hb dX4_readFormat_23 rfl (lv_at hl 0 rfl) ?_
      have b_22 : 0 ≤ (I_6 x0 7).toInt ∧ (I_6 x0 7).toInt ≤ 1000 := hM.ib m_7 k_7 7 rfl
      refine cr_get (κ := 4) (ci := 4) (k := 7) (C := RX4) (T := TX4) (N := 10) (fs := cfs 4) (v := .int (I_6 x0 7)) E hM m_7 k_7 (fun _ _ => rfl) rfl hin4 (by decide) (index := 54) (mm_at 23 rfl) rfl rfl dX4_readFormat_24 ?_
      refine cr_bald (κ := 10) (t0 := 0) (X := (I_6 x0 7).toInt) E hM m_21 k_21 (fun _ _ => rfl) rfl rfl (by omega) dX4_readFormat_27 ?_
      refine lv_bipush (v := 65) hx hb dX4_readFormat_28 (by decide) ?_
      refine mm_isubU hx hb dX4_readFormat_30 (fun z_23 => ?_)
      refine lv_goto (tgt := 35) hx hb dX4_readFormat_31 (by decide) ?_
      refine lv_istore_n (lv' := [(1, .int z_23), (0, .ref x0)]) hx hb dX4_readFormat_35 rfl hl (by decide) rfl (fun ls hl => ?_)
      refine lv_iload_n hx hb dX4_readFormat_36 rfl (lv_at hl 0 rfl) ?_
      refine mm_if_lt (X := z_23.toInt) (tgt := 46) hx hb dX4_readFormat_37 (by decide) rfl (fun c_24 => ?_) (fun c_24 => ?_)
      · refine lv_aload_n hx hb dX4_readFormat_46 rfl (lv_at hl 1 rfl) ?_
        refine lv_iconst (v := 1) hx hb dX4_readFormat_47 (by decide) ?_
        refine cc_Vi (vs := [.int 1]) (rest := []) (b := x0) (κ := 4) E hV rfl hA hml hM m_7 k_7 rfl rfl (h4_X4_fail l D cA ad av L_6 K_6 I_6 O_6 _ x0 1 hM.2.2.2.1 m_7 k_7) (cwV 1 hts gk_X4_readFormat_X4_fail_25 rfl rfl rfl (by decide +kernel) ⟨Nat.le_of_ble_eq_true rfl, Nat.le_of_ble_eq_true rfl⟩) rfl hl.1 rfl (Nat.le_of_ble_eq_true rfl) dX4_readFormat_48 ⟨show (0 + 0 : Nat) ≤ 1 from by omega, show (0 + 0 : Nat) ≤ 8 from by omega⟩ (fun _ h => by cases h) (by decide) (by decide) (fun r_26 L_28 K_28 I_28 O_28 H locs fr_28 p_27 hM => ?_)
        have m_29 := (fr_28 x0 m_7 (fun z => by cases z)).1
        have k_29 : K_28 x0 = 4 := (fr_28 x0 m_7 (fun z => by cases z)).2.1.trans k_7
        have m_30 := (fr_28 x_21 m_21 (fun z => by cases z)).1
        have k_30 : K_28 x_21 = 10 := (fr_28 x_21 m_21 (fun z => by cases z)).2.1.trans k_21
        replace p_27 : r_26.toInt = 0 := p_27
        have b_31 : 0 ≤ (I_28 x0 6).toInt ∧ (I_28 x0 6).toInt ≤ 4 := hM.ib m_29 k_29 6 rfl
        have e_32 : (I_28 x0 6).toInt = (I_6 x0 6).toInt := congrArg Int32.toInt ((fr_28 x0 m_7 (fun z => by cases z)).2.2.1 6 (by rw [k_7]; rfl))
        have b_33 : 0 ≤ (I_28 x0 7).toInt ∧ (I_28 x0 7).toInt ≤ 1000 := hM.ib m_29 k_29 7 rfl
        have e_34 : (I_28 x0 7).toInt = (I_6 x0 7).toInt := congrArg Int32.toInt ((fr_28 x0 m_7 (fun z => by cases z)).2.2.1 7 (by rw [k_7]; rfl))
        exact cr_rz (mc := 1) (ms := 8) (X := r_26.toInt) E hr hlk hsz hM ⟨show (0 : Nat) ≤ 1 from by omega, show (0 : Nat) ≤ 8 from by omega⟩ rfl (by omega) (show (I_28 x0 6).toInt = 0 ∨ (I_28 x0 7).toInt ≤ 999 from by omega) dX4_readFormat_51
      · refine lv_iload_n hx hb dX4_readFormat_40 rfl (lv_at hl 0 rfl) ?_
        refine lv_bipush (v := 8) hx hb dX4_readFormat_41 (by decide) ?_
        refine mm_icmp_lt (X := z_23.toInt) (Y := 8) (tgt := 52) hx hb dX4_readFormat_43 (by decide) rfl num_8 (fun c_35 => ?_) (fun c_35 => ?_)
        · refine lv_aload_n hx hb dX4_readFormat_52 rfl (lv_at hl 1 rfl) ?_
          obtain ⟨x_36, o_36, m_36, k_36⟩ := hM.nn m_7 k_7 2 (κ' := 14) rfl rfl
          refine cr_get (κ := 4) (ci := 4) (k := 2) (C := RX4) (T := TX4) (N := 10) (fs := cfs 4) (v := .ref x_36) E hM m_7 k_7 (fun _ _ => rfl) rfl hin4 (by decide) (index := 27) (mm_at 65 rfl) rfl (by show some (va_rf (O_6 x0 2)) = some (.ref x_36); rw [o_36]; rfl) dX4_readFormat_53 ?_
          refine lv_iload_n hx hb dX4_readFormat_56 rfl (lv_at hl 0 rfl) ?_
          rcases o_37 : O_6 x_36 (Int32.toNatClampNeg z_23) with _ | x_37
          · refine cr_aaldn (κ := 14) (t0 := 3) (X := z_23.toInt) E hM m_36 k_36 (fun _ _ => rfl) rfl rfl (by omega) o_37 dX4_readFormat_57 ?_
            refine lv_ifnullN (tgt := 67) hx hb dX4_readFormat_58 (by decide) ?_
            refine lv_aload_n hx hb dX4_readFormat_67 rfl (lv_at hl 1 rfl) ?_
            refine cc_Vv (vs := []) (rest := []) (b := x0) (κ := 4) E hV rfl hA hml hM m_7 k_7 rfl rfl (h4_X4_step l D cA ad av L_6 K_6 I_6 O_6 _ x0 hM.2.2.2.1 m_7 k_7) (cwV 0 hts gk_X4_readFormat_X4_step_38 rfl rfl rfl (by decide +kernel) ⟨Nat.le_of_ble_eq_true rfl, Nat.le_of_ble_eq_true rfl⟩) rfl hl.1 rfl (Nat.le_of_ble_eq_true rfl) dX4_readFormat_68 ⟨show (0 + 0 : Nat) ≤ 1 from by omega, show (0 + 0 : Nat) ≤ 8 from by omega⟩ (fun _ h => by cases h) (by decide) (by decide) (fun L_41 K_41 I_41 O_41 H locs fr_41 p_40 hM => ?_)
            have m_42 := (fr_41 x0 m_7 (fun z => by cases z)).1
            have k_42 : K_41 x0 = 4 := (fr_41 x0 m_7 (fun z => by cases z)).2.1.trans k_7
            have m_43 := (fr_41 x_21 m_21 (fun z => by cases z)).1
            have k_43 : K_41 x_21 = 10 := (fr_41 x_21 m_21 (fun z => by cases z)).2.1.trans k_21
            have m_44 := (fr_41 x_36 m_36 (fun z => by cases z)).1
            have k_44 : K_41 x_36 = 14 := (fr_41 x_36 m_36 (fun z => by cases z)).2.1.trans k_36
            clear p_5
            replace p_40 : (I_41 x0 6).toInt = 0 ∨ (I_41 x0 7).toInt ≤ 999 := p_40
            have hM0_45 := hM
            refine cr_new (κ := 2) (ci := 2) (C := RX2) (T := TX2) (N := 8) E hA hM (fun _ _ => rfl) rfl hin2 tyX2 tyX2_ok (mm_at 66 rfl) (mm_at 67 rfl) (mm_at 68 rfl) (fun j hj => by rcases (show j = 0 ∨ j = 1 ∨ j = 2 ∨ j = 3 ∨ j = 4 ∨ j = 5 ∨ j = 6 ∨ j = 7 by omega) with rfl | rfl | rfl | rfl | rfl | rfl | rfl | rfl <;> rfl) (fun _ => rfl) (by decide) (show (0 + 1 : Nat) ≤ 1 from by omega) (show (0 + 8 : Nat) ≤ 8 from by omega) dX4_readFormat_71 (fun q_45 H L_45 K_45 I_45 O_45 hq_45 eL_45 eK_45 eI_45 eO_45 tr_45 mq_45 kq_45 hM => ?_)
            have hn_45 : q_45 ∉ L := fun z => hq_45 (hM0_45.2.2.2.2 q_45 z (fun z => by cases z)).1
            have m_46 := (tr_45 x0 m_42).1
            have k_46 : K_45 x0 = 4 := (tr_45 x0 m_42).2.trans k_42
            have m_47 := (tr_45 x_21 m_43).1
            have k_47 : K_45 x_21 = 10 := (tr_45 x_21 m_43).2.trans k_43
            have m_48 := (tr_45 x_36 m_44).1
            have k_48 : K_45 x_36 = 14 := (tr_45 x_36 m_44).2.trans k_44
            refine W.widen (k := 1) (n := 8) (by omega) (by omega) ?_
            refine lv_dup hx hb dX4_readFormat_74 rfl ?_
            refine lv_iload_n hx hb dX4_readFormat_75 rfl (lv_at hl 0 rfl) ?_
            refine cc_Iv (vs := [.int z_23]) (rest := [.ref q_45]) (ret := none) (b := q_45) E hV rfl hA hml hM (h4_X2_init l D cA ad av L_45 K_45 I_45 O_45 _ q_45 z_23 hM.2.2.2.1 mq_45 kq_45) (cwI 1 hts gk_X4_readFormat_X2_init_49 rfl rfl rfl (hts _ (mm_at 68 rfl)) (hts _ (mm_at 69 rfl)) (hts _ (mm_at 70 rfl)) rfl (by decide +kernel) ⟨Nat.le_of_ble_eq_true rfl, Nat.le_of_ble_eq_true rfl⟩) rfl hl.1 rfl (Nat.le_of_ble_eq_true rfl) dX4_readFormat_76 ⟨show (1 + 0 : Nat) ≤ 1 from by omega, show (8 + 0 : Nat) ≤ 8 from by omega⟩ (fun _ h => by cases h) (by decide) (by decide) (fun L_52 K_52 I_52 O_52 H locs fr_52 p_51 hM => ?_)
            have m_53 := (fr_52 x0 m_46 (fun z => by cases z)).1
            have k_53 : K_52 x0 = 4 := (fr_52 x0 m_46 (fun z => by cases z)).2.1.trans k_46
            have m_54 := (fr_52 x_21 m_47 (fun z => by cases z)).1
            have k_54 : K_52 x_21 = 10 := (fr_52 x_21 m_47 (fun z => by cases z)).2.1.trans k_47
            have m_55 := (fr_52 x_36 m_48 (fun z => by cases z)).1
            have k_55 : K_52 x_36 = 14 := (fr_52 x_36 m_48 (fun z => by cases z)).2.1.trans k_48
            have m_56 := (fr_52 q_45 mq_45 (fun z => by cases z)).1
            have k_56 : K_52 q_45 = 2 := (fr_52 q_45 mq_45 (fun z => by cases z)).2.1.trans kq_45
            refine lv_astore_n (lv' := [(2, .ref q_45), (1, .int z_23), (0, .ref x0)]) hx hb dX4_readFormat_79 rfl hl (by decide) rfl (fun ls hl => ?_)
            refine lv_aload_n hx hb dX4_readFormat_80 rfl (lv_at hl 2 rfl) ?_
            have o_57 : O_41 x0 2 = some x_36 := ((fr_41 x0 m_7 (fun z => by cases z)).2.2.2 2 (by rw [k_7]; rfl)).trans o_36
            have o_58 : O_45 x0 2 = some x_36 := (congrFun (cu_a eO_45 (fun z => hq_45 (z ▸ m_42))) 2).trans o_57
            have o_59 : O_52 x0 2 = some x_36 := ((fr_52 x0 m_46 (fun z => by cases z)).2.2.2 2 (by rw [k_46]; rfl)).trans o_58
            refine cr_get (κ := 4) (ci := 4) (k := 2) (C := RX4) (T := TX4) (N := 10) (fs := cfs 4) (v := .ref x_36) E hM m_53 k_53 (fun _ _ => rfl) rfl hin4 (by decide) (index := 27) (mm_at 65 rfl) rfl (by show some (va_rf (O_52 x0 2)) = some (.ref x_36); rw [o_59]; rfl) dX4_readFormat_81 ?_
            refine lv_iload_n hx hb dX4_readFormat_84 rfl (lv_at hl 1 rfl) ?_
            refine lv_aload_n hx hb dX4_readFormat_85 rfl (lv_at hl 0 rfl) ?_
            refine cr_aast (κ := 14) (κb := 2) (ci := 2) (t0 := 3) (r := (RX2, TX2, 8)) (X := z_23.toInt) E hM m_55 k_55 (fun _ _ => rfl) rfl m_56 k_56 rfl rfl rfl (by omega) (by decide) (fun _ => rfl) (Or.inr (Or.inr (fun _ => rfl))) dX4_readFormat_86 (fun H locs O_60 eO_60 hM => ?_)
            refine lv_aload_n hx hb dX4_readFormat_87 rfl (lv_at hl 2 rfl) ?_
            refine lv_dup hx hb dX4_readFormat_88 rfl ?_
            have e_61 : (I_6 x0 3).toInt = (I x0 3).toInt := congrArg Int32.toInt ((fr_6 x0 mx0 (fun z => by cases z)).2.2.1 3 (by rw [kx0]; rfl))
            have e_62 : (I_41 x0 3).toInt = (I_6 x0 3).toInt := congrArg Int32.toInt ((fr_41 x0 m_7 (fun z => by cases z)).2.2.1 3 (by rw [k_7]; rfl))
            have e_63 : (I_45 x0 3).toInt = (I_41 x0 3).toInt := congrArg (fun z => Int32.toInt (z 3)) (cu_a eI_45 (fun z => hq_45 (z ▸ m_42)))
            have e_64 : (I_52 x0 3).toInt = (I_45 x0 3).toInt := congrArg Int32.toInt ((fr_52 x0 m_46 (fun z => by cases z)).2.2.1 3 (by rw [k_46]; rfl))
            refine cr_get (κ := 4) (ci := 4) (k := 3) (C := RX4) (T := TX4) (N := 10) (fs := cfs 4) (v := .int (I_52 x0 3)) E hM m_53 k_53 (fun _ _ => rfl) rfl hin4 (by decide) (index := 60) (mm_at 76 rfl) rfl rfl dX4_readFormat_89 ?_
            refine lv_iconst (v := 1) hx hb dX4_readFormat_92 (by decide) ?_
            refine mm_iaddU hx hb dX4_readFormat_93 (fun z_65 => ?_)
            refine cr_puti (κ := 4) (ci := 4) (k := 3) (C := RX4) (T := TX4) (N := 10) (fs := cfs 4) (ty := .int) (v := z_65) E hM m_53 k_53 (fun _ _ => rfl) rfl hin4 tyX4 tyX4_ok nmX4 (by decide) (index := 60) (mm_at 76 rfl) rfl (Or.inl rfl) (by decide +kernel) rfl rfl (show (3 : Nat) < 10 from by decide) (fun _ _ _ => rfl) (cz_nb rfl) (cS_upd (hM.sp m_53 k_53) (by decide) (by decide)) (Or.inr (Or.inr rfl)) dX4_readFormat_94 (fun H locs I_66 eI_66 hM => ?_)
            refine lv_aload_n hx hb dX4_readFormat_97 rfl (lv_at hl 2 rfl) ?_
            refine lv_bipush (v := 123) hx hb dX4_readFormat_98 (by decide) ?_
            have b_68 : 0 ≤ (I_66 x0 6).toInt ∧ (I_66 x0 6).toInt ≤ 4 := hM.ib m_53 k_53 6 rfl
            have e_69 : (I_45 x0 6).toInt = (I_41 x0 6).toInt := congrArg (fun z => Int32.toInt (z 6)) (cu_a eI_45 (fun z => hq_45 (z ▸ m_42)))
            have e_70 : (I_52 x0 6).toInt = (I_45 x0 6).toInt := congrArg Int32.toInt ((fr_52 x0 m_46 (fun z => by cases z)).2.2.1 6 (by rw [k_46]; rfl))
            have e_71 : (I_66 x0 6).toInt = (I_52 x0 6).toInt := congrArg Int32.toInt (cu_k eI_66 (by decide))
            have b_72 : 0 ≤ (I_66 x0 7).toInt ∧ (I_66 x0 7).toInt ≤ 1000 := hM.ib m_53 k_53 7 rfl
            have e_73 : (I_45 x0 7).toInt = (I_41 x0 7).toInt := congrArg (fun z => Int32.toInt (z 7)) (cu_a eI_45 (fun z => hq_45 (z ▸ m_42)))
            have e_74 : (I_52 x0 7).toInt = (I_45 x0 7).toInt := congrArg Int32.toInt ((fr_52 x0 m_46 (fun z => by cases z)).2.2.1 7 (by rw [k_46]; rfl))
            have e_75 : (I_66 x0 7).toInt = (I_52 x0 7).toInt := congrArg Int32.toInt (cu_k eI_66 (by decide))
            refine cc_Vi (vs := [.int 123]) (rest := []) (b := x0) (κ := 4) E hV rfl hA hml hM m_53 k_53 rfl rfl (h4_X4_readSign l D cA ad av L_52 K_52 I_66 O_60 _ x0 123 hM.2.2.2.1 m_53 k_53 (show (I_66 x0 6).toInt = 0 ∨ (I_66 x0 7).toInt ≤ 999 from by have n_0 := num_123; omega)) (cwV 1 hts gk_X4_readFormat_X4_readSign_67 rfl rfl rfl (by decide +kernel) ⟨Nat.le_of_ble_eq_true rfl, Nat.le_of_ble_eq_true rfl⟩) rfl hl.1 rfl (Nat.le_of_ble_eq_true rfl) dX4_readFormat_100 ⟨show (1 + 0 : Nat) ≤ 1 from by omega, show (8 + 0 : Nat) ≤ 8 from by omega⟩ (fun _ h => by cases h) (by decide) (by decide) (fun r_76 L_78 K_78 I_78 O_78 H locs fr_78 p_77 hM => ?_)
            have m_79 := (fr_78 x0 m_53 (fun z => by cases z)).1
            have k_79 : K_78 x0 = 4 := (fr_78 x0 m_53 (fun z => by cases z)).2.1.trans k_53
            have m_80 := (fr_78 x_21 m_54 (fun z => by cases z)).1
            have k_80 : K_78 x_21 = 10 := (fr_78 x_21 m_54 (fun z => by cases z)).2.1.trans k_54
            have m_81 := (fr_78 x_36 m_55 (fun z => by cases z)).1
            have k_81 : K_78 x_36 = 14 := (fr_78 x_36 m_55 (fun z => by cases z)).2.1.trans k_55
            have m_82 := (fr_78 q_45 m_56 (fun z => by cases z)).1
            have k_82 : K_78 q_45 = 2 := (fr_78 q_45 m_56 (fun z => by cases z)).2.1.trans k_56
            clear p_40
            replace p_77 : (I_78 x0 6).toInt = 0 ∨ (I_78 x0 7).toInt ≤ 999 := p_77
            refine mm_if_eq (X := r_76.toInt) (tgt := 204) hx hb dX4_readFormat_103 (by decide) rfl (fun c_83 => ?_) (fun c_83 => ?_)
            · refine lv_iconst (v := 0) hx hb dX4_readFormat_204 (by decide) ?_
              have b_84 : 0 ≤ (I_78 x0 6).toInt ∧ (I_78 x0 6).toInt ≤ 4 := hM.ib m_79 k_79 6 rfl
              have b_85 : 0 ≤ (I_78 x0 7).toInt ∧ (I_78 x0 7).toInt ≤ 1000 := hM.ib m_79 k_79 7 rfl
              exact cr_rz (mc := 1) (ms := 8) (X := 0) E hr hlk hsz hM ⟨show (1 : Nat) ≤ 1 from by omega, show (8 : Nat) ≤ 8 from by omega⟩ num_0 (by omega) (show (I_78 x0 6).toInt = 0 ∨ (I_78 x0 7).toInt ≤ 999 from by have n9 := num_0; omega) dX4_readFormat_205
            · refine lv_aload_n hx hb dX4_readFormat_106 rfl (lv_at hl 2 rfl) ?_
              refine lv_aload_n hx hb dX4_readFormat_107 rfl (lv_at hl 0 rfl) ?_
              have b_87 : 0 ≤ (I_78 x0 6).toInt ∧ (I_78 x0 6).toInt ≤ 4 := hM.ib m_79 k_79 6 rfl
              have b_88 : 0 ≤ (I_78 x0 7).toInt ∧ (I_78 x0 7).toInt ≤ 1000 := hM.ib m_79 k_79 7 rfl
              refine cc_Vi (vs := [.ref q_45]) (rest := []) (b := x0) (κ := 4) E hV rfl hA hml hM m_79 k_79 rfl rfl (h4_X4_readLaps l D cA ad av L_78 K_78 I_78 O_78 _ x0 q_45 hM.2.2.2.1 m_79 k_79 m_82 k_82 (show (I_78 x0 6).toInt = 0 ∨ (I_78 x0 7).toInt ≤ 999 from by omega)) (cwV 1 hts gk_X4_readFormat_X4_readLaps_86 rfl rfl rfl (by decide +kernel) ⟨Nat.le_of_ble_eq_true rfl, Nat.le_of_ble_eq_true rfl⟩) rfl hl.1 rfl (Nat.le_of_ble_eq_true rfl) dX4_readFormat_108 ⟨show (1 + 0 : Nat) ≤ 1 from by omega, show (8 + 0 : Nat) ≤ 8 from by omega⟩ (fun _ h => by cases h) (by decide) (by decide) (fun r_89 L_91 K_91 I_91 O_91 H locs fr_91 p_90 hM => ?_)
              have m_92 := (fr_91 x0 m_79 (fun z => by cases z)).1
              have k_92 : K_91 x0 = 4 := (fr_91 x0 m_79 (fun z => by cases z)).2.1.trans k_79
              have m_93 := (fr_91 x_21 m_80 (fun z => by cases z)).1
              have k_93 : K_91 x_21 = 10 := (fr_91 x_21 m_80 (fun z => by cases z)).2.1.trans k_80
              have m_94 := (fr_91 x_36 m_81 (fun z => by cases z)).1
              have k_94 : K_91 x_36 = 14 := (fr_91 x_36 m_81 (fun z => by cases z)).2.1.trans k_81
              have m_95 := (fr_91 q_45 m_82 (fun z => by cases z)).1
              have k_95 : K_91 q_45 = 2 := (fr_91 q_45 m_82 (fun z => by cases z)).2.1.trans k_82
              clear p_77
              replace p_90 : (I_91 x0 6).toInt = 0 ∨ (I_91 x0 7).toInt ≤ 999 := p_90
              refine mm_if_eq (X := r_89.toInt) (tgt := 204) hx hb dX4_readFormat_111 (by decide) rfl (fun c_96 => ?_) (fun c_96 => ?_)
              · refine lv_iconst (v := 0) hx hb dX4_readFormat_204 (by decide) ?_
                have b_97 : 0 ≤ (I_91 x0 6).toInt ∧ (I_91 x0 6).toInt ≤ 4 := hM.ib m_92 k_92 6 rfl
                have b_98 : 0 ≤ (I_91 x0 7).toInt ∧ (I_91 x0 7).toInt ≤ 1000 := hM.ib m_92 k_92 7 rfl
                exact cr_rz (mc := 1) (ms := 8) (X := 0) E hr hlk hsz hM ⟨show (1 : Nat) ≤ 1 from by omega, show (8 : Nat) ≤ 8 from by omega⟩ num_0 (by omega) (show (I_91 x0 6).toInt = 0 ∨ (I_91 x0 7).toInt ≤ 999 from by have n9 := num_0; omega) dX4_readFormat_205
              · refine lv_aload_n hx hb dX4_readFormat_114 rfl (lv_at hl 2 rfl) ?_
                refine lv_bipush (v := 59) hx hb dX4_readFormat_115 (by decide) ?_
                have b_100 : 0 ≤ (I_91 x0 6).toInt ∧ (I_91 x0 6).toInt ≤ 4 := hM.ib m_92 k_92 6 rfl
                have b_101 : 0 ≤ (I_91 x0 7).toInt ∧ (I_91 x0 7).toInt ≤ 1000 := hM.ib m_92 k_92 7 rfl
                refine cc_Vi (vs := [.int 59]) (rest := []) (b := x0) (κ := 4) E hV rfl hA hml hM m_92 k_92 rfl rfl (h4_X4_readSign l D cA ad av L_91 K_91 I_91 O_91 _ x0 59 hM.2.2.2.1 m_92 k_92 (show (I_91 x0 6).toInt = 0 ∨ (I_91 x0 7).toInt ≤ 999 from by have n_0 := num_59; omega)) (cwV 1 hts gk_X4_readFormat_X4_readSign_99 rfl rfl rfl (by decide +kernel) ⟨Nat.le_of_ble_eq_true rfl, Nat.le_of_ble_eq_true rfl⟩) rfl hl.1 rfl (Nat.le_of_ble_eq_true rfl) dX4_readFormat_117 ⟨show (1 + 0 : Nat) ≤ 1 from by omega, show (8 + 0 : Nat) ≤ 8 from by omega⟩ (fun _ h => by cases h) (by decide) (by decide) (fun r_102 L_104 K_104 I_104 O_104 H locs fr_104 p_103 hM => ?_)
                have m_105 := (fr_104 x0 m_92 (fun z => by cases z)).1
                have k_105 : K_104 x0 = 4 := (fr_104 x0 m_92 (fun z => by cases z)).2.1.trans k_92
                have m_106 := (fr_104 x_21 m_93 (fun z => by cases z)).1
                have k_106 : K_104 x_21 = 10 := (fr_104 x_21 m_93 (fun z => by cases z)).2.1.trans k_93
                have m_107 := (fr_104 x_36 m_94 (fun z => by cases z)).1
                have k_107 : K_104 x_36 = 14 := (fr_104 x_36 m_94 (fun z => by cases z)).2.1.trans k_94
                have m_108 := (fr_104 q_45 m_95 (fun z => by cases z)).1
                have k_108 : K_104 q_45 = 2 := (fr_104 q_45 m_95 (fun z => by cases z)).2.1.trans k_95
                clear p_90
                replace p_103 : (I_104 x0 6).toInt = 0 ∨ (I_104 x0 7).toInt ≤ 999 := p_103
                refine mm_if_eq (X := r_102.toInt) (tgt := 204) hx hb dX4_readFormat_120 (by decide) rfl (fun c_109 => ?_) (fun c_109 => ?_)
                · refine lv_iconst (v := 0) hx hb dX4_readFormat_204 (by decide) ?_
                  have b_110 : 0 ≤ (I_104 x0 6).toInt ∧ (I_104 x0 6).toInt ≤ 4 := hM.ib m_105 k_105 6 rfl
                  have b_111 : 0 ≤ (I_104 x0 7).toInt ∧ (I_104 x0 7).toInt ≤ 1000 := hM.ib m_105 k_105 7 rfl
                  exact cr_rz (mc := 1) (ms := 8) (X := 0) E hr hlk hsz hM ⟨show (1 : Nat) ≤ 1 from by omega, show (8 : Nat) ≤ 8 from by omega⟩ num_0 (by omega) (show (I_104 x0 6).toInt = 0 ∨ (I_104 x0 7).toInt ≤ 999 from by have n9 := num_0; omega) dX4_readFormat_205
                · refine lv_aload_n hx hb dX4_readFormat_123 rfl (lv_at hl 2 rfl) ?_
                  refine lv_aload_n hx hb dX4_readFormat_124 rfl (lv_at hl 0 rfl) ?_
                  have b_113 : 0 ≤ (I_104 x0 6).toInt ∧ (I_104 x0 6).toInt ≤ 4 := hM.ib m_105 k_105 6 rfl
                  have b_114 : 0 ≤ (I_104 x0 7).toInt ∧ (I_104 x0 7).toInt ≤ 1000 := hM.ib m_105 k_105 7 rfl
                  refine cc_Vi (vs := [.ref q_45]) (rest := []) (b := x0) (κ := 4) E hV rfl hA hml hM m_105 k_105 rfl rfl (h4_X4_readShootings l D cA ad av L_104 K_104 I_104 O_104 _ x0 q_45 hM.2.2.2.1 m_105 k_105 m_108 k_108 (show (I_104 x0 6).toInt = 0 ∨ (I_104 x0 7).toInt ≤ 999 from by omega)) (cwV 1 hts gk_X4_readFormat_X4_readShootings_112 rfl rfl rfl (by decide +kernel) ⟨Nat.le_of_ble_eq_true rfl, Nat.le_of_ble_eq_true rfl⟩) rfl hl.1 rfl (Nat.le_of_ble_eq_true rfl) dX4_readFormat_125 ⟨show (1 + 0 : Nat) ≤ 1 from by omega, show (8 + 0 : Nat) ≤ 8 from by omega⟩ (fun _ h => by cases h) (by decide) (by decide) (fun r_115 L_117 K_117 I_117 O_117 H locs fr_117 p_116 hM => ?_)
                  have m_118 := (fr_117 x0 m_105 (fun z => by cases z)).1
                  have k_118 : K_117 x0 = 4 := (fr_117 x0 m_105 (fun z => by cases z)).2.1.trans k_105
                  have m_119 := (fr_117 x_21 m_106 (fun z => by cases z)).1
                  have k_119 : K_117 x_21 = 10 := (fr_117 x_21 m_106 (fun z => by cases z)).2.1.trans k_106
                  have m_120 := (fr_117 x_36 m_107 (fun z => by cases z)).1
                  have k_120 : K_117 x_36 = 14 := (fr_117 x_36 m_107 (fun z => by cases z)).2.1.trans k_107
                  have m_121 := (fr_117 q_45 m_108 (fun z => by cases z)).1
                  have k_121 : K_117 q_45 = 2 := (fr_117 q_45 m_108 (fun z => by cases z)).2.1.trans k_108
                  clear p_103
                  replace p_116 : (I_117 x0 6).toInt = 0 ∨ (I_117 x0 7).toInt ≤ 999 := p_116
                  refine mm_if_eq (X := r_115.toInt) (tgt := 204) hx hb dX4_readFormat_128 (by decide) rfl (fun c_122 => ?_) (fun c_122 => ?_)
                  · refine lv_iconst (v := 0) hx hb dX4_readFormat_204 (by decide) ?_
                    have b_123 : 0 ≤ (I_117 x0 6).toInt ∧ (I_117 x0 6).toInt ≤ 4 := hM.ib m_118 k_118 6 rfl
                    have b_124 : 0 ≤ (I_117 x0 7).toInt ∧ (I_117 x0 7).toInt ≤ 1000 := hM.ib m_118 k_118 7 rfl
                    exact cr_rz (mc := 1) (ms := 8) (X := 0) E hr hlk hsz hM ⟨show (1 : Nat) ≤ 1 from by omega, show (8 : Nat) ≤ 8 from by omega⟩ num_0 (by omega) (show (I_117 x0 6).toInt = 0 ∨ (I_117 x0 7).toInt ≤ 999 from by have n9 := num_0; omega) dX4_readFormat_205
                  · refine lv_aload_n hx hb dX4_readFormat_131 rfl (lv_at hl 2 rfl) ?_
                    refine lv_bipush (v := 59) hx hb dX4_readFormat_132 (by decide) ?_
                    have b_126 : 0 ≤ (I_117 x0 6).toInt ∧ (I_117 x0 6).toInt ≤ 4 := hM.ib m_118 k_118 6 rfl
                    have b_127 : 0 ≤ (I_117 x0 7).toInt ∧ (I_117 x0 7).toInt ≤ 1000 := hM.ib m_118 k_118 7 rfl
                    refine cc_Vi (vs := [.int 59]) (rest := []) (b := x0) (κ := 4) E hV rfl hA hml hM m_118 k_118 rfl rfl (h4_X4_readSign l D cA ad av L_117 K_117 I_117 O_117 _ x0 59 hM.2.2.2.1 m_118 k_118 (show (I_117 x0 6).toInt = 0 ∨ (I_117 x0 7).toInt ≤ 999 from by have n_0 := num_59; omega)) (cwV 1 hts gk_X4_readFormat_X4_readSign_125 rfl rfl rfl (by decide +kernel) ⟨Nat.le_of_ble_eq_true rfl, Nat.le_of_ble_eq_true rfl⟩) rfl hl.1 rfl (Nat.le_of_ble_eq_true rfl) dX4_readFormat_134 ⟨show (1 + 0 : Nat) ≤ 1 from by omega, show (8 + 0 : Nat) ≤ 8 from by omega⟩ (fun _ h => by cases h) (by decide) (by decide) (fun r_128 L_130 K_130 I_130 O_130 H locs fr_130 p_129 hM => ?_)
                    have m_131 := (fr_130 x0 m_118 (fun z => by cases z)).1
                    have k_131 : K_130 x0 = 4 := (fr_130 x0 m_118 (fun z => by cases z)).2.1.trans k_118
                    have m_132 := (fr_130 x_21 m_119 (fun z => by cases z)).1
                    have k_132 : K_130 x_21 = 10 := (fr_130 x_21 m_119 (fun z => by cases z)).2.1.trans k_119
                    have m_133 := (fr_130 x_36 m_120 (fun z => by cases z)).1
                    have k_133 : K_130 x_36 = 14 := (fr_130 x_36 m_120 (fun z => by cases z)).2.1.trans k_120
                    have m_134 := (fr_130 q_45 m_121 (fun z => by cases z)).1
                    have k_134 : K_130 q_45 = 2 := (fr_130 q_45 m_121 (fun z => by cases z)).2.1.trans k_121
                    clear p_116
                    replace p_129 : (I_130 x0 6).toInt = 0 ∨ (I_130 x0 7).toInt ≤ 999 := p_129
                    refine mm_if_eq (X := r_128.toInt) (tgt := 204) hx hb dX4_readFormat_137 (by decide) rfl (fun c_135 => ?_) (fun c_135 => ?_)
                    · refine lv_iconst (v := 0) hx hb dX4_readFormat_204 (by decide) ?_
                      have b_136 : 0 ≤ (I_130 x0 6).toInt ∧ (I_130 x0 6).toInt ≤ 4 := hM.ib m_131 k_131 6 rfl
                      have b_137 : 0 ≤ (I_130 x0 7).toInt ∧ (I_130 x0 7).toInt ≤ 1000 := hM.ib m_131 k_131 7 rfl
                      exact cr_rz (mc := 1) (ms := 8) (X := 0) E hr hlk hsz hM ⟨show (1 : Nat) ≤ 1 from by omega, show (8 : Nat) ≤ 8 from by omega⟩ num_0 (by omega) (show (I_130 x0 6).toInt = 0 ∨ (I_130 x0 7).toInt ≤ 999 from by have n9 := num_0; omega) dX4_readFormat_205
                    · refine lv_aload_n hx hb dX4_readFormat_140 rfl (lv_at hl 2 rfl) ?_
                      refine lv_aload_n hx hb dX4_readFormat_141 rfl (lv_at hl 0 rfl) ?_
                      have b_139 : 0 ≤ (I_130 x0 6).toInt ∧ (I_130 x0 6).toInt ≤ 4 := hM.ib m_131 k_131 6 rfl
                      have b_140 : 0 ≤ (I_130 x0 7).toInt ∧ (I_130 x0 7).toInt ≤ 1000 := hM.ib m_131 k_131 7 rfl
                      refine cc_Vi (vs := [.ref q_45]) (rest := []) (b := x0) (κ := 4) E hV rfl hA hml hM m_131 k_131 rfl rfl (h4_X4_readSpares l D cA ad av L_130 K_130 I_130 O_130 _ x0 q_45 hM.2.2.2.1 m_131 k_131 m_134 k_134 (show (I_130 x0 6).toInt = 0 ∨ (I_130 x0 7).toInt ≤ 999 from by omega)) (cwV 1 hts gk_X4_readFormat_X4_readSpares_138 rfl rfl rfl (by decide +kernel) ⟨Nat.le_of_ble_eq_true rfl, Nat.le_of_ble_eq_true rfl⟩) rfl hl.1 rfl (Nat.le_of_ble_eq_true rfl) dX4_readFormat_142 ⟨show (1 + 0 : Nat) ≤ 1 from by omega, show (8 + 0 : Nat) ≤ 8 from by omega⟩ (fun _ h => by cases h) (by decide) (by decide) (fun r_141 L_143 K_143 I_143 O_143 H locs fr_143 p_142 hM => ?_)
                      have m_144 := (fr_143 x0 m_131 (fun z => by cases z)).1
                      have k_144 : K_143 x0 = 4 := (fr_143 x0 m_131 (fun z => by cases z)).2.1.trans k_131
                      have m_145 := (fr_143 x_21 m_132 (fun z => by cases z)).1
                      have k_145 : K_143 x_21 = 10 := (fr_143 x_21 m_132 (fun z => by cases z)).2.1.trans k_132
                      have m_146 := (fr_143 x_36 m_133 (fun z => by cases z)).1
                      have k_146 : K_143 x_36 = 14 := (fr_143 x_36 m_133 (fun z => by cases z)).2.1.trans k_133
                      have m_147 := (fr_143 q_45 m_134 (fun z => by cases z)).1
                      have k_147 : K_143 q_45 = 2 := (fr_143 q_45 m_134 (fun z => by cases z)).2.1.trans k_134
                      clear p_129
                      replace p_142 : (I_143 x0 6).toInt = 0 ∨ (I_143 x0 7).toInt ≤ 999 := p_142
                      refine mm_if_eq (X := r_141.toInt) (tgt := 204) hx hb dX4_readFormat_145 (by decide) rfl (fun c_148 => ?_) (fun c_148 => ?_)
                      · refine lv_iconst (v := 0) hx hb dX4_readFormat_204 (by decide) ?_
                        have b_149 : 0 ≤ (I_143 x0 6).toInt ∧ (I_143 x0 6).toInt ≤ 4 := hM.ib m_144 k_144 6 rfl
                        have b_150 : 0 ≤ (I_143 x0 7).toInt ∧ (I_143 x0 7).toInt ≤ 1000 := hM.ib m_144 k_144 7 rfl
                        exact cr_rz (mc := 1) (ms := 8) (X := 0) E hr hlk hsz hM ⟨show (1 : Nat) ≤ 1 from by omega, show (8 : Nat) ≤ 8 from by omega⟩ num_0 (by omega) (show (I_143 x0 6).toInt = 0 ∨ (I_143 x0 7).toInt ≤ 999 from by have n9 := num_0; omega) dX4_readFormat_205
                      · refine lv_aload_n hx hb dX4_readFormat_148 rfl (lv_at hl 2 rfl) ?_
                        refine lv_bipush (v := 59) hx hb dX4_readFormat_149 (by decide) ?_
                        have b_152 : 0 ≤ (I_143 x0 6).toInt ∧ (I_143 x0 6).toInt ≤ 4 := hM.ib m_144 k_144 6 rfl
                        have b_153 : 0 ≤ (I_143 x0 7).toInt ∧ (I_143 x0 7).toInt ≤ 1000 := hM.ib m_144 k_144 7 rfl
                        refine cc_Vi (vs := [.int 59]) (rest := []) (b := x0) (κ := 4) E hV rfl hA hml hM m_144 k_144 rfl rfl (h4_X4_readSign l D cA ad av L_143 K_143 I_143 O_143 _ x0 59 hM.2.2.2.1 m_144 k_144 (show (I_143 x0 6).toInt = 0 ∨ (I_143 x0 7).toInt ≤ 999 from by have n_0 := num_59; omega)) (cwV 1 hts gk_X4_readFormat_X4_readSign_151 rfl rfl rfl (by decide +kernel) ⟨Nat.le_of_ble_eq_true rfl, Nat.le_of_ble_eq_true rfl⟩) rfl hl.1 rfl (Nat.le_of_ble_eq_true rfl) dX4_readFormat_151 ⟨show (1 + 0 : Nat) ≤ 1 from by omega, show (8 + 0 : Nat) ≤ 8 from by omega⟩ (fun _ h => by cases h) (by decide) (by decide) (fun r_154 L_156 K_156 I_156 O_156 H locs fr_156 p_155 hM => ?_)
                        have m_157 := (fr_156 x0 m_144 (fun z => by cases z)).1
                        have k_157 : K_156 x0 = 4 := (fr_156 x0 m_144 (fun z => by cases z)).2.1.trans k_144
                        have m_158 := (fr_156 x_21 m_145 (fun z => by cases z)).1
                        have k_158 : K_156 x_21 = 10 := (fr_156 x_21 m_145 (fun z => by cases z)).2.1.trans k_145
                        have m_159 := (fr_156 x_36 m_146 (fun z => by cases z)).1
                        have k_159 : K_156 x_36 = 14 := (fr_156 x_36 m_146 (fun z => by cases z)).2.1.trans k_146
                        have m_160 := (fr_156 q_45 m_147 (fun z => by cases z)).1
                        have k_160 : K_156 q_45 = 2 := (fr_156 q_45 m_147 (fun z => by cases z)).2.1.trans k_147
                        clear p_142
                        replace p_155 : (I_156 x0 6).toInt = 0 ∨ (I_156 x0 7).toInt ≤ 999 := p_155
                        refine mm_if_eq (X := r_154.toInt) (tgt := 204) hx hb dX4_readFormat_154 (by decide) rfl (fun c_161 => ?_) (fun c_161 => ?_)
                        · refine lv_iconst (v := 0) hx hb dX4_readFormat_204 (by decide) ?_
                          have b_162 : 0 ≤ (I_156 x0 6).toInt ∧ (I_156 x0 6).toInt ≤ 4 := hM.ib m_157 k_157 6 rfl
                          have b_163 : 0 ≤ (I_156 x0 7).toInt ∧ (I_156 x0 7).toInt ≤ 1000 := hM.ib m_157 k_157 7 rfl
                          exact cr_rz (mc := 1) (ms := 8) (X := 0) E hr hlk hsz hM ⟨show (1 : Nat) ≤ 1 from by omega, show (8 : Nat) ≤ 8 from by omega⟩ num_0 (by omega) (show (I_156 x0 6).toInt = 0 ∨ (I_156 x0 7).toInt ≤ 999 from by have n9 := num_0; omega) dX4_readFormat_205
                        · refine lv_aload_n hx hb dX4_readFormat_157 rfl (lv_at hl 2 rfl) ?_
                          refine lv_aload_n hx hb dX4_readFormat_158 rfl (lv_at hl 0 rfl) ?_
                          have b_165 : 0 ≤ (I_156 x0 6).toInt ∧ (I_156 x0 6).toInt ≤ 4 := hM.ib m_157 k_157 6 rfl
                          have b_166 : 0 ≤ (I_156 x0 7).toInt ∧ (I_156 x0 7).toInt ≤ 1000 := hM.ib m_157 k_157 7 rfl
                          refine cc_Vi (vs := [.ref q_45]) (rest := []) (b := x0) (κ := 4) E hV rfl hA hml hM m_157 k_157 rfl rfl (h4_X4_readMiss l D cA ad av L_156 K_156 I_156 O_156 _ x0 q_45 hM.2.2.2.1 m_157 k_157 m_160 k_160 (show (I_156 x0 6).toInt = 0 ∨ (I_156 x0 7).toInt ≤ 999 from by omega)) (cwV 1 hts gk_X4_readFormat_X4_readMiss_164 rfl rfl rfl (by decide +kernel) ⟨Nat.le_of_ble_eq_true rfl, Nat.le_of_ble_eq_true rfl⟩) rfl hl.1 rfl (Nat.le_of_ble_eq_true rfl) dX4_readFormat_159 ⟨show (1 + 0 : Nat) ≤ 1 from by omega, show (8 + 0 : Nat) ≤ 8 from by omega⟩ (fun _ h => by cases h) (by decide) (by decide) (fun r_167 L_169 K_169 I_169 O_169 H locs fr_169 p_168 hM => ?_)
                          have m_170 := (fr_169 x0 m_157 (fun z => by cases z)).1
                          have k_170 : K_169 x0 = 4 := (fr_169 x0 m_157 (fun z => by cases z)).2.1.trans k_157
                          have m_171 := (fr_169 x_21 m_158 (fun z => by cases z)).1
                          have k_171 : K_169 x_21 = 10 := (fr_169 x_21 m_158 (fun z => by cases z)).2.1.trans k_158
                          have m_172 := (fr_169 x_36 m_159 (fun z => by cases z)).1
                          have k_172 : K_169 x_36 = 14 := (fr_169 x_36 m_159 (fun z => by cases z)).2.1.trans k_159
                          have m_173 := (fr_169 q_45 m_160 (fun z => by cases z)).1
                          have k_173 : K_169 q_45 = 2 := (fr_169 q_45 m_160 (fun z => by cases z)).2.1.trans k_160
                          clear p_155
                          replace p_168 : (I_169 x0 6).toInt = 0 ∨ (I_169 x0 7).toInt ≤ 999 := p_168
                          refine mm_if_eq (X := r_167.toInt) (tgt := 204) hx hb dX4_readFormat_162 (by decide) rfl (fun c_174 => ?_) (fun c_174 => ?_)
                          · refine lv_iconst (v := 0) hx hb dX4_readFormat_204 (by decide) ?_
                            have b_175 : 0 ≤ (I_169 x0 6).toInt ∧ (I_169 x0 6).toInt ≤ 4 := hM.ib m_170 k_170 6 rfl
                            have b_176 : 0 ≤ (I_169 x0 7).toInt ∧ (I_169 x0 7).toInt ≤ 1000 := hM.ib m_170 k_170 7 rfl
                            exact cr_rz (mc := 1) (ms := 8) (X := 0) E hr hlk hsz hM ⟨show (1 : Nat) ≤ 1 from by omega, show (8 : Nat) ≤ 8 from by omega⟩ num_0 (by omega) (show (I_169 x0 6).toInt = 0 ∨ (I_169 x0 7).toInt ≤ 999 from by have n9 := num_0; omega) dX4_readFormat_205
                          · refine lv_aload_n hx hb dX4_readFormat_165 rfl (lv_at hl 2 rfl) ?_
                            refine lv_bipush (v := 59) hx hb dX4_readFormat_166 (by decide) ?_
                            have b_178 : 0 ≤ (I_169 x0 6).toInt ∧ (I_169 x0 6).toInt ≤ 4 := hM.ib m_170 k_170 6 rfl
                            have b_179 : 0 ≤ (I_169 x0 7).toInt ∧ (I_169 x0 7).toInt ≤ 1000 := hM.ib m_170 k_170 7 rfl
                            refine cc_Vi (vs := [.int 59]) (rest := []) (b := x0) (κ := 4) E hV rfl hA hml hM m_170 k_170 rfl rfl (h4_X4_readSign l D cA ad av L_169 K_169 I_169 O_169 _ x0 59 hM.2.2.2.1 m_170 k_170 (show (I_169 x0 6).toInt = 0 ∨ (I_169 x0 7).toInt ≤ 999 from by have n_0 := num_59; omega)) (cwV 1 hts gk_X4_readFormat_X4_readSign_177 rfl rfl rfl (by decide +kernel) ⟨Nat.le_of_ble_eq_true rfl, Nat.le_of_ble_eq_true rfl⟩) rfl hl.1 rfl (Nat.le_of_ble_eq_true rfl) dX4_readFormat_168 ⟨show (1 + 0 : Nat) ≤ 1 from by omega, show (8 + 0 : Nat) ≤ 8 from by omega⟩ (fun _ h => by cases h) (by decide) (by decide) (fun r_180 L_182 K_182 I_182 O_182 H locs fr_182 p_181 hM => ?_)
                            have m_183 := (fr_182 x0 m_170 (fun z => by cases z)).1
                            have k_183 : K_182 x0 = 4 := (fr_182 x0 m_170 (fun z => by cases z)).2.1.trans k_170
                            have m_184 := (fr_182 x_21 m_171 (fun z => by cases z)).1
                            have k_184 : K_182 x_21 = 10 := (fr_182 x_21 m_171 (fun z => by cases z)).2.1.trans k_171
                            have m_185 := (fr_182 x_36 m_172 (fun z => by cases z)).1
                            have k_185 : K_182 x_36 = 14 := (fr_182 x_36 m_172 (fun z => by cases z)).2.1.trans k_172
                            have m_186 := (fr_182 q_45 m_173 (fun z => by cases z)).1
                            have k_186 : K_182 q_45 = 2 := (fr_182 q_45 m_173 (fun z => by cases z)).2.1.trans k_173
                            clear p_168
                            replace p_181 : (I_182 x0 6).toInt = 0 ∨ (I_182 x0 7).toInt ≤ 999 := p_181
                            refine mm_if_eq (X := r_180.toInt) (tgt := 204) hx hb dX4_readFormat_171 (by decide) rfl (fun c_187 => ?_) (fun c_187 => ?_)
                            · refine lv_iconst (v := 0) hx hb dX4_readFormat_204 (by decide) ?_
                              have b_188 : 0 ≤ (I_182 x0 6).toInt ∧ (I_182 x0 6).toInt ≤ 4 := hM.ib m_183 k_183 6 rfl
                              have b_189 : 0 ≤ (I_182 x0 7).toInt ∧ (I_182 x0 7).toInt ≤ 1000 := hM.ib m_183 k_183 7 rfl
                              exact cr_rz (mc := 1) (ms := 8) (X := 0) E hr hlk hsz hM ⟨show (1 : Nat) ≤ 1 from by omega, show (8 : Nat) ≤ 8 from by omega⟩ num_0 (by omega) (show (I_182 x0 6).toInt = 0 ∨ (I_182 x0 7).toInt ≤ 999 from by have n9 := num_0; omega) dX4_readFormat_205
                            · refine lv_aload_n hx hb dX4_readFormat_174 rfl (lv_at hl 2 rfl) ?_
                              refine lv_aload_n hx hb dX4_readFormat_175 rfl (lv_at hl 0 rfl) ?_
                              have b_191 : 0 ≤ (I_182 x0 6).toInt ∧ (I_182 x0 6).toInt ≤ 4 := hM.ib m_183 k_183 6 rfl
                              have b_192 : 0 ≤ (I_182 x0 7).toInt ∧ (I_182 x0 7).toInt ≤ 1000 := hM.ib m_183 k_183 7 rfl
                              refine cc_Vi (vs := [.ref q_45]) (rest := []) (b := x0) (κ := 4) E hV rfl hA hml hM m_183 k_183 rfl rfl (h4_X4_readStart l D cA ad av L_182 K_182 I_182 O_182 _ x0 q_45 hM.2.2.2.1 m_183 k_183 m_186 k_186 (show (I_182 x0 6).toInt = 0 ∨ (I_182 x0 7).toInt ≤ 999 from by omega)) (cwV 1 hts gk_X4_readFormat_X4_readStart_190 rfl rfl rfl (by decide +kernel) ⟨Nat.le_of_ble_eq_true rfl, Nat.le_of_ble_eq_true rfl⟩) rfl hl.1 rfl (Nat.le_of_ble_eq_true rfl) dX4_readFormat_176 ⟨show (1 + 0 : Nat) ≤ 1 from by omega, show (8 + 0 : Nat) ≤ 8 from by omega⟩ (fun _ h => by cases h) (by decide) (by decide) (fun r_193 L_195 K_195 I_195 O_195 H locs fr_195 p_194 hM => ?_)
                              have m_196 := (fr_195 x0 m_183 (fun z => by cases z)).1
                              have k_196 : K_195 x0 = 4 := (fr_195 x0 m_183 (fun z => by cases z)).2.1.trans k_183
                              have m_197 := (fr_195 x_21 m_184 (fun z => by cases z)).1
                              have k_197 : K_195 x_21 = 10 := (fr_195 x_21 m_184 (fun z => by cases z)).2.1.trans k_184
                              have m_198 := (fr_195 x_36 m_185 (fun z => by cases z)).1
                              have k_198 : K_195 x_36 = 14 := (fr_195 x_36 m_185 (fun z => by cases z)).2.1.trans k_185
                              have m_199 := (fr_195 q_45 m_186 (fun z => by cases z)).1
                              have k_199 : K_195 q_45 = 2 := (fr_195 q_45 m_186 (fun z => by cases z)).2.1.trans k_186
                              clear p_181
                              replace p_194 : (I_195 x0 6).toInt = 0 ∨ (I_195 x0 7).toInt ≤ 999 := p_194
                              refine mm_if_eq (X := r_193.toInt) (tgt := 204) hx hb dX4_readFormat_179 (by decide) rfl (fun c_200 => ?_) (fun c_200 => ?_)
                              · refine lv_iconst (v := 0) hx hb dX4_readFormat_204 (by decide) ?_
                                have b_201 : 0 ≤ (I_195 x0 6).toInt ∧ (I_195 x0 6).toInt ≤ 4 := hM.ib m_196 k_196 6 rfl
                                have b_202 : 0 ≤ (I_195 x0 7).toInt ∧ (I_195 x0 7).toInt ≤ 1000 := hM.ib m_196 k_196 7 rfl
                                exact cr_rz (mc := 1) (ms := 8) (X := 0) E hr hlk hsz hM ⟨show (1 : Nat) ≤ 1 from by omega, show (8 : Nat) ≤ 8 from by omega⟩ num_0 (by omega) (show (I_195 x0 6).toInt = 0 ∨ (I_195 x0 7).toInt ≤ 999 from by have n9 := num_0; omega) dX4_readFormat_205
                              · refine lv_aload_n hx hb dX4_readFormat_182 rfl (lv_at hl 2 rfl) ?_
                                refine lv_bipush (v := 59) hx hb dX4_readFormat_183 (by decide) ?_
                                have b_204 : 0 ≤ (I_195 x0 6).toInt ∧ (I_195 x0 6).toInt ≤ 4 := hM.ib m_196 k_196 6 rfl
                                have b_205 : 0 ≤ (I_195 x0 7).toInt ∧ (I_195 x0 7).toInt ≤ 1000 := hM.ib m_196 k_196 7 rfl
                                refine cc_Vi (vs := [.int 59]) (rest := []) (b := x0) (κ := 4) E hV rfl hA hml hM m_196 k_196 rfl rfl (h4_X4_readSign l D cA ad av L_195 K_195 I_195 O_195 _ x0 59 hM.2.2.2.1 m_196 k_196 (show (I_195 x0 6).toInt = 0 ∨ (I_195 x0 7).toInt ≤ 999 from by have n_0 := num_59; omega)) (cwV 1 hts gk_X4_readFormat_X4_readSign_203 rfl rfl rfl (by decide +kernel) ⟨Nat.le_of_ble_eq_true rfl, Nat.le_of_ble_eq_true rfl⟩) rfl hl.1 rfl (Nat.le_of_ble_eq_true rfl) dX4_readFormat_185 ⟨show (1 + 0 : Nat) ≤ 1 from by omega, show (8 + 0 : Nat) ≤ 8 from by omega⟩ (fun _ h => by cases h) (by decide) (by decide) (fun r_206 L_208 K_208 I_208 O_208 H locs fr_208 p_207 hM => ?_)
                                have m_209 := (fr_208 x0 m_196 (fun z => by cases z)).1
                                have k_209 : K_208 x0 = 4 := (fr_208 x0 m_196 (fun z => by cases z)).2.1.trans k_196
                                have m_210 := (fr_208 x_21 m_197 (fun z => by cases z)).1
                                have k_210 : K_208 x_21 = 10 := (fr_208 x_21 m_197 (fun z => by cases z)).2.1.trans k_197
                                have m_211 := (fr_208 x_36 m_198 (fun z => by cases z)).1
                                have k_211 : K_208 x_36 = 14 := (fr_208 x_36 m_198 (fun z => by cases z)).2.1.trans k_198
                                have m_212 := (fr_208 q_45 m_199 (fun z => by cases z)).1
                                have k_212 : K_208 q_45 = 2 := (fr_208 q_45 m_199 (fun z => by cases z)).2.1.trans k_199
                                clear p_194
                                replace p_207 : (I_208 x0 6).toInt = 0 ∨ (I_208 x0 7).toInt ≤ 999 := p_207
                                refine mm_if_eq (X := r_206.toInt) (tgt := 204) hx hb dX4_readFormat_188 (by decide) rfl (fun c_213 => ?_) (fun c_213 => ?_)
                                · refine lv_iconst (v := 0) hx hb dX4_readFormat_204 (by decide) ?_
                                  have b_214 : 0 ≤ (I_208 x0 6).toInt ∧ (I_208 x0 6).toInt ≤ 4 := hM.ib m_209 k_209 6 rfl
                                  have b_215 : 0 ≤ (I_208 x0 7).toInt ∧ (I_208 x0 7).toInt ≤ 1000 := hM.ib m_209 k_209 7 rfl
                                  exact cr_rz (mc := 1) (ms := 8) (X := 0) E hr hlk hsz hM ⟨show (1 : Nat) ≤ 1 from by omega, show (8 : Nat) ≤ 8 from by omega⟩ num_0 (by omega) (show (I_208 x0 6).toInt = 0 ∨ (I_208 x0 7).toInt ≤ 999 from by have n9 := num_0; omega) dX4_readFormat_205
                                · refine lv_aload_n hx hb dX4_readFormat_191 rfl (lv_at hl 2 rfl) ?_
                                  refine lv_bipush (v := 125) hx hb dX4_readFormat_192 (by decide) ?_
                                  have b_217 : 0 ≤ (I_208 x0 6).toInt ∧ (I_208 x0 6).toInt ≤ 4 := hM.ib m_209 k_209 6 rfl
                                  have b_218 : 0 ≤ (I_208 x0 7).toInt ∧ (I_208 x0 7).toInt ≤ 1000 := hM.ib m_209 k_209 7 rfl
                                  refine cc_Vi (vs := [.int 125]) (rest := []) (b := x0) (κ := 4) E hV rfl hA hml hM m_209 k_209 rfl rfl (h4_X4_readSign l D cA ad av L_208 K_208 I_208 O_208 _ x0 125 hM.2.2.2.1 m_209 k_209 (show (I_208 x0 6).toInt = 0 ∨ (I_208 x0 7).toInt ≤ 999 from by have n_0 := num_125; omega)) (cwV 1 hts gk_X4_readFormat_X4_readSign_216 rfl rfl rfl (by decide +kernel) ⟨Nat.le_of_ble_eq_true rfl, Nat.le_of_ble_eq_true rfl⟩) rfl hl.1 rfl (Nat.le_of_ble_eq_true rfl) dX4_readFormat_194 ⟨show (1 + 0 : Nat) ≤ 1 from by omega, show (8 + 0 : Nat) ≤ 8 from by omega⟩ (fun _ h => by cases h) (by decide) (by decide) (fun r_219 L_221 K_221 I_221 O_221 H locs fr_221 p_220 hM => ?_)
                                  have m_222 := (fr_221 x0 m_209 (fun z => by cases z)).1
                                  have k_222 : K_221 x0 = 4 := (fr_221 x0 m_209 (fun z => by cases z)).2.1.trans k_209
                                  have m_223 := (fr_221 x_21 m_210 (fun z => by cases z)).1
                                  have k_223 : K_221 x_21 = 10 := (fr_221 x_21 m_210 (fun z => by cases z)).2.1.trans k_210
                                  have m_224 := (fr_221 x_36 m_211 (fun z => by cases z)).1
                                  have k_224 : K_221 x_36 = 14 := (fr_221 x_36 m_211 (fun z => by cases z)).2.1.trans k_211
                                  have m_225 := (fr_221 q_45 m_212 (fun z => by cases z)).1
                                  have k_225 : K_221 q_45 = 2 := (fr_221 q_45 m_212 (fun z => by cases z)).2.1.trans k_212
                                  clear p_207
                                  replace p_220 : (I_221 x0 6).toInt = 0 ∨ (I_221 x0 7).toInt ≤ 999 := p_220
                                  refine mm_if_eq (X := r_219.toInt) (tgt := 204) hx hb dX4_readFormat_197 (by decide) rfl (fun c_226 => ?_) (fun c_226 => ?_)
                                  · refine lv_iconst (v := 0) hx hb dX4_readFormat_204 (by decide) ?_
                                    have b_227 : 0 ≤ (I_221 x0 6).toInt ∧ (I_221 x0 6).toInt ≤ 4 := hM.ib m_222 k_222 6 rfl
                                    have b_228 : 0 ≤ (I_221 x0 7).toInt ∧ (I_221 x0 7).toInt ≤ 1000 := hM.ib m_222 k_222 7 rfl
                                    exact cr_rz (mc := 1) (ms := 8) (X := 0) E hr hlk hsz hM ⟨show (1 : Nat) ≤ 1 from by omega, show (8 : Nat) ≤ 8 from by omega⟩ num_0 (by omega) (show (I_221 x0 6).toInt = 0 ∨ (I_221 x0 7).toInt ≤ 999 from by have n9 := num_0; omega) dX4_readFormat_205
                                  · refine lv_iconst (v := 1) hx hb dX4_readFormat_200 (by decide) ?_
                                    refine lv_goto (tgt := 205) hx hb dX4_readFormat_201 (by decide) ?_
                                    have b_229 : 0 ≤ (I_221 x0 6).toInt ∧ (I_221 x0 6).toInt ≤ 4 := hM.ib m_222 k_222 6 rfl
                                    have b_230 : 0 ≤ (I_221 x0 7).toInt ∧ (I_221 x0 7).toInt ≤ 1000 := hM.ib m_222 k_222 7 rfl
                                    exact cr_rz (mc := 1) (ms := 8) (X := 1) E hr hlk hsz hM ⟨show (1 : Nat) ≤ 1 from by omega, show (8 : Nat) ≤ 8 from by omega⟩ num_1 (by omega) (show (I_221 x0 6).toInt = 0 ∨ (I_221 x0 7).toInt ≤ 999 from by have n9 := num_1; omega) dX4_readFormat_205
          · obtain ⟨m_37, k_37⟩ := hM.rt m_36 k_36 (Int32.toNatClampNeg z_23) (κ' := 2) rfl o_37
            refine cr_aalds (κ := 14) (t0 := 3) (X := z_23.toInt) E hM m_36 k_36 (fun _ _ => rfl) rfl rfl (by omega) o_37 dX4_readFormat_57 ?_
            refine lv_ifnull hx hb dX4_readFormat_58 ?_
            refine lv_aload_n hx hb dX4_readFormat_61 rfl (lv_at hl 1 rfl) ?_
            refine lv_iconst (v := 3) hx hb dX4_readFormat_62 (by decide) ?_
            refine cc_Vi (vs := [.int 3]) (rest := []) (b := x0) (κ := 4) E hV rfl hA hml hM m_7 k_7 rfl rfl (h4_X4_fail l D cA ad av L_6 K_6 I_6 O_6 _ x0 3 hM.2.2.2.1 m_7 k_7) (cwV 1 hts gk_X4_readFormat_X4_fail_231 rfl rfl rfl (by decide +kernel) ⟨Nat.le_of_ble_eq_true rfl, Nat.le_of_ble_eq_true rfl⟩) rfl hl.1 rfl (Nat.le_of_ble_eq_true rfl) dX4_readFormat_63 ⟨show (0 + 0 : Nat) ≤ 1 from by omega, show (0 + 0 : Nat) ≤ 8 from by omega⟩ (fun _ h => by cases h) (by decide) (by decide) (fun r_232 L_234 K_234 I_234 O_234 H locs fr_234 p_233 hM => ?_)
            have m_235 := (fr_234 x0 m_7 (fun z => by cases z)).1
            have k_235 : K_234 x0 = 4 := (fr_234 x0 m_7 (fun z => by cases z)).2.1.trans k_7
            have m_236 := (fr_234 x_21 m_21 (fun z => by cases z)).1
            have k_236 : K_234 x_21 = 10 := (fr_234 x_21 m_21 (fun z => by cases z)).2.1.trans k_21
            have m_237 := (fr_234 x_36 m_36 (fun z => by cases z)).1
            have k_237 : K_234 x_36 = 14 := (fr_234 x_36 m_36 (fun z => by cases z)).2.1.trans k_36
            have m_238 := (fr_234 x_37 m_37 (fun z => by cases z)).1
            have k_238 : K_234 x_37 = 2 := (fr_234 x_37 m_37 (fun z => by cases z)).2.1.trans k_37
            replace p_233 : r_232.toInt = 0 := p_233
            have b_239 : 0 ≤ (I_234 x0 6).toInt ∧ (I_234 x0 6).toInt ≤ 4 := hM.ib m_235 k_235 6 rfl
            have e_240 : (I_234 x0 6).toInt = (I_6 x0 6).toInt := congrArg Int32.toInt ((fr_234 x0 m_7 (fun z => by cases z)).2.2.1 6 (by rw [k_7]; rfl))
            have b_241 : 0 ≤ (I_234 x0 7).toInt ∧ (I_234 x0 7).toInt ≤ 1000 := hM.ib m_235 k_235 7 rfl
            have e_242 : (I_234 x0 7).toInt = (I_6 x0 7).toInt := congrArg Int32.toInt ((fr_234 x0 m_7 (fun z => by cases z)).2.2.1 7 (by rw [k_7]; rfl))
            exact cr_rz (mc := 1) (ms := 8) (X := r_232.toInt) E hr hlk hsz hM ⟨show (0 : Nat) ≤ 1 from by omega, show (0 : Nat) ≤ 8 from by omega⟩ rfl (by omega) (show (I_234 x0 6).toInt = 0 ∨ (I_234 x0 7).toInt ≤ 999 from by omega) dX4_readFormat_66
        · refine lv_aload_n hx hb dX4_readFormat_46 rfl (lv_at hl 1 rfl) ?_
          refine lv_iconst (v := 1) hx hb dX4_readFormat_47 (by decide) ?_
          refine cc_Vi (vs := [.int 1]) (rest := []) (b := x0) (κ := 4) E hV rfl hA hml hM m_7 k_7 rfl rfl (h4_X4_fail l D cA ad av L_6 K_6 I_6 O_6 _ x0 1 hM.2.2.2.1 m_7 k_7) (cwV 1 hts gk_X4_readFormat_X4_fail_243 rfl rfl rfl (by decide +kernel) ⟨Nat.le_of_ble_eq_true rfl, Nat.le_of_ble_eq_true rfl⟩) rfl hl.1 rfl (Nat.le_of_ble_eq_true rfl) dX4_readFormat_48 ⟨show (0 + 0 : Nat) ≤ 1 from by omega, show (0 + 0 : Nat) ≤ 8 from by omega⟩ (fun _ h => by cases h) (by decide) (by decide) (fun r_244 L_246 K_246 I_246 O_246 H locs fr_246 p_245 hM => ?_)
          have m_247 := (fr_246 x0 m_7 (fun z => by cases z)).1
          have k_247 : K_246 x0 = 4 := (fr_246 x0 m_7 (fun z => by cases z)).2.1.trans k_7
          have m_248 := (fr_246 x_21 m_21 (fun z => by cases z)).1
          have k_248 : K_246 x_21 = 10 := (fr_246 x_21 m_21 (fun z => by cases z)).2.1.trans k_21
          replace p_245 : r_244.toInt = 0 := p_245
          have b_249 : 0 ≤ (I_246 x0 6).toInt ∧ (I_246 x0 6).toInt ≤ 4 := hM.ib m_247 k_247 6 rfl
          have e_250 : (I_246 x0 6).toInt = (I_6 x0 6).toInt := congrArg Int32.toInt ((fr_246 x0 m_7 (fun z => by cases z)).2.2.1 6 (by rw [k_7]; rfl))
          have b_251 : 0 ≤ (I_246 x0 7).toInt ∧ (I_246 x0 7).toInt ≤ 1000 := hM.ib m_247 k_247 7 rfl
          have e_252 : (I_246 x0 7).toInt = (I_6 x0 7).toInt := congrArg Int32.toInt ((fr_246 x0 m_7 (fun z => by cases z)).2.2.1 7 (by rw [k_7]; rfl))
          exact cr_rz (mc := 1) (ms := 8) (X := r_244.toInt) E hr hlk hsz hM ⟨show (0 : Nat) ≤ 1 from by omega, show (0 : Nat) ≤ 8 from by omega⟩ rfl (by omega) (show (I_246 x0 6).toInt = 0 ∨ (I_246 x0 7).toInt ≤ 999 from by omega) dX4_readFormat_51
  · refine lv_iconst (v := 0) hx hb dX4_readFormat_9 (by decide) ?_
    have b_253 : 0 ≤ (I_6 x0 6).toInt ∧ (I_6 x0 6).toInt ≤ 4 := hM.ib m_7 k_7 6 rfl
    have b_254 : 0 ≤ (I_6 x0 7).toInt ∧ (I_6 x0 7).toInt ≤ 1000 := hM.ib m_7 k_7 7 rfl
    exact cr_rz (mc := 1) (ms := 8) (X := 0) E hr hlk hsz hM ⟨show (0 : Nat) ≤ 1 from by omega, show (0 : Nat) ≤ 8 from by omega⟩ num_0 (by omega) (show (I_6 x0 6).toInt = 0 ∨ (I_6 x0 7).toInt ≤ 999 from by have n9 := num_0; omega) dX4_readFormat_10
def w4X4_readFormats : List Cond := .code yX4_readFormats cX4_readFormats 2 (some .boolean) :: ([.methodLink RX4 34 yX4_step, .instanceMethod yX4_step, .selects RX4 yX4_step yX4_step, .initialized RX4, .code yX4_step cX4_step 1 none, .fieldLink RX4 133 "SkiShots$Reader" "behind" "I", .fieldLink RX4 21 "SkiShots$Reader" "length" "I", .methodLink RX4 149 yX4_sortAt, .instanceMethod yX4_sortAt, .selects RX4 yX4_sortAt yX4_sortAt, .code yX4_sortAt cX4_sortAt 3 (some .int), .fieldLink RX4 9 "SkiShots$Reader" "text" "[B", .fieldLink RX4 37 "SkiShots$Reader" "sort" "I", .fieldLink RX4 54 "SkiShots$Reader" "place" "I", .methodLink RX4 15 Lib.Math.min.name, .static Lib.Math.min.name, .initialized "java/lang/Math", .code Lib.Math.min.name Lib.Math.min.code 2 (some .int), .methodLink RX4 40 yX4_readFormat, .instanceMethod yX4_readFormat, .selects RX4 yX4_readFormat yX4_readFormat, .code yX4_readFormat cX4_readFormat 3 (some .boolean), .methodLink RX4 50 yX4_readWord, .instanceMethod yX4_readWord, .selects RX4 yX4_readWord yX4_readWord, .code yX4_readWord cX4_readWord 2 (some .boolean), .methodLink RX4 107 yX4_isWord, .instanceMethod yX4_isWord, .selects RX4 yX4_isWord yX4_isWord, .code yX4_isWord cX4_isWord 3 (some .boolean), .methodLink RX4 140 yJ0_length_8abf5, .instanceMethod yJ0_length_8abf5, .selects RJ0 yJ0_length_8abf5 yJ0_length_8abf5, .initialized RJ0, .code yJ0_length_8abf5 cJ0_length_8abf5 1 (some .int), .fieldLink RJ0 9 "java/lang/String" "value" "[B", .methodLink RJ0 335 yJ0_coder_7d493, .instanceMethod yJ0_coder_7d493, .selects RJ0 yJ0_coder_7d493 yJ0_coder_7d493, .code yJ0_coder_7d493 cJ0_coder_7d493 1 (some .byte), .fieldLink RJ0 38 "java/lang/String" "COMPACT_STRINGS" "Z", .fieldLink RJ0 15 "java/lang/String" "coder" "B", .methodLink RX4 145 yJ0_charAt_5068e, .instanceMethod yJ0_charAt_5068e, .selects RJ0 yJ0_charAt_5068e yJ0_charAt_5068e, .code yJ0_charAt_5068e cJ0_charAt_5068e 2 (some .char), .methodLink RJ0 492 yJ0_isLatin1_aae02, .instanceMethod yJ0_isLatin1_aae02, .selects RJ0 yJ0_isLatin1_aae02 yJ0_isLatin1_aae02, .code yJ0_isLatin1_aae02 cJ0_isLatin1_aae02 1 (some .boolean), .methodLink RJ0 495 yJ1_charAt_3b067, .static yJ1_charAt_3b067, .initialized RJ1, .code yJ1_charAt_3b067 cJ1_charAt_3b067 2 (some .char), .methodLink RJ1 9 yJ0_checkIndex_df160, .static yJ0_checkIndex_df160, .code yJ0_checkIndex_df160 cJ0_checkIndex_df160 2 none, .fieldLink RJ0 1053 "jdk/internal/util/Preconditions" "SIOOBE_FORMATTER" "Ljava/util/function/BiFunction;", .methodLink RJ0 1059 yJ3_checkIndex_8e157, .static yJ3_checkIndex_8e157, .initialized RJ3, .code yJ3_checkIndex_8e157 cJ3_checkIndex_8e157 3 (some .int), .methodLink RX4 44 yX4_fail, .instanceMethod yX4_fail, .selects RX4 yX4_fail yX4_fail, .code yX4_fail cX4_fail 2 (some .boolean), .fieldLink RX4 137 "SkiShots$Reader" "fault" "I", .fieldLink RX4 31 "SkiShots$Reader" "faultPlace" "I", .fieldLink RX4 27 "SkiShots$Reader" "found" "[LSkiShots$Format;", .classLink RX4 25 RX2, .instantiable RX2 8, .initialized RX2, .methodLink RX4 57 yX2_init, .instanceMethod yX2_init, .code yX2_init cX2_init 2 none, .methodLink RX2 3 objectInit, .instanceMethod objectInit, .code objectInit ⟨#[0xb1]⟩ 1 none, .fieldLink RX2 9 "SkiShots$Format" "name" "I", .fieldLink RX4 60 "SkiShots$Reader" "foundCount" "I", .methodLink RX4 63 yX4_readSign, .instanceMethod yX4_readSign, .selects RX4 yX4_readSign yX4_readSign, .code yX4_readSign cX4_readSign 2 (some .boolean), .methodLink RX4 67 yX4_readLaps, .instanceMethod yX4_readLaps, .selects RX4 yX4_readLaps yX4_readLaps, .code yX4_readLaps cX4_readLaps 2 (some .boolean), .methodLink RX4 85 yX4_readNumber, .instanceMethod yX4_readNumber, .selects RX4 yX4_readNumber yX4_readNumber, .code yX4_readNumber cX4_readNumber 4 (some .boolean), .fieldLink RX4 89 "SkiShots$Reader" "number" "I", .constant RX4 136 (100000), .fieldLink RX4 92 "SkiShots$Format" "laps" "I", .methodLink RX4 71 yX4_readShootings, .instanceMethod yX4_readShootings, .selects RX4 yX4_readShootings yX4_readShootings, .code yX4_readShootings cX4_readShootings 4 (some .boolean), .fieldLink RX4 96 "SkiShots$Format" "shootings" "I", .methodLink RX4 74 yX4_readSpares, .instanceMethod yX4_readSpares, .selects RX4 yX4_readSpares yX4_readSpares, .code yX4_readSpares cX4_readSpares 2 (some .boolean), .fieldLink RX4 101 "SkiShots$Format" "spares" "I", .methodLink RX4 77 yX4_readMiss, .instanceMethod yX4_readMiss, .selects RX4 yX4_readMiss yX4_readMiss, .code yX4_readMiss cX4_readMiss 2 (some .boolean), .fieldLink RX4 110 "SkiShots$Format" "loops" "Z", .fieldLink RX4 116 "SkiShots$Format" "missSeconds" "I", .methodLink RX4 80 yX4_readStart, .instanceMethod yX4_readStart, .selects RX4 yX4_readStart yX4_readStart, .code yX4_readStart cX4_readStart 3 (some .boolean), .fieldLink RX4 123 "SkiShots$Format" "startSort" "I", .fieldLink RX4 130 "SkiShots$Format" "startSeconds" "I"] ++ wsX20 ++ wsX40)
set_option maxRecDepth 20000 in
theorem gk_X4_readFormats_X4_step_1 : GoodIn w4X4_readFormats (wsV RX4 34 RX4 yX4_step w4X4_step) := goodIn_p _ [5, 11, 18] rfl (by decide +kernel)
set_option maxRecDepth 20000 in
theorem gk_X4_readFormats_X4_readFormat_10 : GoodIn w4X4_readFormats (wsV RX4 40 RX4 yX4_readFormat w4X4_readFormat) := goodIn_p _ [22, 26, 30, 35, 40, 46, 50, 54, 57, 62, 5, 11, 18, 66, 75, 78, 84, 88, 92, 99, 104, 109, 115] rfl (by decide +kernel)
set_option maxRecDepth 20000 in
theorem gk_X4_readFormats_X4_readFormat_21 : GoodIn w4X4_readFormats (wsV RX4 40 RX4 yX4_readFormat w4X4_readFormat) := goodIn_p _ [22, 26, 30, 35, 40, 46, 50, 54, 57, 62, 5, 11, 18, 66, 75, 78, 84, 88, 92, 99, 104, 109, 115] rfl (by decide +kernel)
set_option maxRecDepth 20000 in
theorem gk_X4_readFormats_X4_readFormat_32 : GoodIn w4X4_readFormats (wsV RX4 40 RX4 yX4_readFormat w4X4_readFormat) := goodIn_p _ [22, 26, 30, 35, 40, 46, 50, 54, 57, 62, 5, 11, 18, 66, 75, 78, 84, 88, 92, 99, 104, 109, 115] rfl (by decide +kernel)
set_option maxRecDepth 20000 in
theorem gk_X4_readFormats_X4_readFormat_43 : GoodIn w4X4_readFormats (wsV RX4 40 RX4 yX4_readFormat w4X4_readFormat) := goodIn_p _ [22, 26, 30, 35, 40, 46, 50, 54, 57, 62, 5, 11, 18, 66, 75, 78, 84, 88, 92, 99, 104, 109, 115] rfl (by decide +kernel)
set_option maxRecDepth 20000 in
theorem gk_X4_readFormats_X4_readFormat_54 : GoodIn w4X4_readFormats (wsV RX4 40 RX4 yX4_readFormat w4X4_readFormat) := goodIn_p _ [22, 26, 30, 35, 40, 46, 50, 54, 57, 62, 5, 11, 18, 66, 75, 78, 84, 88, 92, 99, 104, 109, 115] rfl (by decide +kernel)
set_option maxRecDepth 20000 in
theorem gk_X4_readFormats_X4_readFormat_65 : GoodIn w4X4_readFormats (wsV RX4 40 RX4 yX4_readFormat w4X4_readFormat) := goodIn_p _ [22, 26, 30, 35, 40, 46, 50, 54, 57, 62, 5, 11, 18, 66, 75, 78, 84, 88, 92, 99, 104, 109, 115] rfl (by decide +kernel)
set_option maxRecDepth 20000 in
theorem gk_X4_readFormats_X4_readFormat_76 : GoodIn w4X4_readFormats (wsV RX4 40 RX4 yX4_readFormat w4X4_readFormat) := goodIn_p _ [22, 26, 30, 35, 40, 46, 50, 54, 57, 62, 5, 11, 18, 66, 75, 78, 84, 88, 92, 99, 104, 109, 115] rfl (by decide +kernel)
set_option maxRecDepth 20000 in
theorem gk_X4_readFormats_X4_readFormat_87 : GoodIn w4X4_readFormats (wsV RX4 40 RX4 yX4_readFormat w4X4_readFormat) := goodIn_p _ [22, 26, 30, 35, 40, 46, 50, 54, 57, 62, 5, 11, 18, 66, 75, 78, 84, 88, 92, 99, 104, 109, 115] rfl (by decide +kernel)
set_option maxRecDepth 20000 in
theorem gk_X4_readFormats_X4_fail_97 : GoodIn w4X4_readFormats (wsV RX4 44 RX4 yX4_fail w4X4_fail) := goodIn_p _ [66] rfl (by decide +kernel)
set_option maxHeartbeats 4000000 in
set_option maxRecDepth 100000 in
theorem h4_X4_readFormats (l : Launch) (D : va_G) (cA : Nat → ClassId) (ad av : Nat → Nat) (L : List Nat) (K : Nat → Nat) (I : Nat → Nat → Int32) (O : Nat → Nat → Option Nat) (sz : Nat) (x0 : Nat) (hI : cI L K I O) (mx0 : x0 ∈ L) (kx0 : K x0 = 4)  : Met l yX4_readFormats w4X4_readFormats ({ frames := 8, cells := 8, slots := 64, locals := 173 }) (cPre D cA ad av L K I O sz [.ref x0]) (cQi D cA L K I O sz [] [(2, 0), (2, 1), (2, 2), (2, 3), (2, 4), (2, 5), (2, 6), (2, 7), (4, 3), (4, 4), (4, 5), (4, 6), (4, 7), (4, 8), (4, 9)] [(14, 0)] (fun r L' K' I' O' => True)) 8 64 (va_A (cW cA L K I O) sz) := by
  refine cr_met (own := RX4) (xs := []) (WI := [(2, 0), (2, 1), (2, 2), (2, 3), (2, 4), (2, 5), (2, 6), (2, 7), (4, 3), (4, 4), (4, 5), (4, 6), (4, 7), (4, 8), (4, 9)]) (WO := [(14, 0)]) (cc := cX4_readFormats) (maxL := 2) (ret := (some .boolean)) (by decide) rfl rfl (Nat.le_of_ble_eq_true rfl) hI ?_
  intro p e s m args below meth c ls E hV hml hr hlk hname hsz hA hM hl
  have hx := E.1
  have hb := E.2.1
  have hts := E.2.2.1
  have hown := E.2.2.2.1
  have hl : lv_has ls 2 [(0, .ref x0)] := hl
  have hin2 : ∀ w ∈ wsX20, w ∈ w4X4_readFormats := by decide +kernel
  have hin4 : ∀ w ∈ wsX40, w ∈ w4X4_readFormats := by decide +kernel
  refine lv_aload_n hx hb dX4_readFormats_0 rfl (lv_at hl 0 rfl) ?_
  refine cc_Vv (vs := []) (rest := []) (b := x0) (κ := 4) E hV rfl hA hml hM mx0 kx0 rfl rfl (h4_X4_step l D cA ad av L K I O _ x0 hM.2.2.2.1 mx0 kx0) (cwV 0 hts gk_X4_readFormats_X4_step_1 rfl rfl rfl (by decide +kernel) ⟨Nat.le_of_ble_eq_true rfl, Nat.le_of_ble_eq_true rfl⟩) rfl hl.1 rfl (Nat.le_of_ble_eq_true rfl) dX4_readFormats_1 ⟨show (0 + 0 : Nat) ≤ 8 from by omega, show (0 + 0 : Nat) ≤ 64 from by omega⟩ (fun _ h => by cases h) (by decide) (by decide) (fun L_4 K_4 I_4 O_4 H locs fr_4 p_3 hM => ?_)
  have m_5 := (fr_4 x0 mx0 (fun z => by cases z)).1
  have k_5 : K_4 x0 = 4 := (fr_4 x0 mx0 (fun z => by cases z)).2.1.trans kx0
  replace p_3 : (I_4 x0 6).toInt = 0 ∨ (I_4 x0 7).toInt ≤ 999 := p_3
  refine lv_iconst (v := 0) hx hb dX4_readFormats_4 (by decide) ?_
  refine lv_istore_n (lv' := [(1, .int 0), (0, .ref x0)]) hx hb dX4_readFormats_5 rfl hl (by decide) rfl (fun ls hl => ?_)
  refine lv_iload_n hx hb dX4_readFormats_6 rfl (lv_at hl 0 rfl) ?_
  refine lv_bipush (v := 8) hx hb dX4_readFormats_7 (by decide) ?_
  refine mm_icmp_ge (X := 0) (Y := 8) (tgt := 34) hx hb dX4_readFormats_9 (by decide) num_0 num_8 (fun c_6 => False.elim (by omega)) (fun c_6 => ?_)
  refine lv_aload_n hx hb dX4_readFormats_12 rfl (lv_at hl 1 rfl) ?_
  have b_7 : 0 ≤ (I_4 x0 6).toInt ∧ (I_4 x0 6).toInt ≤ 4 := hM.ib m_5 k_5 6 rfl
  refine cr_get (κ := 4) (ci := 4) (k := 6) (C := RX4) (T := TX4) (N := 10) (fs := cfs 4) (v := .int (I_4 x0 6)) E hM m_5 k_5 (fun _ _ => rfl) rfl hin4 (by decide) (index := 37) (mm_at 13 rfl) rfl rfl dX4_readFormats_13 ?_
  refine mm_if_eq (X := (I_4 x0 6).toInt) (tgt := 34) hx hb dX4_readFormats_16 (by decide) rfl (fun c_8 => ?_) (fun c_8 => ?_)
  · refine lv_aload_n hx hb dX4_readFormats_34 rfl (lv_at hl 1 rfl) ?_
    refine cr_get (κ := 4) (ci := 4) (k := 6) (C := RX4) (T := TX4) (N := 10) (fs := cfs 4) (v := .int (I_4 x0 6)) E hM m_5 k_5 (fun _ _ => rfl) rfl hin4 (by decide) (index := 37) (mm_at 13 rfl) rfl rfl dX4_readFormats_35 ?_
    refine mm_if_eq (X := (I_4 x0 6).toInt) (tgt := 49) hx hb dX4_readFormats_38 (by decide) rfl (fun c_9 => ?_) (fun c_9 => False.elim (by omega))
    refine lv_iconst (v := 1) hx hb dX4_readFormats_49 (by decide) ?_
    refine lv_goto (tgt := 54) hx hb dX4_readFormats_50 (by decide) ?_
    exact cr_rz (mc := 8) (ms := 64) (X := 1) E hr hlk hsz hM ⟨show (0 : Nat) ≤ 8 from by omega, show (0 : Nat) ≤ 64 from by omega⟩ num_1 (by omega) trivial dX4_readFormats_54
  · refine lv_aload_n hx hb dX4_readFormats_19 rfl (lv_at hl 1 rfl) ?_
    have b_11 : 0 ≤ (I_4 x0 7).toInt ∧ (I_4 x0 7).toInt ≤ 1000 := hM.ib m_5 k_5 7 rfl
    refine cc_Vi (vs := []) (rest := []) (b := x0) (κ := 4) E hV rfl hA hml hM m_5 k_5 rfl rfl (h4_X4_readFormat l D cA ad av L_4 K_4 I_4 O_4 _ x0 hM.2.2.2.1 m_5 k_5 (show (I_4 x0 6).toInt = 0 ∨ (I_4 x0 7).toInt ≤ 999 from by omega)) (cwV 0 hts gk_X4_readFormats_X4_readFormat_10 rfl rfl rfl (by decide +kernel) ⟨Nat.le_of_ble_eq_true rfl, Nat.le_of_ble_eq_true rfl⟩) rfl hl.1 rfl (Nat.le_of_ble_eq_true rfl) dX4_readFormats_20 ⟨show (0 + 1 : Nat) ≤ 8 from by omega, show (0 + 8 : Nat) ≤ 64 from by omega⟩ (fun _ h => by cases h) (by decide) (by decide) (fun r_12 L_14 K_14 I_14 O_14 H locs fr_14 p_13 hM => ?_)
    have m_15 := (fr_14 x0 m_5 (fun z => by cases z)).1
    have k_15 : K_14 x0 = 4 := (fr_14 x0 m_5 (fun z => by cases z)).2.1.trans k_5
    refine W.widen (k := 1) (n := 8) (by omega) (by omega) ?_
    clear p_3
    replace p_13 : (I_14 x0 6).toInt = 0 ∨ (I_14 x0 7).toInt ≤ 999 := p_13
    refine mm_if_ne (X := r_12.toInt) (tgt := 28) hx hb dX4_readFormats_23 (by decide) rfl (fun c_16 => ?_) (fun c_16 => ?_)
    · refine lv_iinc (v := 1) (lv' := [(1, .int 1), (0, .ref x0)]) hx hb dX4_readFormats_28 hl (k := 0) rfl (by decide) (by decide) rfl (fun ls hl => ?_)
      refine lv_goto (tgt := 6) hx hb dX4_readFormats_31 (by decide) ?_
      refine lv_iload_n hx hb dX4_readFormats_6 rfl (lv_at hl 0 rfl) ?_
      refine lv_bipush (v := 8) hx hb dX4_readFormats_7 (by decide) ?_
      refine mm_icmp_ge (X := 1) (Y := 8) (tgt := 34) hx hb dX4_readFormats_9 (by decide) num_1 num_8 (fun c_17 => False.elim (by omega)) (fun c_17 => ?_)
      refine lv_aload_n hx hb dX4_readFormats_12 rfl (lv_at hl 1 rfl) ?_
      have b_18 : 0 ≤ (I_14 x0 6).toInt ∧ (I_14 x0 6).toInt ≤ 4 := hM.ib m_15 k_15 6 rfl
      refine cr_get (κ := 4) (ci := 4) (k := 6) (C := RX4) (T := TX4) (N := 10) (fs := cfs 4) (v := .int (I_14 x0 6)) E hM m_15 k_15 (fun _ _ => rfl) rfl hin4 (by decide) (index := 37) (mm_at 13 rfl) rfl rfl dX4_readFormats_13 ?_
      refine mm_if_eq (X := (I_14 x0 6).toInt) (tgt := 34) hx hb dX4_readFormats_16 (by decide) rfl (fun c_19 => ?_) (fun c_19 => ?_)
      · refine lv_aload_n hx hb dX4_readFormats_34 rfl (lv_at hl 1 rfl) ?_
        refine cr_get (κ := 4) (ci := 4) (k := 6) (C := RX4) (T := TX4) (N := 10) (fs := cfs 4) (v := .int (I_14 x0 6)) E hM m_15 k_15 (fun _ _ => rfl) rfl hin4 (by decide) (index := 37) (mm_at 13 rfl) rfl rfl dX4_readFormats_35 ?_
        refine mm_if_eq (X := (I_14 x0 6).toInt) (tgt := 49) hx hb dX4_readFormats_38 (by decide) rfl (fun c_20 => ?_) (fun c_20 => False.elim (by omega))
        refine lv_iconst (v := 1) hx hb dX4_readFormats_49 (by decide) ?_
        refine lv_goto (tgt := 54) hx hb dX4_readFormats_50 (by decide) ?_
        exact cr_rz (mc := 8) (ms := 64) (X := 1) E hr hlk hsz hM ⟨show (1 : Nat) ≤ 8 from by omega, show (8 : Nat) ≤ 64 from by omega⟩ num_1 (by omega) trivial dX4_readFormats_54
      · refine lv_aload_n hx hb dX4_readFormats_19 rfl (lv_at hl 1 rfl) ?_
        have b_22 : 0 ≤ (I_14 x0 7).toInt ∧ (I_14 x0 7).toInt ≤ 1000 := hM.ib m_15 k_15 7 rfl
        refine cc_Vi (vs := []) (rest := []) (b := x0) (κ := 4) E hV rfl hA hml hM m_15 k_15 rfl rfl (h4_X4_readFormat l D cA ad av L_14 K_14 I_14 O_14 _ x0 hM.2.2.2.1 m_15 k_15 (show (I_14 x0 6).toInt = 0 ∨ (I_14 x0 7).toInt ≤ 999 from by omega)) (cwV 0 hts gk_X4_readFormats_X4_readFormat_21 rfl rfl rfl (by decide +kernel) ⟨Nat.le_of_ble_eq_true rfl, Nat.le_of_ble_eq_true rfl⟩) rfl hl.1 rfl (Nat.le_of_ble_eq_true rfl) dX4_readFormats_20 ⟨show (1 + 1 : Nat) ≤ 8 from by omega, show (8 + 8 : Nat) ≤ 64 from by omega⟩ (fun _ h => by cases h) (by decide) (by decide) (fun r_23 L_25 K_25 I_25 O_25 H locs fr_25 p_24 hM => ?_)
        have m_26 := (fr_25 x0 m_15 (fun z => by cases z)).1
        have k_26 : K_25 x0 = 4 := (fr_25 x0 m_15 (fun z => by cases z)).2.1.trans k_15
        refine W.widen (k := 2) (n := 16) (by omega) (by omega) ?_
        clear p_13
        replace p_24 : (I_25 x0 6).toInt = 0 ∨ (I_25 x0 7).toInt ≤ 999 := p_24
        refine mm_if_ne (X := r_23.toInt) (tgt := 28) hx hb dX4_readFormats_23 (by decide) rfl (fun c_27 => ?_) (fun c_27 => ?_)
        · refine lv_iinc (v := 2) (lv' := [(1, .int 2), (0, .ref x0)]) hx hb dX4_readFormats_28 hl (k := 0) rfl (by decide) (by decide) rfl (fun ls hl => ?_)
          refine lv_goto (tgt := 6) hx hb dX4_readFormats_31 (by decide) ?_
          refine lv_iload_n hx hb dX4_readFormats_6 rfl (lv_at hl 0 rfl) ?_
          refine lv_bipush (v := 8) hx hb dX4_readFormats_7 (by decide) ?_
          refine mm_icmp_ge (X := 2) (Y := 8) (tgt := 34) hx hb dX4_readFormats_9 (by decide) num_2 num_8 (fun c_28 => False.elim (by omega)) (fun c_28 => ?_)
          refine lv_aload_n hx hb dX4_readFormats_12 rfl (lv_at hl 1 rfl) ?_
          have b_29 : 0 ≤ (I_25 x0 6).toInt ∧ (I_25 x0 6).toInt ≤ 4 := hM.ib m_26 k_26 6 rfl
          refine cr_get (κ := 4) (ci := 4) (k := 6) (C := RX4) (T := TX4) (N := 10) (fs := cfs 4) (v := .int (I_25 x0 6)) E hM m_26 k_26 (fun _ _ => rfl) rfl hin4 (by decide) (index := 37) (mm_at 13 rfl) rfl rfl dX4_readFormats_13 ?_
          refine mm_if_eq (X := (I_25 x0 6).toInt) (tgt := 34) hx hb dX4_readFormats_16 (by decide) rfl (fun c_30 => ?_) (fun c_30 => ?_)
          · refine lv_aload_n hx hb dX4_readFormats_34 rfl (lv_at hl 1 rfl) ?_
            refine cr_get (κ := 4) (ci := 4) (k := 6) (C := RX4) (T := TX4) (N := 10) (fs := cfs 4) (v := .int (I_25 x0 6)) E hM m_26 k_26 (fun _ _ => rfl) rfl hin4 (by decide) (index := 37) (mm_at 13 rfl) rfl rfl dX4_readFormats_35 ?_
            refine mm_if_eq (X := (I_25 x0 6).toInt) (tgt := 49) hx hb dX4_readFormats_38 (by decide) rfl (fun c_31 => ?_) (fun c_31 => False.elim (by omega))
            refine lv_iconst (v := 1) hx hb dX4_readFormats_49 (by decide) ?_
            refine lv_goto (tgt := 54) hx hb dX4_readFormats_50 (by decide) ?_
            exact cr_rz (mc := 8) (ms := 64) (X := 1) E hr hlk hsz hM ⟨show (2 : Nat) ≤ 8 from by omega, show (16 : Nat) ≤ 64 from by omega⟩ num_1 (by omega) trivial dX4_readFormats_54
          · refine lv_aload_n hx hb dX4_readFormats_19 rfl (lv_at hl 1 rfl) ?_
            have b_33 : 0 ≤ (I_25 x0 7).toInt ∧ (I_25 x0 7).toInt ≤ 1000 := hM.ib m_26 k_26 7 rfl
            refine cc_Vi (vs := []) (rest := []) (b := x0) (κ := 4) E hV rfl hA hml hM m_26 k_26 rfl rfl (h4_X4_readFormat l D cA ad av L_25 K_25 I_25 O_25 _ x0 hM.2.2.2.1 m_26 k_26 (show (I_25 x0 6).toInt = 0 ∨ (I_25 x0 7).toInt ≤ 999 from by omega)) (cwV 0 hts gk_X4_readFormats_X4_readFormat_32 rfl rfl rfl (by decide +kernel) ⟨Nat.le_of_ble_eq_true rfl, Nat.le_of_ble_eq_true rfl⟩) rfl hl.1 rfl (Nat.le_of_ble_eq_true rfl) dX4_readFormats_20 ⟨show (2 + 1 : Nat) ≤ 8 from by omega, show (16 + 8 : Nat) ≤ 64 from by omega⟩ (fun _ h => by cases h) (by decide) (by decide) (fun r_34 L_36 K_36 I_36 O_36 H locs fr_36 p_35 hM => ?_)
            have m_37 := (fr_36 x0 m_26 (fun z => by cases z)).1
            have k_37 : K_36 x0 = 4 := (fr_36 x0 m_26 (fun z => by cases z)).2.1.trans k_26
            refine W.widen (k := 3) (n := 24) (by omega) (by omega) ?_
            clear p_24
            replace p_35 : (I_36 x0 6).toInt = 0 ∨ (I_36 x0 7).toInt ≤ 999 := p_35
            refine mm_if_ne (X := r_34.toInt) (tgt := 28) hx hb dX4_readFormats_23 (by decide) rfl (fun c_38 => ?_) (fun c_38 => ?_)
            · refine lv_iinc (v := 3) (lv' := [(1, .int 3), (0, .ref x0)]) hx hb dX4_readFormats_28 hl (k := 0) rfl (by decide) (by decide) rfl (fun ls hl => ?_)
              refine lv_goto (tgt := 6) hx hb dX4_readFormats_31 (by decide) ?_
              refine lv_iload_n hx hb dX4_readFormats_6 rfl (lv_at hl 0 rfl) ?_
              refine lv_bipush (v := 8) hx hb dX4_readFormats_7 (by decide) ?_
              refine mm_icmp_ge (X := 3) (Y := 8) (tgt := 34) hx hb dX4_readFormats_9 (by decide) num_3 num_8 (fun c_39 => False.elim (by omega)) (fun c_39 => ?_)
              refine lv_aload_n hx hb dX4_readFormats_12 rfl (lv_at hl 1 rfl) ?_
              have b_40 : 0 ≤ (I_36 x0 6).toInt ∧ (I_36 x0 6).toInt ≤ 4 := hM.ib m_37 k_37 6 rfl
              refine cr_get (κ := 4) (ci := 4) (k := 6) (C := RX4) (T := TX4) (N := 10) (fs := cfs 4) (v := .int (I_36 x0 6)) E hM m_37 k_37 (fun _ _ => rfl) rfl hin4 (by decide) (index := 37) (mm_at 13 rfl) rfl rfl dX4_readFormats_13 ?_
              refine mm_if_eq (X := (I_36 x0 6).toInt) (tgt := 34) hx hb dX4_readFormats_16 (by decide) rfl (fun c_41 => ?_) (fun c_41 => ?_)
              · refine lv_aload_n hx hb dX4_readFormats_34 rfl (lv_at hl 1 rfl) ?_
                refine cr_get (κ := 4) (ci := 4) (k := 6) (C := RX4) (T := TX4) (N := 10) (fs := cfs 4) (v := .int (I_36 x0 6)) E hM m_37 k_37 (fun _ _ => rfl) rfl hin4 (by decide) (index := 37) (mm_at 13 rfl) rfl rfl dX4_readFormats_35 ?_
                refine mm_if_eq (X := (I_36 x0 6).toInt) (tgt := 49) hx hb dX4_readFormats_38 (by decide) rfl (fun c_42 => ?_) (fun c_42 => False.elim (by omega))
                refine lv_iconst (v := 1) hx hb dX4_readFormats_49 (by decide) ?_
                refine lv_goto (tgt := 54) hx hb dX4_readFormats_50 (by decide) ?_
                exact cr_rz (mc := 8) (ms := 64) (X := 1) E hr hlk hsz hM ⟨show (3 : Nat) ≤ 8 from by omega, show (24 : Nat) ≤ 64 from by omega⟩ num_1 (by omega) trivial dX4_readFormats_54
              · refine lv_aload_n hx hb dX4_readFormats_19 rfl (lv_at hl 1 rfl) ?_
                have b_44 : 0 ≤ (I_36 x0 7).toInt ∧ (I_36 x0 7).toInt ≤ 1000 := hM.ib m_37 k_37 7 rfl
                refine cc_Vi (vs := []) (rest := []) (b := x0) (κ := 4) E hV rfl hA hml hM m_37 k_37 rfl rfl (h4_X4_readFormat l D cA ad av L_36 K_36 I_36 O_36 _ x0 hM.2.2.2.1 m_37 k_37 (show (I_36 x0 6).toInt = 0 ∨ (I_36 x0 7).toInt ≤ 999 from by omega)) (cwV 0 hts gk_X4_readFormats_X4_readFormat_43 rfl rfl rfl (by decide +kernel) ⟨Nat.le_of_ble_eq_true rfl, Nat.le_of_ble_eq_true rfl⟩) rfl hl.1 rfl (Nat.le_of_ble_eq_true rfl) dX4_readFormats_20 ⟨show (3 + 1 : Nat) ≤ 8 from by omega, show (24 + 8 : Nat) ≤ 64 from by omega⟩ (fun _ h => by cases h) (by decide) (by decide) (fun r_45 L_47 K_47 I_47 O_47 H locs fr_47 p_46 hM => ?_)
                have m_48 := (fr_47 x0 m_37 (fun z => by cases z)).1
                have k_48 : K_47 x0 = 4 := (fr_47 x0 m_37 (fun z => by cases z)).2.1.trans k_37
                refine W.widen (k := 4) (n := 32) (by omega) (by omega) ?_
                clear p_35
                replace p_46 : (I_47 x0 6).toInt = 0 ∨ (I_47 x0 7).toInt ≤ 999 := p_46
                refine mm_if_ne (X := r_45.toInt) (tgt := 28) hx hb dX4_readFormats_23 (by decide) rfl (fun c_49 => ?_) (fun c_49 => ?_)
                · refine lv_iinc (v := 4) (lv' := [(1, .int 4), (0, .ref x0)]) hx hb dX4_readFormats_28 hl (k := 0) rfl (by decide) (by decide) rfl (fun ls hl => ?_)
                  refine lv_goto (tgt := 6) hx hb dX4_readFormats_31 (by decide) ?_
                  refine lv_iload_n hx hb dX4_readFormats_6 rfl (lv_at hl 0 rfl) ?_
                  refine lv_bipush (v := 8) hx hb dX4_readFormats_7 (by decide) ?_
                  refine mm_icmp_ge (X := 4) (Y := 8) (tgt := 34) hx hb dX4_readFormats_9 (by decide) num_4 num_8 (fun c_50 => False.elim (by omega)) (fun c_50 => ?_)
                  refine lv_aload_n hx hb dX4_readFormats_12 rfl (lv_at hl 1 rfl) ?_
                  have b_51 : 0 ≤ (I_47 x0 6).toInt ∧ (I_47 x0 6).toInt ≤ 4 := hM.ib m_48 k_48 6 rfl
                  refine cr_get (κ := 4) (ci := 4) (k := 6) (C := RX4) (T := TX4) (N := 10) (fs := cfs 4) (v := .int (I_47 x0 6)) E hM m_48 k_48 (fun _ _ => rfl) rfl hin4 (by decide) (index := 37) (mm_at 13 rfl) rfl rfl dX4_readFormats_13 ?_
                  refine mm_if_eq (X := (I_47 x0 6).toInt) (tgt := 34) hx hb dX4_readFormats_16 (by decide) rfl (fun c_52 => ?_) (fun c_52 => ?_)
                  · refine lv_aload_n hx hb dX4_readFormats_34 rfl (lv_at hl 1 rfl) ?_
                    refine cr_get (κ := 4) (ci := 4) (k := 6) (C := RX4) (T := TX4) (N := 10) (fs := cfs 4) (v := .int (I_47 x0 6)) E hM m_48 k_48 (fun _ _ => rfl) rfl hin4 (by decide) (index := 37) (mm_at 13 rfl) rfl rfl dX4_readFormats_35 ?_
                    refine mm_if_eq (X := (I_47 x0 6).toInt) (tgt := 49) hx hb dX4_readFormats_38 (by decide) rfl (fun c_53 => ?_) (fun c_53 => False.elim (by omega))
                    refine lv_iconst (v := 1) hx hb dX4_readFormats_49 (by decide) ?_
                    refine lv_goto (tgt := 54) hx hb dX4_readFormats_50 (by decide) ?_
                    exact cr_rz (mc := 8) (ms := 64) (X := 1) E hr hlk hsz hM ⟨show (4 : Nat) ≤ 8 from by omega, show (32 : Nat) ≤ 64 from by omega⟩ num_1 (by omega) trivial dX4_readFormats_54
                  · refine lv_aload_n hx hb dX4_readFormats_19 rfl (lv_at hl 1 rfl) ?_
                    have b_55 : 0 ≤ (I_47 x0 7).toInt ∧ (I_47 x0 7).toInt ≤ 1000 := hM.ib m_48 k_48 7 rfl
                    refine cc_Vi (vs := []) (rest := []) (b := x0) (κ := 4) E hV rfl hA hml hM m_48 k_48 rfl rfl (h4_X4_readFormat l D cA ad av L_47 K_47 I_47 O_47 _ x0 hM.2.2.2.1 m_48 k_48 (show (I_47 x0 6).toInt = 0 ∨ (I_47 x0 7).toInt ≤ 999 from by omega)) (cwV 0 hts gk_X4_readFormats_X4_readFormat_54 rfl rfl rfl (by decide +kernel) ⟨Nat.le_of_ble_eq_true rfl, Nat.le_of_ble_eq_true rfl⟩) rfl hl.1 rfl (Nat.le_of_ble_eq_true rfl) dX4_readFormats_20 ⟨show (4 + 1 : Nat) ≤ 8 from by omega, show (32 + 8 : Nat) ≤ 64 from by omega⟩ (fun _ h => by cases h) (by decide) (by decide) (fun r_56 L_58 K_58 I_58 O_58 H locs fr_58 p_57 hM => ?_)
                    have m_59 := (fr_58 x0 m_48 (fun z => by cases z)).1
                    have k_59 : K_58 x0 = 4 := (fr_58 x0 m_48 (fun z => by cases z)).2.1.trans k_48
                    refine W.widen (k := 5) (n := 40) (by omega) (by omega) ?_
                    clear p_46
                    replace p_57 : (I_58 x0 6).toInt = 0 ∨ (I_58 x0 7).toInt ≤ 999 := p_57
                    refine mm_if_ne (X := r_56.toInt) (tgt := 28) hx hb dX4_readFormats_23 (by decide) rfl (fun c_60 => ?_) (fun c_60 => ?_)
                    · refine lv_iinc (v := 5) (lv' := [(1, .int 5), (0, .ref x0)]) hx hb dX4_readFormats_28 hl (k := 0) rfl (by decide) (by decide) rfl (fun ls hl => ?_)
                      refine lv_goto (tgt := 6) hx hb dX4_readFormats_31 (by decide) ?_
                      refine lv_iload_n hx hb dX4_readFormats_6 rfl (lv_at hl 0 rfl) ?_
                      refine lv_bipush (v := 8) hx hb dX4_readFormats_7 (by decide) ?_
                      refine mm_icmp_ge (X := 5) (Y := 8) (tgt := 34) hx hb dX4_readFormats_9 (by decide) num_5 num_8 (fun c_61 => False.elim (by omega)) (fun c_61 => ?_)
                      refine lv_aload_n hx hb dX4_readFormats_12 rfl (lv_at hl 1 rfl) ?_
                      have b_62 : 0 ≤ (I_58 x0 6).toInt ∧ (I_58 x0 6).toInt ≤ 4 := hM.ib m_59 k_59 6 rfl
                      refine cr_get (κ := 4) (ci := 4) (k := 6) (C := RX4) (T := TX4) (N := 10) (fs := cfs 4) (v := .int (I_58 x0 6)) E hM m_59 k_59 (fun _ _ => rfl) rfl hin4 (by decide) (index := 37) (mm_at 13 rfl) rfl rfl dX4_readFormats_13 ?_
                      refine mm_if_eq (X := (I_58 x0 6).toInt) (tgt := 34) hx hb dX4_readFormats_16 (by decide) rfl (fun c_63 => ?_) (fun c_63 => ?_)
                      · refine lv_aload_n hx hb dX4_readFormats_34 rfl (lv_at hl 1 rfl) ?_
                        refine cr_get (κ := 4) (ci := 4) (k := 6) (C := RX4) (T := TX4) (N := 10) (fs := cfs 4) (v := .int (I_58 x0 6)) E hM m_59 k_59 (fun _ _ => rfl) rfl hin4 (by decide) (index := 37) (mm_at 13 rfl) rfl rfl dX4_readFormats_35 ?_
                        refine mm_if_eq (X := (I_58 x0 6).toInt) (tgt := 49) hx hb dX4_readFormats_38 (by decide) rfl (fun c_64 => ?_) (fun c_64 => False.elim (by omega))
                        refine lv_iconst (v := 1) hx hb dX4_readFormats_49 (by decide) ?_
                        refine lv_goto (tgt := 54) hx hb dX4_readFormats_50 (by decide) ?_
                        exact cr_rz (mc := 8) (ms := 64) (X := 1) E hr hlk hsz hM ⟨show (5 : Nat) ≤ 8 from by omega, show (40 : Nat) ≤ 64 from by omega⟩ num_1 (by omega) trivial dX4_readFormats_54
                      · refine lv_aload_n hx hb dX4_readFormats_19 rfl (lv_at hl 1 rfl) ?_
                        have b_66 : 0 ≤ (I_58 x0 7).toInt ∧ (I_58 x0 7).toInt ≤ 1000 := hM.ib m_59 k_59 7 rfl
                        refine cc_Vi (vs := []) (rest := []) (b := x0) (κ := 4) E hV rfl hA hml hM m_59 k_59 rfl rfl (h4_X4_readFormat l D cA ad av L_58 K_58 I_58 O_58 _ x0 hM.2.2.2.1 m_59 k_59 (show (I_58 x0 6).toInt = 0 ∨ (I_58 x0 7).toInt ≤ 999 from by omega)) (cwV 0 hts gk_X4_readFormats_X4_readFormat_65 rfl rfl rfl (by decide +kernel) ⟨Nat.le_of_ble_eq_true rfl, Nat.le_of_ble_eq_true rfl⟩) rfl hl.1 rfl (Nat.le_of_ble_eq_true rfl) dX4_readFormats_20 ⟨show (5 + 1 : Nat) ≤ 8 from by omega, show (40 + 8 : Nat) ≤ 64 from by omega⟩ (fun _ h => by cases h) (by decide) (by decide) (fun r_67 L_69 K_69 I_69 O_69 H locs fr_69 p_68 hM => ?_)
                        have m_70 := (fr_69 x0 m_59 (fun z => by cases z)).1
                        have k_70 : K_69 x0 = 4 := (fr_69 x0 m_59 (fun z => by cases z)).2.1.trans k_59
                        refine W.widen (k := 6) (n := 48) (by omega) (by omega) ?_
                        clear p_57
                        replace p_68 : (I_69 x0 6).toInt = 0 ∨ (I_69 x0 7).toInt ≤ 999 := p_68
                        refine mm_if_ne (X := r_67.toInt) (tgt := 28) hx hb dX4_readFormats_23 (by decide) rfl (fun c_71 => ?_) (fun c_71 => ?_)
                        · refine lv_iinc (v := 6) (lv' := [(1, .int 6), (0, .ref x0)]) hx hb dX4_readFormats_28 hl (k := 0) rfl (by decide) (by decide) rfl (fun ls hl => ?_)
                          refine lv_goto (tgt := 6) hx hb dX4_readFormats_31 (by decide) ?_
                          refine lv_iload_n hx hb dX4_readFormats_6 rfl (lv_at hl 0 rfl) ?_
                          refine lv_bipush (v := 8) hx hb dX4_readFormats_7 (by decide) ?_
                          refine mm_icmp_ge (X := 6) (Y := 8) (tgt := 34) hx hb dX4_readFormats_9 (by decide) num_6 num_8 (fun c_72 => False.elim (by omega)) (fun c_72 => ?_)
                          refine lv_aload_n hx hb dX4_readFormats_12 rfl (lv_at hl 1 rfl) ?_
                          have b_73 : 0 ≤ (I_69 x0 6).toInt ∧ (I_69 x0 6).toInt ≤ 4 := hM.ib m_70 k_70 6 rfl
                          refine cr_get (κ := 4) (ci := 4) (k := 6) (C := RX4) (T := TX4) (N := 10) (fs := cfs 4) (v := .int (I_69 x0 6)) E hM m_70 k_70 (fun _ _ => rfl) rfl hin4 (by decide) (index := 37) (mm_at 13 rfl) rfl rfl dX4_readFormats_13 ?_
                          refine mm_if_eq (X := (I_69 x0 6).toInt) (tgt := 34) hx hb dX4_readFormats_16 (by decide) rfl (fun c_74 => ?_) (fun c_74 => ?_)
                          · refine lv_aload_n hx hb dX4_readFormats_34 rfl (lv_at hl 1 rfl) ?_
                            refine cr_get (κ := 4) (ci := 4) (k := 6) (C := RX4) (T := TX4) (N := 10) (fs := cfs 4) (v := .int (I_69 x0 6)) E hM m_70 k_70 (fun _ _ => rfl) rfl hin4 (by decide) (index := 37) (mm_at 13 rfl) rfl rfl dX4_readFormats_35 ?_
                            refine mm_if_eq (X := (I_69 x0 6).toInt) (tgt := 49) hx hb dX4_readFormats_38 (by decide) rfl (fun c_75 => ?_) (fun c_75 => False.elim (by omega))
                            refine lv_iconst (v := 1) hx hb dX4_readFormats_49 (by decide) ?_
                            refine lv_goto (tgt := 54) hx hb dX4_readFormats_50 (by decide) ?_
                            exact cr_rz (mc := 8) (ms := 64) (X := 1) E hr hlk hsz hM ⟨show (6 : Nat) ≤ 8 from by omega, show (48 : Nat) ≤ 64 from by omega⟩ num_1 (by omega) trivial dX4_readFormats_54
                          · refine lv_aload_n hx hb dX4_readFormats_19 rfl (lv_at hl 1 rfl) ?_
                            have b_77 : 0 ≤ (I_69 x0 7).toInt ∧ (I_69 x0 7).toInt ≤ 1000 := hM.ib m_70 k_70 7 rfl
                            refine cc_Vi (vs := []) (rest := []) (b := x0) (κ := 4) E hV rfl hA hml hM m_70 k_70 rfl rfl (h4_X4_readFormat l D cA ad av L_69 K_69 I_69 O_69 _ x0 hM.2.2.2.1 m_70 k_70 (show (I_69 x0 6).toInt = 0 ∨ (I_69 x0 7).toInt ≤ 999 from by omega)) (cwV 0 hts gk_X4_readFormats_X4_readFormat_76 rfl rfl rfl (by decide +kernel) ⟨Nat.le_of_ble_eq_true rfl, Nat.le_of_ble_eq_true rfl⟩) rfl hl.1 rfl (Nat.le_of_ble_eq_true rfl) dX4_readFormats_20 ⟨show (6 + 1 : Nat) ≤ 8 from by omega, show (48 + 8 : Nat) ≤ 64 from by omega⟩ (fun _ h => by cases h) (by decide) (by decide) (fun r_78 L_80 K_80 I_80 O_80 H locs fr_80 p_79 hM => ?_)
                            have m_81 := (fr_80 x0 m_70 (fun z => by cases z)).1
                            have k_81 : K_80 x0 = 4 := (fr_80 x0 m_70 (fun z => by cases z)).2.1.trans k_70
                            refine W.widen (k := 7) (n := 56) (by omega) (by omega) ?_
                            clear p_68
                            replace p_79 : (I_80 x0 6).toInt = 0 ∨ (I_80 x0 7).toInt ≤ 999 := p_79
                            refine mm_if_ne (X := r_78.toInt) (tgt := 28) hx hb dX4_readFormats_23 (by decide) rfl (fun c_82 => ?_) (fun c_82 => ?_)
                            · refine lv_iinc (v := 7) (lv' := [(1, .int 7), (0, .ref x0)]) hx hb dX4_readFormats_28 hl (k := 0) rfl (by decide) (by decide) rfl (fun ls hl => ?_)
                              refine lv_goto (tgt := 6) hx hb dX4_readFormats_31 (by decide) ?_
                              refine lv_iload_n hx hb dX4_readFormats_6 rfl (lv_at hl 0 rfl) ?_
                              refine lv_bipush (v := 8) hx hb dX4_readFormats_7 (by decide) ?_
                              refine mm_icmp_ge (X := 7) (Y := 8) (tgt := 34) hx hb dX4_readFormats_9 (by decide) num_7 num_8 (fun c_83 => False.elim (by omega)) (fun c_83 => ?_)
                              refine lv_aload_n hx hb dX4_readFormats_12 rfl (lv_at hl 1 rfl) ?_
                              have b_84 : 0 ≤ (I_80 x0 6).toInt ∧ (I_80 x0 6).toInt ≤ 4 := hM.ib m_81 k_81 6 rfl
                              refine cr_get (κ := 4) (ci := 4) (k := 6) (C := RX4) (T := TX4) (N := 10) (fs := cfs 4) (v := .int (I_80 x0 6)) E hM m_81 k_81 (fun _ _ => rfl) rfl hin4 (by decide) (index := 37) (mm_at 13 rfl) rfl rfl dX4_readFormats_13 ?_
                              refine mm_if_eq (X := (I_80 x0 6).toInt) (tgt := 34) hx hb dX4_readFormats_16 (by decide) rfl (fun c_85 => ?_) (fun c_85 => ?_)
                              · refine lv_aload_n hx hb dX4_readFormats_34 rfl (lv_at hl 1 rfl) ?_
                                refine cr_get (κ := 4) (ci := 4) (k := 6) (C := RX4) (T := TX4) (N := 10) (fs := cfs 4) (v := .int (I_80 x0 6)) E hM m_81 k_81 (fun _ _ => rfl) rfl hin4 (by decide) (index := 37) (mm_at 13 rfl) rfl rfl dX4_readFormats_35 ?_
                                refine mm_if_eq (X := (I_80 x0 6).toInt) (tgt := 49) hx hb dX4_readFormats_38 (by decide) rfl (fun c_86 => ?_) (fun c_86 => False.elim (by omega))
                                refine lv_iconst (v := 1) hx hb dX4_readFormats_49 (by decide) ?_
                                refine lv_goto (tgt := 54) hx hb dX4_readFormats_50 (by decide) ?_
                                exact cr_rz (mc := 8) (ms := 64) (X := 1) E hr hlk hsz hM ⟨show (7 : Nat) ≤ 8 from by omega, show (56 : Nat) ≤ 64 from by omega⟩ num_1 (by omega) trivial dX4_readFormats_54
                              · refine lv_aload_n hx hb dX4_readFormats_19 rfl (lv_at hl 1 rfl) ?_
                                have b_88 : 0 ≤ (I_80 x0 7).toInt ∧ (I_80 x0 7).toInt ≤ 1000 := hM.ib m_81 k_81 7 rfl
                                refine cc_Vi (vs := []) (rest := []) (b := x0) (κ := 4) E hV rfl hA hml hM m_81 k_81 rfl rfl (h4_X4_readFormat l D cA ad av L_80 K_80 I_80 O_80 _ x0 hM.2.2.2.1 m_81 k_81 (show (I_80 x0 6).toInt = 0 ∨ (I_80 x0 7).toInt ≤ 999 from by omega)) (cwV 0 hts gk_X4_readFormats_X4_readFormat_87 rfl rfl rfl (by decide +kernel) ⟨Nat.le_of_ble_eq_true rfl, Nat.le_of_ble_eq_true rfl⟩) rfl hl.1 rfl (Nat.le_of_ble_eq_true rfl) dX4_readFormats_20 ⟨show (7 + 1 : Nat) ≤ 8 from by omega, show (56 + 8 : Nat) ≤ 64 from by omega⟩ (fun _ h => by cases h) (by decide) (by decide) (fun r_89 L_91 K_91 I_91 O_91 H locs fr_91 p_90 hM => ?_)
                                have m_92 := (fr_91 x0 m_81 (fun z => by cases z)).1
                                have k_92 : K_91 x0 = 4 := (fr_91 x0 m_81 (fun z => by cases z)).2.1.trans k_81
                                refine W.widen (k := 8) (n := 64) (by omega) (by omega) ?_
                                clear p_79
                                replace p_90 : (I_91 x0 6).toInt = 0 ∨ (I_91 x0 7).toInt ≤ 999 := p_90
                                refine mm_if_ne (X := r_89.toInt) (tgt := 28) hx hb dX4_readFormats_23 (by decide) rfl (fun c_93 => ?_) (fun c_93 => ?_)
                                · refine lv_iinc (v := 8) (lv' := [(1, .int 8), (0, .ref x0)]) hx hb dX4_readFormats_28 hl (k := 0) rfl (by decide) (by decide) rfl (fun ls hl => ?_)
                                  refine lv_goto (tgt := 6) hx hb dX4_readFormats_31 (by decide) ?_
                                  refine lv_iload_n hx hb dX4_readFormats_6 rfl (lv_at hl 0 rfl) ?_
                                  refine lv_bipush (v := 8) hx hb dX4_readFormats_7 (by decide) ?_
                                  refine mm_icmp_ge (X := 8) (Y := 8) (tgt := 34) hx hb dX4_readFormats_9 (by decide) num_8 num_8 (fun c_94 => ?_) (fun c_94 => False.elim (by omega))
                                  refine lv_aload_n hx hb dX4_readFormats_34 rfl (lv_at hl 1 rfl) ?_
                                  have b_95 : 0 ≤ (I_91 x0 6).toInt ∧ (I_91 x0 6).toInt ≤ 4 := hM.ib m_92 k_92 6 rfl
                                  refine cr_get (κ := 4) (ci := 4) (k := 6) (C := RX4) (T := TX4) (N := 10) (fs := cfs 4) (v := .int (I_91 x0 6)) E hM m_92 k_92 (fun _ _ => rfl) rfl hin4 (by decide) (index := 37) (mm_at 13 rfl) rfl rfl dX4_readFormats_35 ?_
                                  refine mm_if_eq (X := (I_91 x0 6).toInt) (tgt := 49) hx hb dX4_readFormats_38 (by decide) rfl (fun c_96 => ?_) (fun c_96 => ?_)
                                  · refine lv_iconst (v := 1) hx hb dX4_readFormats_49 (by decide) ?_
                                    refine lv_goto (tgt := 54) hx hb dX4_readFormats_50 (by decide) ?_
                                    exact cr_rz (mc := 8) (ms := 64) (X := 1) E hr hlk hsz hM ⟨show (8 : Nat) ≤ 8 from by omega, show (64 : Nat) ≤ 64 from by omega⟩ num_1 (by omega) trivial dX4_readFormats_54
                                  · refine lv_aload_n hx hb dX4_readFormats_41 rfl (lv_at hl 1 rfl) ?_
                                    refine lv_iconst (v := 1) hx hb dX4_readFormats_42 (by decide) ?_
                                    refine cc_Vi (vs := [.int 1]) (rest := []) (b := x0) (κ := 4) E hV rfl hA hml hM m_92 k_92 rfl rfl (h4_X4_fail l D cA ad av L_91 K_91 I_91 O_91 _ x0 1 hM.2.2.2.1 m_92 k_92) (cwV 1 hts gk_X4_readFormats_X4_fail_97 rfl rfl rfl (by decide +kernel) ⟨Nat.le_of_ble_eq_true rfl, Nat.le_of_ble_eq_true rfl⟩) rfl hl.1 rfl (Nat.le_of_ble_eq_true rfl) dX4_readFormats_43 ⟨show (8 + 0 : Nat) ≤ 8 from by omega, show (64 + 0 : Nat) ≤ 64 from by omega⟩ (fun _ h => by cases h) (by decide) (by decide) (fun r_98 L_100 K_100 I_100 O_100 H locs fr_100 p_99 hM => ?_)
                                    have m_101 := (fr_100 x0 m_92 (fun z => by cases z)).1
                                    have k_101 : K_100 x0 = 4 := (fr_100 x0 m_92 (fun z => by cases z)).2.1.trans k_92
                                    replace p_99 : r_98.toInt = 0 := p_99
                                    refine mm_if_eq (X := r_98.toInt) (tgt := 53) hx hb dX4_readFormats_46 (by decide) rfl (fun c_102 => ?_) (fun c_102 => False.elim (by omega))
                                    refine lv_iconst (v := 0) hx hb dX4_readFormats_53 (by decide) ?_
                                    exact cr_rz (mc := 8) (ms := 64) (X := 0) E hr hlk hsz hM ⟨show (8 : Nat) ≤ 8 from by omega, show (64 : Nat) ≤ 64 from by omega⟩ num_0 (by omega) trivial dX4_readFormats_54
                                · refine lv_iconst (v := 0) hx hb dX4_readFormats_26 (by decide) ?_
                                  exact cr_rz (mc := 8) (ms := 64) (X := 0) E hr hlk hsz hM ⟨show (8 : Nat) ≤ 8 from by omega, show (64 : Nat) ≤ 64 from by omega⟩ num_0 (by omega) trivial dX4_readFormats_27
                            · refine lv_iconst (v := 0) hx hb dX4_readFormats_26 (by decide) ?_
                              exact cr_rz (mc := 8) (ms := 64) (X := 0) E hr hlk hsz hM ⟨show (7 : Nat) ≤ 8 from by omega, show (56 : Nat) ≤ 64 from by omega⟩ num_0 (by omega) trivial dX4_readFormats_27
                        · refine lv_iconst (v := 0) hx hb dX4_readFormats_26 (by decide) ?_
                          exact cr_rz (mc := 8) (ms := 64) (X := 0) E hr hlk hsz hM ⟨show (6 : Nat) ≤ 8 from by omega, show (48 : Nat) ≤ 64 from by omega⟩ num_0 (by omega) trivial dX4_readFormats_27
                    · refine lv_iconst (v := 0) hx hb dX4_readFormats_26 (by decide) ?_
                      exact cr_rz (mc := 8) (ms := 64) (X := 0) E hr hlk hsz hM ⟨show (5 : Nat) ≤ 8 from by omega, show (40 : Nat) ≤ 64 from by omega⟩ num_0 (by omega) trivial dX4_readFormats_27
                · refine lv_iconst (v := 0) hx hb dX4_readFormats_26 (by decide) ?_
                  exact cr_rz (mc := 8) (ms := 64) (X := 0) E hr hlk hsz hM ⟨show (4 : Nat) ≤ 8 from by omega, show (32 : Nat) ≤ 64 from by omega⟩ num_0 (by omega) trivial dX4_readFormats_27
            · refine lv_iconst (v := 0) hx hb dX4_readFormats_26 (by decide) ?_
              exact cr_rz (mc := 8) (ms := 64) (X := 0) E hr hlk hsz hM ⟨show (3 : Nat) ≤ 8 from by omega, show (24 : Nat) ≤ 64 from by omega⟩ num_0 (by omega) trivial dX4_readFormats_27
        · refine lv_iconst (v := 0) hx hb dX4_readFormats_26 (by decide) ?_
          exact cr_rz (mc := 8) (ms := 64) (X := 0) E hr hlk hsz hM ⟨show (2 : Nat) ≤ 8 from by omega, show (16 : Nat) ≤ 64 from by omega⟩ num_0 (by omega) trivial dX4_readFormats_27
    · refine lv_iconst (v := 0) hx hb dX4_readFormats_26 (by decide) ?_
      exact cr_rz (mc := 8) (ms := 64) (X := 0) E hr hlk hsz hM ⟨show (1 : Nat) ≤ 8 from by omega, show (8 : Nat) ≤ 64 from by omega⟩ num_0 (by omega) trivial dX4_readFormats_27
def w4X5_putOnTape : List Cond := .code yX5_putOnTape cX5_putOnTape 3 none :: ([.fieldLink RX5 36 "SkiShots" "tapeLength" "I", .fieldLink RX5 9 "SkiShots" "tape" "[B"] ++ wsX50)
set_option maxHeartbeats 4000000 in
set_option maxRecDepth 100000 in
theorem h4_X5_putOnTape (l : Launch) (D : va_G) (cA : Nat → ClassId) (ad av : Nat → Nat) (L : List Nat) (K : Nat → Nat) (I : Nat → Nat → Int32) (O : Nat → Nat → Option Nat) (sz : Nat) (x0 : Nat) (p0 : Int32) (hI : cI L K I O) (mx0 : x0 ∈ L) (kx0 : K x0 = 5)  : Met l yX5_putOnTape w4X5_putOnTape ({ frames := 0, cells := 0, slots := 0, locals := 0 }) (cPre D cA ad av L K I O sz [.ref x0, .int p0]) (cQv D cA L K I O sz [] [(5, 1), (10, 0)] [] (fun L' K' I' O' => 996 < (I x0 1).toInt ∨ (I' x0 1).toInt = (I x0 1).toInt + 4)) 0 0 (va_A (cW cA L K I O) sz) := by
  refine cr_met (own := RX5) (xs := []) (WI := [(5, 1), (10, 0)]) (WO := []) (cc := cX5_putOnTape) (maxL := 3) (ret := none) (by decide) rfl rfl (Nat.le_of_ble_eq_true rfl) hI ?_
  intro p e s m args below meth c ls E hV hml hr hlk hname hsz hA hM hl
  have hx := E.1
  have hb := E.2.1
  have hts := E.2.2.1
  have hown := E.2.2.2.1
  have hl : lv_has ls 3 [(0, .ref x0), (1, .int p0)] := hl
  have hin5 : ∀ w ∈ wsX50, w ∈ w4X5_putOnTape := by decide +kernel
  have B_3 : ∀ n_3 : Nat, ∀ (H : Heap) (locs : List Loc) (ls : Array Slot) (Lc_3 : List Nat) (Kc_3 : Nat → Nat) (Ic_3 : Nat → Nat → Int32) (Oc_3 : Nat → Nat → Option Nat) (sh : Int32), ((-8) ≤ sh.toInt ∧ sh.toInt ≤ 24) → 8 * ((Ic_3 x0 1).toInt - (I x0 1).toInt) = 24 - sh.toInt → (sh.toInt + 8) < (n_3 : Int) → cQ D cA (va_A (cW cA L K I O) sz) s.heap [] [(5, 1), (10, 0)] [] L K I O H locs Lc_3 Kc_3 Ic_3 Oc_3 → lv_has ls 3 [(0, .ref x0), (1, .int p0), (2, .int sh)] → W p l e ({ frames := 0, cells := 0, slots := 0, locals := 0 }) s m args below meth c H locs 0 0 (MQ below (cQv D cA L K I O sz [] [(5, 1), (10, 0)] [] (fun L' K' I' O' => 996 < (I x0 1).toInt ∨ (I' x0 1).toInt = (I x0 1).toInt + 4)) args s 0 0 (va_A (cW cA L K I O) sz)) (F0 m 3 ls []) := by
    intro n_3
    induction n_3 with
    | zero => intro H locs ls Lc_3 Kc_3 Ic_3 Oc_3 sh f3_0 f3_1 hn hM hl; exact False.elim (by omega)
    | succ n_3 ih_3 =>
      intro H locs ls Lc_3 Kc_3 Ic_3 Oc_3 sh f3_0 f3_1 hn hM hl
      have hfr_3 := hM.2.2.2.2
      have m_1 := (hfr_3 x0 mx0 (fun z => by cases z)).1
      have k_1 : Kc_3 x0 = 5 := (hfr_3 x0 mx0 (fun z => by cases z)).2.1.trans kx0
      refine lv_iload_n hx hb dX5_putOnTape_3 rfl (lv_at hl 2 rfl) ?_
      refine mm_if_lt (X := sh.toInt) (tgt := 46) hx hb dX5_putOnTape_4 (by decide) rfl (fun c_2 => ?_) (fun c_2 => ?_)
      · have b_3 : 0 ≤ (Ic_3 x0 1).toInt ∧ (Ic_3 x0 1).toInt ≤ 1000 := hM.ib m_1 k_1 1 rfl
        exact cr_rv (mc := 0) (ms := 0) E hr hlk hsz hM ⟨show (0 : Nat) ≤ 0 from by omega, show (0 : Nat) ≤ 0 from by omega⟩ (show 996 < (I x0 1).toInt ∨ (Ic_3 x0 1).toInt = (I x0 1).toInt + 4 from by omega) dX5_putOnTape_46
      · refine lv_aload_n hx hb dX5_putOnTape_7 rfl (lv_at hl 0 rfl) ?_
        have b_4 : 0 ≤ (Ic_3 x0 1).toInt ∧ (Ic_3 x0 1).toInt ≤ 1000 := hM.ib m_1 k_1 1 rfl
        refine cr_get (κ := 5) (ci := 5) (k := 1) (C := RX5) (T := TX5) (N := 13) (fs := cfs 5) (v := .int (Ic_3 x0 1)) E hM m_1 k_1 (fun _ _ => rfl) rfl hin5 (by decide) (index := 36) (mm_at 1 rfl) rfl rfl dX5_putOnTape_8 ?_
        refine lv_sipush (v := 1000) hx hb dX5_putOnTape_11 (by decide) ?_
        refine mm_icmp_ge (X := (Ic_3 x0 1).toInt) (Y := 1000) (tgt := 46) hx hb dX5_putOnTape_14 (by decide) rfl num_1000 (fun c_5 => ?_) (fun c_5 => ?_)
        · exact cr_rv (mc := 0) (ms := 0) E hr hlk hsz hM ⟨show (0 : Nat) ≤ 0 from by omega, show (0 : Nat) ≤ 0 from by omega⟩ (show 996 < (I x0 1).toInt ∨ (Ic_3 x0 1).toInt = (I x0 1).toInt + 4 from by omega) dX5_putOnTape_46
        · refine lv_aload_n hx hb dX5_putOnTape_17 rfl (lv_at hl 0 rfl) ?_
          obtain ⟨x_6, o_6, m_6, k_6⟩ := hM.nn m_1 k_1 0 (κ' := 10) rfl rfl
          refine cr_get (κ := 5) (ci := 5) (k := 0) (C := RX5) (T := TX5) (N := 13) (fs := cfs 5) (v := .ref x_6) E hM m_1 k_1 (fun _ _ => rfl) rfl hin5 (by decide) (index := 9) (mm_at 2 rfl) rfl (by show some (va_rf (Oc_3 x0 0)) = some (.ref x_6); rw [o_6]; rfl) dX5_putOnTape_18 ?_
          refine lv_aload_n hx hb dX5_putOnTape_21 rfl (lv_at hl 0 rfl) ?_
          refine cr_get (κ := 5) (ci := 5) (k := 1) (C := RX5) (T := TX5) (N := 13) (fs := cfs 5) (v := .int (Ic_3 x0 1)) E hM m_1 k_1 (fun _ _ => rfl) rfl hin5 (by decide) (index := 36) (mm_at 1 rfl) rfl rfl dX5_putOnTape_22 ?_
          refine lv_iload_n hx hb dX5_putOnTape_25 rfl (lv_at hl 1 rfl) ?_
          refine lv_iload_n hx hb dX5_putOnTape_26 rfl (lv_at hl 2 rfl) ?_
          refine mm_ishrU hx hb dX5_putOnTape_27 (fun z_7 => ?_)
          refine mm_i2bU hx hb dX5_putOnTape_28 (fun z_8 => ?_)
          refine cr_bast (κ := 10) (t0 := 0) (X := (Ic_3 x0 1).toInt) E hM m_6 k_6 (fun _ _ => rfl) rfl rfl (by omega) (by decide) (fun _ => rfl) (Or.inr (Or.inr (fun _ => rfl))) dX5_putOnTape_29 (fun H locs I_9 eI_9 hM => ?_)
          refine lv_aload_n hx hb dX5_putOnTape_30 rfl (lv_at hl 0 rfl) ?_
          refine lv_dup hx hb dX5_putOnTape_31 rfl ?_
          have b_10 : 0 ≤ (I_9 x0 1).toInt ∧ (I_9 x0 1).toInt ≤ 1000 := hM.ib m_1 k_1 1 rfl
          have e_11 : (I_9 x0 1).toInt = (Ic_3 x0 1).toInt := congrArg (fun z => Int32.toInt (z 1)) (cu_a eI_9 (c_ne k_1 k_6 (by decide)))
          refine cr_get (κ := 5) (ci := 5) (k := 1) (C := RX5) (T := TX5) (N := 13) (fs := cfs 5) (v := .int (I_9 x0 1)) E hM m_1 k_1 (fun _ _ => rfl) rfl hin5 (by decide) (index := 36) (mm_at 1 rfl) rfl rfl dX5_putOnTape_32 ?_
          refine lv_iconst (v := 1) hx hb dX5_putOnTape_35 (by decide) ?_
          refine mm_iadd (X := (I_9 x0 1).toInt) (Y := 1) hx hb dX5_putOnTape_36 rfl num_1 (by omega) (fun z_12 hz_12 => ?_)
          refine cr_puti (κ := 5) (ci := 5) (k := 1) (C := RX5) (T := TX5) (N := 13) (fs := cfs 5) (ty := .int) (v := z_12) E hM m_1 k_1 (fun _ _ => rfl) rfl hin5 tyX5 tyX5_ok nmX5 (by decide) (index := 36) (mm_at 1 rfl) rfl (Or.inl rfl) (by decide +kernel) rfl rfl (show (1 : Nat) < 13 from by decide) (fun _ _ _ => rfl) (cz_bd (X := z_12.toInt) (a := 0) (b := 1000) rfl rfl (by omega)) (cS_upd (hM.sp m_1 k_1) (by decide) (by decide)) (Or.inr (Or.inr rfl)) dX5_putOnTape_37 (fun H locs I_13 eI_13 hM => ?_)
          refine mm_iinc (X := sh.toInt) (v := (-8)) (lv2 := fun z => [(2, .int z), (0, .ref x0), (1, .int p0)]) hx hb dX5_putOnTape_40 hl (k := 2) rfl rfl (by decide) num_m8 (by omega) (by decide) (fun _ => rfl) (fun z_14 ls hz_14 hl => ?_)
          have hl : lv_has ls 3 [(2, .int z_14), (0, .ref x0), (1, .int p0)] := hl
          refine lv_goto (tgt := 3) hx hb dX5_putOnTape_43 (by decide) ?_
          have b_15 : 0 ≤ (I_13 x0 1).toInt ∧ (I_13 x0 1).toInt ≤ 1000 := hM.ib m_1 k_1 1 rfl
          have e_16 : (I_13 x0 1).toInt = z_12.toInt := (congrArg Int32.toInt (cu_s eI_13)).trans rfl
          exact ih_3 _ _ _ Lc_3 Kc_3 I_13 Oc_3 z_14    (show ((-8) ≤ z_14.toInt ∧ z_14.toInt ≤ 24) from by omega) (show 8 * ((I_13 x0 1).toInt - (I x0 1).toInt) = 24 - z_14.toInt from by omega) (show (z_14.toInt + 8) < ((n_3 : Nat) : Int) from by omega) hM (lv_sub hl [1, 2, 0] rfl)
  refine lv_bipush (v := 24) hx hb dX5_putOnTape_0 (by decide) ?_
  refine lv_istore_n (lv' := [(2, .int 24), (0, .ref x0), (1, .int p0)]) hx hb dX5_putOnTape_2 rfl hl (by decide) rfl (fun ls hl => ?_)
  have b_17 : 0 ≤ (I x0 1).toInt ∧ (I x0 1).toInt ≤ 1000 := hM.ib mx0 kx0 1 rfl
  exact B_3 4294967296 _ _ _ L K I O 24    (show ((-8) ≤ (24 : Int32).toInt ∧ (24 : Int32).toInt ≤ 24) from by have n_0 := num_24; omega) (show 8 * ((I x0 1).toInt - (I x0 1).toInt) = 24 - (24 : Int32).toInt from by have n_0 := num_24; omega) (show ((24 : Int32).toInt + 8) < ((4294967296 : Nat) : Int) from by have n_0 := num_24; omega) hM (lv_sub hl [1, 2, 0] rfl)
def w4X5_feed : List Cond := .code yX5_feed cX5_feed 6 (some .int) :: ([.fieldLink RX5 36 "SkiShots" "tapeLength" "I", .methodLink RX5 39 yX5_putOnTape, .instanceMethod yX5_putOnTape, .selects RX5 yX5_putOnTape yX5_putOnTape, .initialized RX5, .code yX5_putOnTape cX5_putOnTape 3 none, .fieldLink RX5 9 "SkiShots" "tape" "[B"] ++ wsX50)
set_option maxRecDepth 20000 in
theorem gk_X5_feed_X5_putOnTape_4 : GoodIn w4X5_feed (wsV RX5 39 RX5 yX5_putOnTape w4X5_putOnTape) := goodIn_p _ [6] rfl (by decide +kernel)
set_option maxRecDepth 20000 in
theorem gk_X5_feed_X5_putOnTape_9 : GoodIn w4X5_feed (wsV RX5 39 RX5 yX5_putOnTape w4X5_putOnTape) := goodIn_p _ [6] rfl (by decide +kernel)
set_option maxRecDepth 20000 in
theorem gk_X5_feed_X5_putOnTape_15 : GoodIn w4X5_feed (wsV RX5 39 RX5 yX5_putOnTape w4X5_putOnTape) := goodIn_p _ [6] rfl (by decide +kernel)
set_option maxRecDepth 20000 in
theorem gk_X5_feed_X5_putOnTape_21 : GoodIn w4X5_feed (wsV RX5 39 RX5 yX5_putOnTape w4X5_putOnTape) := goodIn_p _ [6] rfl (by decide +kernel)
set_option maxRecDepth 20000 in
theorem gk_X5_feed_X5_putOnTape_27 : GoodIn w4X5_feed (wsV RX5 39 RX5 yX5_putOnTape w4X5_putOnTape) := goodIn_p _ [6] rfl (by decide +kernel)
set_option maxHeartbeats 4000000 in
set_option maxRecDepth 100000 in
theorem h4_X5_feed (l : Launch) (D : va_G) (cA : Nat → ClassId) (ad av : Nat → Nat) (L : List Nat) (K : Nat → Nat) (I : Nat → Nat → Int32) (O : Nat → Nat → Option Nat) (sz : Nat) (x0 : Nat) (p0 : Int32) (p1 : Int32) (p2 : Int32) (p3 : Int32) (p4 : Int32) (hI : cI L K I O) (mx0 : x0 ∈ L) (kx0 : K x0 = 5)  : Met l yX5_feed w4X5_feed ({ frames := 1, cells := 0, slots := 0, locals := 22 }) (cPre D cA ad av L K I O sz [.ref x0, .int p0, .int p1, .int p2, .int p3, .int p4]) (cQi D cA L K I O sz [] [(5, 1), (10, 0)] [] (fun r L' K' I' O' => ((I x0 1).toInt ≤ 980 ∧ r.toInt = (I x0 1).toInt + 20 ∧ (I' x0 1).toInt = (I x0 1).toInt + 20) ∨ (980 < (I x0 1).toInt ∧ r.toInt = -1 ∧ (I' x0 1).toInt = (I x0 1).toInt))) 0 0 (va_A (cW cA L K I O) sz) := by
  refine cr_met (own := RX5) (xs := []) (WI := [(5, 1), (10, 0)]) (WO := []) (cc := cX5_feed) (maxL := 6) (ret := (some .int)) (by decide) rfl rfl (Nat.le_of_ble_eq_true rfl) hI ?_
  intro p e s m args below meth c ls E hV hml hr hlk hname hsz hA hM hl
  have hx := E.1
  have hb := E.2.1
  have hts := E.2.2.1
  have hown := E.2.2.2.1
  have hl : lv_has ls 6 [(0, .ref x0), (1, .int p0), (2, .int p1), (3, .int p2), (4, .int p3), (5, .int p4)] := hl
  have hin5 : ∀ w ∈ wsX50, w ∈ w4X5_feed := by decide +kernel
  refine lv_aload_n hx hb dX5_feed_0 rfl (lv_at hl 0 rfl) ?_
  have b_1 : 0 ≤ (I x0 1).toInt ∧ (I x0 1).toInt ≤ 1000 := hM.ib mx0 kx0 1 rfl
  refine cr_get (κ := 5) (ci := 5) (k := 1) (C := RX5) (T := TX5) (N := 13) (fs := cfs 5) (v := .int (I x0 1)) E hM mx0 kx0 (fun _ _ => rfl) rfl hin5 (by decide) (index := 36) (mm_at 1 rfl) rfl rfl dX5_feed_1 ?_
  refine lv_bipush (v := 20) hx hb dX5_feed_4 (by decide) ?_
  refine mm_iadd (X := (I x0 1).toInt) (Y := 20) hx hb dX5_feed_6 rfl num_20 (by omega) (fun z_2 hz_2 => ?_)
  refine lv_sipush (v := 1000) hx hb dX5_feed_7 (by decide) ?_
  refine mm_icmp_le (X := z_2.toInt) (Y := 1000) (tgt := 15) hx hb dX5_feed_10 (by decide) rfl num_1000 (fun c_3 => ?_) (fun c_3 => ?_)
  · refine lv_aload_n hx hb dX5_feed_15 rfl (lv_at hl 0 rfl) ?_
    refine lv_iload_n hx hb dX5_feed_16 rfl (lv_at hl 1 rfl) ?_
    refine cc_Vv (vs := [.int p0]) (rest := []) (b := x0) (κ := 5) E hV rfl hA hml hM mx0 kx0 rfl rfl (h4_X5_putOnTape l D cA ad av L K I O _ x0 p0 hM.2.2.2.1 mx0 kx0) (cwV 1 hts gk_X5_feed_X5_putOnTape_4 rfl rfl rfl (by decide +kernel) ⟨Nat.le_of_ble_eq_true rfl, Nat.le_of_ble_eq_true rfl⟩) rfl hl.1 rfl (Nat.le_of_ble_eq_true rfl) dX5_feed_17 ⟨show (0 + 0 : Nat) ≤ 0 from by omega, show (0 + 0 : Nat) ≤ 0 from by omega⟩ (fun _ h => by cases h) (by decide) (by decide) (fun L_7 K_7 I_7 O_7 H locs fr_7 p_6 hM => ?_)
    have m_8 := (fr_7 x0 mx0 (fun z => by cases z)).1
    have k_8 : K_7 x0 = 5 := (fr_7 x0 mx0 (fun z => by cases z)).2.1.trans kx0
    replace p_6 : 996 < (I x0 1).toInt ∨ (I_7 x0 1).toInt = (I x0 1).toInt + 4 := p_6
    refine lv_aload_n hx hb dX5_feed_20 rfl (lv_at hl 0 rfl) ?_
    refine lv_iload_n hx hb dX5_feed_21 rfl (lv_at hl 2 rfl) ?_
    have b_10 : 0 ≤ (I_7 x0 1).toInt ∧ (I_7 x0 1).toInt ≤ 1000 := hM.ib m_8 k_8 1 rfl
    refine cc_Vv (vs := [.int p1]) (rest := []) (b := x0) (κ := 5) E hV rfl hA hml hM m_8 k_8 rfl rfl (h4_X5_putOnTape l D cA ad av L_7 K_7 I_7 O_7 _ x0 p1 hM.2.2.2.1 m_8 k_8) (cwV 1 hts gk_X5_feed_X5_putOnTape_9 rfl rfl rfl (by decide +kernel) ⟨Nat.le_of_ble_eq_true rfl, Nat.le_of_ble_eq_true rfl⟩) rfl hl.1 rfl (Nat.le_of_ble_eq_true rfl) dX5_feed_22 ⟨show (0 + 0 : Nat) ≤ 0 from by omega, show (0 + 0 : Nat) ≤ 0 from by omega⟩ (fun _ h => by cases h) (by decide) (by decide) (fun L_13 K_13 I_13 O_13 H locs fr_13 p_12 hM => ?_)
    have m_14 := (fr_13 x0 m_8 (fun z => by cases z)).1
    have k_14 : K_13 x0 = 5 := (fr_13 x0 m_8 (fun z => by cases z)).2.1.trans k_8
    replace p_12 : 996 < (I_7 x0 1).toInt ∨ (I_13 x0 1).toInt = (I_7 x0 1).toInt + 4 := p_12
    refine lv_aload_n hx hb dX5_feed_25 rfl (lv_at hl 0 rfl) ?_
    refine lv_iload_n hx hb dX5_feed_26 rfl (lv_at hl 3 rfl) ?_
    have b_16 : 0 ≤ (I_13 x0 1).toInt ∧ (I_13 x0 1).toInt ≤ 1000 := hM.ib m_14 k_14 1 rfl
    refine cc_Vv (vs := [.int p2]) (rest := []) (b := x0) (κ := 5) E hV rfl hA hml hM m_14 k_14 rfl rfl (h4_X5_putOnTape l D cA ad av L_13 K_13 I_13 O_13 _ x0 p2 hM.2.2.2.1 m_14 k_14) (cwV 1 hts gk_X5_feed_X5_putOnTape_15 rfl rfl rfl (by decide +kernel) ⟨Nat.le_of_ble_eq_true rfl, Nat.le_of_ble_eq_true rfl⟩) rfl hl.1 rfl (Nat.le_of_ble_eq_true rfl) dX5_feed_27 ⟨show (0 + 0 : Nat) ≤ 0 from by omega, show (0 + 0 : Nat) ≤ 0 from by omega⟩ (fun _ h => by cases h) (by decide) (by decide) (fun L_19 K_19 I_19 O_19 H locs fr_19 p_18 hM => ?_)
    have m_20 := (fr_19 x0 m_14 (fun z => by cases z)).1
    have k_20 : K_19 x0 = 5 := (fr_19 x0 m_14 (fun z => by cases z)).2.1.trans k_14
    replace p_18 : 996 < (I_13 x0 1).toInt ∨ (I_19 x0 1).toInt = (I_13 x0 1).toInt + 4 := p_18
    refine lv_aload_n hx hb dX5_feed_30 rfl (lv_at hl 0 rfl) ?_
    refine lv_iload hx hb dX5_feed_31 (lv_at hl 4 rfl) ?_
    have b_22 : 0 ≤ (I_19 x0 1).toInt ∧ (I_19 x0 1).toInt ≤ 1000 := hM.ib m_20 k_20 1 rfl
    refine cc_Vv (vs := [.int p3]) (rest := []) (b := x0) (κ := 5) E hV rfl hA hml hM m_20 k_20 rfl rfl (h4_X5_putOnTape l D cA ad av L_19 K_19 I_19 O_19 _ x0 p3 hM.2.2.2.1 m_20 k_20) (cwV 1 hts gk_X5_feed_X5_putOnTape_21 rfl rfl rfl (by decide +kernel) ⟨Nat.le_of_ble_eq_true rfl, Nat.le_of_ble_eq_true rfl⟩) rfl hl.1 rfl (Nat.le_of_ble_eq_true rfl) dX5_feed_33 ⟨show (0 + 0 : Nat) ≤ 0 from by omega, show (0 + 0 : Nat) ≤ 0 from by omega⟩ (fun _ h => by cases h) (by decide) (by decide) (fun L_25 K_25 I_25 O_25 H locs fr_25 p_24 hM => ?_)
    have m_26 := (fr_25 x0 m_20 (fun z => by cases z)).1
    have k_26 : K_25 x0 = 5 := (fr_25 x0 m_20 (fun z => by cases z)).2.1.trans k_20
    replace p_24 : 996 < (I_19 x0 1).toInt ∨ (I_25 x0 1).toInt = (I_19 x0 1).toInt + 4 := p_24
    refine lv_aload_n hx hb dX5_feed_36 rfl (lv_at hl 0 rfl) ?_
    refine lv_iload hx hb dX5_feed_37 (lv_at hl 5 rfl) ?_
    have b_28 : 0 ≤ (I_25 x0 1).toInt ∧ (I_25 x0 1).toInt ≤ 1000 := hM.ib m_26 k_26 1 rfl
    refine cc_Vv (vs := [.int p4]) (rest := []) (b := x0) (κ := 5) E hV rfl hA hml hM m_26 k_26 rfl rfl (h4_X5_putOnTape l D cA ad av L_25 K_25 I_25 O_25 _ x0 p4 hM.2.2.2.1 m_26 k_26) (cwV 1 hts gk_X5_feed_X5_putOnTape_27 rfl rfl rfl (by decide +kernel) ⟨Nat.le_of_ble_eq_true rfl, Nat.le_of_ble_eq_true rfl⟩) rfl hl.1 rfl (Nat.le_of_ble_eq_true rfl) dX5_feed_39 ⟨show (0 + 0 : Nat) ≤ 0 from by omega, show (0 + 0 : Nat) ≤ 0 from by omega⟩ (fun _ h => by cases h) (by decide) (by decide) (fun L_31 K_31 I_31 O_31 H locs fr_31 p_30 hM => ?_)
    have m_32 := (fr_31 x0 m_26 (fun z => by cases z)).1
    have k_32 : K_31 x0 = 5 := (fr_31 x0 m_26 (fun z => by cases z)).2.1.trans k_26
    replace p_30 : 996 < (I_25 x0 1).toInt ∨ (I_31 x0 1).toInt = (I_25 x0 1).toInt + 4 := p_30
    refine lv_aload_n hx hb dX5_feed_42 rfl (lv_at hl 0 rfl) ?_
    have b_33 : 0 ≤ (I_31 x0 1).toInt ∧ (I_31 x0 1).toInt ≤ 1000 := hM.ib m_32 k_32 1 rfl
    refine cr_get (κ := 5) (ci := 5) (k := 1) (C := RX5) (T := TX5) (N := 13) (fs := cfs 5) (v := .int (I_31 x0 1)) E hM m_32 k_32 (fun _ _ => rfl) rfl hin5 (by decide) (index := 36) (mm_at 1 rfl) rfl rfl dX5_feed_43 ?_
    exact cr_ri (mc := 0) (ms := 0) E hr hlk hsz hM ⟨show (0 : Nat) ≤ 0 from by omega, show (0 : Nat) ≤ 0 from by omega⟩ (show ((I x0 1).toInt ≤ 980 ∧ (I_31 x0 1).toInt = (I x0 1).toInt + 20 ∧ (I_31 x0 1).toInt = (I x0 1).toInt + 20) ∨ (980 < (I x0 1).toInt ∧ (I_31 x0 1).toInt = -1 ∧ (I_31 x0 1).toInt = (I x0 1).toInt) from by omega) dX5_feed_46
  · refine lv_iconst (v := (-1)) hx hb dX5_feed_13 (by decide) ?_
    exact cr_ri (mc := 0) (ms := 0) E hr hlk hsz hM ⟨show (0 : Nat) ≤ 0 from by omega, show (0 : Nat) ≤ 0 from by omega⟩ (show ((I x0 1).toInt ≤ 980 ∧ ((-1) : Int32).toInt = (I x0 1).toInt + 20 ∧ (I x0 1).toInt = (I x0 1).toInt + 20) ∨ (980 < (I x0 1).toInt ∧ ((-1) : Int32).toInt = -1 ∧ (I x0 1).toInt = (I x0 1).toInt) from by have n9 := num_m1; omega) dX5_feed_14
def w4X5_formats : List Cond := .code yX5_formats cX5_formats 4 (some .int) :: ([.fieldLink RX5 36 "SkiShots" "tapeLength" "I", .classLink RX5 43 RX4, .instantiable RX4 10, .initialized RX4, .fieldLink RX5 9 "SkiShots" "tape" "[B", .methodLink RX5 45 yX4_init, .instanceMethod yX4_init, .code yX4_init cX4_init 3 none, .methodLink RX4 3 objectInit, .instanceMethod objectInit, .code objectInit ⟨#[0xb1]⟩ 1 none, .fieldLink RX4 9 "SkiShots$Reader" "text" "[B", .methodLink RX4 15 Lib.Math.min.name, .static Lib.Math.min.name, .initialized "java/lang/Math", .code Lib.Math.min.name Lib.Math.min.code 2 (some .int), .fieldLink RX4 21 "SkiShots$Reader" "length" "I", .classLink RX4 25 RX2, .fieldLink RX4 27 "SkiShots$Reader" "found" "[LSkiShots$Format;", .fieldLink RX4 31 "SkiShots$Reader" "faultPlace" "I", .methodLink RX5 48 yX4_readFormats, .instanceMethod yX4_readFormats, .selects RX4 yX4_readFormats yX4_readFormats, .code yX4_readFormats cX4_readFormats 2 (some .boolean), .methodLink RX4 34 yX4_step, .instanceMethod yX4_step, .selects RX4 yX4_step yX4_step, .code yX4_step cX4_step 1 none, .fieldLink RX4 133 "SkiShots$Reader" "behind" "I", .methodLink RX4 149 yX4_sortAt, .instanceMethod yX4_sortAt, .selects RX4 yX4_sortAt yX4_sortAt, .code yX4_sortAt cX4_sortAt 3 (some .int), .fieldLink RX4 37 "SkiShots$Reader" "sort" "I", .fieldLink RX4 54 "SkiShots$Reader" "place" "I", .methodLink RX4 40 yX4_readFormat, .instanceMethod yX4_readFormat, .selects RX4 yX4_readFormat yX4_readFormat, .code yX4_readFormat cX4_readFormat 3 (some .boolean), .methodLink RX4 50 yX4_readWord, .instanceMethod yX4_readWord, .selects RX4 yX4_readWord yX4_readWord, .code yX4_readWord cX4_readWord 2 (some .boolean), .methodLink RX4 107 yX4_isWord, .instanceMethod yX4_isWord, .selects RX4 yX4_isWord yX4_isWord, .code yX4_isWord cX4_isWord 3 (some .boolean), .methodLink RX4 140 yJ0_length_8abf5, .instanceMethod yJ0_length_8abf5, .selects RJ0 yJ0_length_8abf5 yJ0_length_8abf5, .initialized RJ0, .code yJ0_length_8abf5 cJ0_length_8abf5 1 (some .int), .fieldLink RJ0 9 "java/lang/String" "value" "[B", .methodLink RJ0 335 yJ0_coder_7d493, .instanceMethod yJ0_coder_7d493, .selects RJ0 yJ0_coder_7d493 yJ0_coder_7d493, .code yJ0_coder_7d493 cJ0_coder_7d493 1 (some .byte), .fieldLink RJ0 38 "java/lang/String" "COMPACT_STRINGS" "Z", .fieldLink RJ0 15 "java/lang/String" "coder" "B", .methodLink RX4 145 yJ0_charAt_5068e, .instanceMethod yJ0_charAt_5068e, .selects RJ0 yJ0_charAt_5068e yJ0_charAt_5068e, .code yJ0_charAt_5068e cJ0_charAt_5068e 2 (some .char), .methodLink RJ0 492 yJ0_isLatin1_aae02, .instanceMethod yJ0_isLatin1_aae02, .selects RJ0 yJ0_isLatin1_aae02 yJ0_isLatin1_aae02, .code yJ0_isLatin1_aae02 cJ0_isLatin1_aae02 1 (some .boolean), .methodLink RJ0 495 yJ1_charAt_3b067, .static yJ1_charAt_3b067, .initialized RJ1, .code yJ1_charAt_3b067 cJ1_charAt_3b067 2 (some .char), .methodLink RJ1 9 yJ0_checkIndex_df160, .static yJ0_checkIndex_df160, .code yJ0_checkIndex_df160 cJ0_checkIndex_df160 2 none, .fieldLink RJ0 1053 "jdk/internal/util/Preconditions" "SIOOBE_FORMATTER" "Ljava/util/function/BiFunction;", .methodLink RJ0 1059 yJ3_checkIndex_8e157, .static yJ3_checkIndex_8e157, .initialized RJ3, .code yJ3_checkIndex_8e157 cJ3_checkIndex_8e157 3 (some .int), .methodLink RX4 44 yX4_fail, .instanceMethod yX4_fail, .selects RX4 yX4_fail yX4_fail, .code yX4_fail cX4_fail 2 (some .boolean), .fieldLink RX4 137 "SkiShots$Reader" "fault" "I", .instantiable RX2 8, .initialized RX2, .methodLink RX4 57 yX2_init, .instanceMethod yX2_init, .code yX2_init cX2_init 2 none, .methodLink RX2 3 objectInit, .fieldLink RX2 9 "SkiShots$Format" "name" "I", .fieldLink RX4 60 "SkiShots$Reader" "foundCount" "I", .methodLink RX4 63 yX4_readSign, .instanceMethod yX4_readSign, .selects RX4 yX4_readSign yX4_readSign, .code yX4_readSign cX4_readSign 2 (some .boolean), .methodLink RX4 67 yX4_readLaps, .instanceMethod yX4_readLaps, .selects RX4 yX4_readLaps yX4_readLaps, .code yX4_readLaps cX4_readLaps 2 (some .boolean), .methodLink RX4 85 yX4_readNumber, .instanceMethod yX4_readNumber, .selects RX4 yX4_readNumber yX4_readNumber, .code yX4_readNumber cX4_readNumber 4 (some .boolean), .fieldLink RX4 89 "SkiShots$Reader" "number" "I", .constant RX4 136 (100000), .fieldLink RX4 92 "SkiShots$Format" "laps" "I", .methodLink RX4 71 yX4_readShootings, .instanceMethod yX4_readShootings, .selects RX4 yX4_readShootings yX4_readShootings, .code yX4_readShootings cX4_readShootings 4 (some .boolean), .fieldLink RX4 96 "SkiShots$Format" "shootings" "I", .methodLink RX4 74 yX4_readSpares, .instanceMethod yX4_readSpares, .selects RX4 yX4_readSpares yX4_readSpares, .code yX4_readSpares cX4_readSpares 2 (some .boolean), .fieldLink RX4 101 "SkiShots$Format" "spares" "I", .methodLink RX4 77 yX4_readMiss, .instanceMethod yX4_readMiss, .selects RX4 yX4_readMiss yX4_readMiss, .code yX4_readMiss cX4_readMiss 2 (some .boolean), .fieldLink RX4 110 "SkiShots$Format" "loops" "Z", .fieldLink RX4 116 "SkiShots$Format" "missSeconds" "I", .methodLink RX4 80 yX4_readStart, .instanceMethod yX4_readStart, .selects RX4 yX4_readStart yX4_readStart, .code yX4_readStart cX4_readStart 3 (some .boolean), .fieldLink RX4 123 "SkiShots$Format" "startSort" "I", .fieldLink RX4 130 "SkiShots$Format" "startSeconds" "I", .fieldLink RX5 52 "SkiShots$Reader" "fault" "I", .fieldLink RX5 55 "SkiShots" "latestFault" "I", .fieldLink RX5 58 "SkiShots$Reader" "faultPlace" "I", .fieldLink RX5 19 "SkiShots" "latestFaultPlace" "I", .fieldLink RX5 61 "SkiShots$Reader" "found" "[LSkiShots$Format;", .fieldLink RX5 15 "SkiShots" "formatsByName" "[LSkiShots$Format;", .fieldLink RX5 64 "SkiShots$Reader" "foundCount" "I", .fieldLink RX5 67 "SkiShots" "formatCount" "I"] ++ wsX20 ++ wsX40 ++ wsX50)
set_option maxRecDepth 20000 in
theorem gk_X5_formats_X4_init_8 : GoodIn w4X5_formats (w4X4_init) := goodIn_p _ [8, 11, 16] rfl (by decide +kernel)
set_option maxRecDepth 20000 in
theorem gk_X5_formats_X4_readFormats_16 : GoodIn w4X5_formats (wsV RX5 48 RX4 yX4_readFormats w4X4_readFormats) := goodIn_p _ [24, 28, 33, 16, 39, 43, 47, 52, 57, 63, 67, 71, 74, 79, 83, 89, 11, 96, 100, 104, 111, 116, 121, 127] rfl (by decide +kernel)
set_option maxHeartbeats 4000000 in
set_option maxRecDepth 100000 in
theorem h4_X5_formats (l : Launch) (D : va_G) (cA : Nat → ClassId) (ad av : Nat → Nat) (L : List Nat) (K : Nat → Nat) (I : Nat → Nat → Int32) (O : Nat → Nat → Option Nat) (sz : Nat) (x0 : Nat) (p0 : Int32) (hI : cI L K I O) (mx0 : x0 ∈ L) (kx0 : K x0 = 5)  : Met l yX5_formats w4X5_formats ({ frames := 9, cells := 10, slots := 82, locals := 194 }) (cPre D cA ad av L K I O sz [.ref x0, .int p0]) (cQi D cA L K I O sz [] [(2, 0), (2, 1), (2, 2), (2, 3), (2, 4), (2, 5), (2, 6), (2, 7), (4, 3), (4, 4), (4, 5), (4, 6), (4, 7), (4, 8), (4, 9), (5, 1), (5, 3), (5, 4), (5, 5)] [(5, 2), (14, 0)] (fun r L' K' I' O' => (0 ≤ p0.toInt ∧ p0.toInt ≤ (I x0 1).toInt ∧ (I' x0 1).toInt = 0) ∨ (¬ (0 ≤ p0.toInt ∧ p0.toInt ≤ (I x0 1).toInt) ∧ (I' x0 1).toInt = (I x0 1).toInt))) 10 82 (va_A (cW cA L K I O) sz) := by
  refine cr_met (own := RX5) (xs := []) (WI := [(2, 0), (2, 1), (2, 2), (2, 3), (2, 4), (2, 5), (2, 6), (2, 7), (4, 3), (4, 4), (4, 5), (4, 6), (4, 7), (4, 8), (4, 9), (5, 1), (5, 3), (5, 4), (5, 5)]) (WO := [(5, 2), (14, 0)]) (cc := cX5_formats) (maxL := 4) (ret := (some .int)) (by decide) rfl rfl (Nat.le_of_ble_eq_true rfl) hI ?_
  intro p e s m args below meth c ls E hV hml hr hlk hname hsz hA hM hl
  have hx := E.1
  have hb := E.2.1
  have hts := E.2.2.1
  have hown := E.2.2.2.1
  have hl : lv_has ls 4 [(0, .ref x0), (1, .int p0)] := hl
  have hin2 : ∀ w ∈ wsX20, w ∈ w4X5_formats := by decide +kernel
  have hin4 : ∀ w ∈ wsX40, w ∈ w4X5_formats := by decide +kernel
  have hin5 : ∀ w ∈ wsX50, w ∈ w4X5_formats := by decide +kernel
  refine lv_iload_n hx hb dX5_formats_0 rfl (lv_at hl 1 rfl) ?_
  refine mm_if_lt (X := p0.toInt) (tgt := 12) hx hb dX5_formats_1 (by decide) rfl (fun c_1 => ?_) (fun c_1 => ?_)
  · refine lv_bipush (v := (-2)) hx hb dX5_formats_12 (by decide) ?_
    have b_2 : 0 ≤ (I x0 1).toInt ∧ (I x0 1).toInt ≤ 1000 := hM.ib mx0 kx0 1 rfl
    exact cr_ri (mc := 10) (ms := 82) E hr hlk hsz hM ⟨show (0 : Nat) ≤ 10 from by omega, show (0 : Nat) ≤ 82 from by omega⟩ (show (0 ≤ p0.toInt ∧ p0.toInt ≤ (I x0 1).toInt ∧ (I x0 1).toInt = 0) ∨ (¬ (0 ≤ p0.toInt ∧ p0.toInt ≤ (I x0 1).toInt) ∧ (I x0 1).toInt = (I x0 1).toInt) from by have n9 := num_m2; omega) dX5_formats_14
  · refine lv_iload_n hx hb dX5_formats_4 rfl (lv_at hl 1 rfl) ?_
    refine lv_aload_n hx hb dX5_formats_5 rfl (lv_at hl 0 rfl) ?_
    have b_3 : 0 ≤ (I x0 1).toInt ∧ (I x0 1).toInt ≤ 1000 := hM.ib mx0 kx0 1 rfl
    refine cr_get (κ := 5) (ci := 5) (k := 1) (C := RX5) (T := TX5) (N := 13) (fs := cfs 5) (v := .int (I x0 1)) E hM mx0 kx0 (fun _ _ => rfl) rfl hin5 (by decide) (index := 36) (mm_at 1 rfl) rfl rfl dX5_formats_6 ?_
    refine mm_icmp_le (X := p0.toInt) (Y := (I x0 1).toInt) (tgt := 15) hx hb dX5_formats_9 (by decide) rfl rfl (fun c_4 => ?_) (fun c_4 => ?_)
    · have hM0_5 := hM
      refine cr_new (κ := 24) (ci := 4) (C := RX4) (T := TX4) (N := 10) E hA hM (fun _ _ => rfl) rfl hin4 tyX4 tyX4_ok (mm_at 2 rfl) (mm_at 3 rfl) (mm_at 4 rfl) (fun j hj => by rcases (show j = 0 ∨ j = 1 ∨ j = 2 ∨ j = 3 ∨ j = 4 ∨ j = 5 ∨ j = 6 ∨ j = 7 ∨ j = 8 ∨ j = 9 by omega) with rfl | rfl | rfl | rfl | rfl | rfl | rfl | rfl | rfl | rfl <;> rfl) (fun _ => rfl) (by decide) (show (0 + 1 : Nat) ≤ 10 from by omega) (show (0 + 10 : Nat) ≤ 82 from by omega) dX5_formats_15 (fun q_5 H L_5 K_5 I_5 O_5 hq_5 eL_5 eK_5 eI_5 eO_5 tr_5 mq_5 kq_5 hM => ?_)
      have hn_5 : q_5 ∉ L := fun z => hq_5 (hM0_5.2.2.2.2 q_5 z (fun z => by cases z)).1
      have m_6 := (tr_5 x0 mx0).1
      have k_6 : K_5 x0 = 5 := (tr_5 x0 mx0).2.trans kx0
      refine W.widen (k := 1) (n := 10) (by omega) (by omega) ?_
      refine lv_dup hx hb dX5_formats_18 rfl ?_
      refine lv_aload_n hx hb dX5_formats_19 rfl (lv_at hl 0 rfl) ?_
      obtain ⟨x_7, o_7, m_7, k_7⟩ := hM.nn m_6 k_6 0 (κ' := 10) rfl rfl
      refine cr_get (κ := 5) (ci := 5) (k := 0) (C := RX5) (T := TX5) (N := 13) (fs := cfs 5) (v := .ref x_7) E hM m_6 k_6 (fun _ _ => rfl) rfl hin5 (by decide) (index := 9) (mm_at 5 rfl) rfl (by show some (va_rf (O_5 x0 0)) = some (.ref x_7); rw [o_7]; rfl) dX5_formats_20 ?_
      refine lv_iload_n hx hb dX5_formats_23 rfl (lv_at hl 1 rfl) ?_
      have b_9 : 0 ≤ (I_5 q_5 6).toInt ∧ (I_5 q_5 6).toInt ≤ 4 := hM.ib mq_5 kq_5 6 rfl
      have e_10 : (I_5 q_5 6).toInt = 0 := (congrArg Int32.toInt (cn_s eI_5)).trans mm_z0
      refine cc_Iv (vs := [.ref x_7, .int p0]) (rest := [.ref q_5]) (ret := none) (b := q_5) E hV rfl hA hml hM (h4_X4_init l D cA ad av L_5 K_5 I_5 O_5 _ q_5 x_7 p0 hM.2.2.2.1 mq_5 kq_5 m_7 k_7 (show 0 ≤ p0.toInt from by omega) (show (I_5 q_5 6).toInt = 0 from by omega)) (cwI 2 hts gk_X5_formats_X4_init_8 rfl rfl rfl (hts _ (mm_at 4 rfl)) (hts _ (mm_at 6 rfl)) (hts _ (mm_at 7 rfl)) rfl (by decide +kernel) ⟨Nat.le_of_ble_eq_true rfl, Nat.le_of_ble_eq_true rfl⟩) rfl hl.1 rfl (Nat.le_of_ble_eq_true rfl) dX5_formats_24 ⟨show (1 + 1 : Nat) ≤ 10 from by omega, show (10 + 8 : Nat) ≤ 82 from by omega⟩ (fun w h => by rw [List.mem_singleton.mp h]; exact Or.inl hn_5) (by decide) (by decide) (fun L_13 K_13 I_13 O_13 H locs fr_13 p_12 hM => ?_)
      have m_14 := (fr_13 x0 m_6 (fun z => hq_5 (List.mem_singleton.mp z ▸ mx0))).1
      have k_14 : K_13 x0 = 5 := (fr_13 x0 m_6 (fun z => hq_5 (List.mem_singleton.mp z ▸ mx0))).2.1.trans k_6
      refine W.widen (k := 2) (n := 18) (by omega) (by omega) ?_
      obtain ⟨m_15, k_15, p_12⟩ := p_12
      replace p_12 : (I_13 q_5 6).toInt = 0 ∨ (I_13 q_5 7).toInt ≤ 999 := p_12
      refine lv_astore_n (lv' := [(2, .ref q_5), (0, .ref x0), (1, .int p0)]) hx hb dX5_formats_27 rfl hl (by decide) rfl (fun ls hl => ?_)
      refine lv_aload_n hx hb dX5_formats_28 rfl (lv_at hl 0 rfl) ?_
      refine cc_Vi (vs := []) (rest := []) (b := q_5) (κ := 4) E hV rfl hA hml hM m_15 k_15 rfl rfl (h4_X4_readFormats l D cA ad av L_13 K_13 I_13 O_13 _ q_5 hM.2.2.2.1 m_15 k_15) (cwV 0 hts gk_X5_formats_X4_readFormats_16 rfl rfl rfl (by decide +kernel) ⟨Nat.le_of_ble_eq_true rfl, Nat.le_of_ble_eq_true rfl⟩) rfl hl.1 rfl (Nat.le_of_ble_eq_true rfl) dX5_formats_29 ⟨show (2 + 8 : Nat) ≤ 10 from by omega, show (18 + 64 : Nat) ≤ 82 from by omega⟩ (fun _ h => by cases h) (by decide) (by decide) (fun r_17 L_19 K_19 I_19 O_19 H locs fr_19 p_18 hM => ?_)
      have m_20 := (fr_19 x0 m_14 (fun z => by cases z)).1
      have k_20 : K_19 x0 = 5 := (fr_19 x0 m_14 (fun z => by cases z)).2.1.trans k_14
      have m_21 := (fr_19 q_5 m_15 (fun z => by cases z)).1
      have k_21 : K_19 q_5 = 4 := (fr_19 q_5 m_15 (fun z => by cases z)).2.1.trans k_15
      refine W.widen (k := 10) (n := 82) (by omega) (by omega) ?_
      refine lv_istore_n (lv' := [(3, .int r_17), (2, .ref q_5), (0, .ref x0), (1, .int p0)]) hx hb dX5_formats_32 rfl hl (by decide) rfl (fun ls hl => ?_)
      refine lv_aload_n hx hb dX5_formats_33 rfl (lv_at hl 2 rfl) ?_
      refine lv_iconst (v := 0) hx hb dX5_formats_34 (by decide) ?_
      refine cr_puti (κ := 5) (ci := 5) (k := 1) (C := RX5) (T := TX5) (N := 13) (fs := cfs 5) (ty := .int) (v := 0) E hM m_20 k_20 (fun _ _ => rfl) rfl hin5 tyX5 tyX5_ok nmX5 (by decide) (index := 36) (mm_at 1 rfl) rfl (Or.inl rfl) (by decide +kernel) rfl rfl (show (1 : Nat) < 13 from by decide) (fun _ _ _ => rfl) (cz_bd (X := 0) (a := 0) (b := 1000) rfl num_0 (by omega)) (cS_upd (hM.sp m_20 k_20) (by decide) (by decide)) (Or.inr (Or.inr rfl)) dX5_formats_35 (fun H locs I_22 eI_22 hM => ?_)
      refine lv_aload_n hx hb dX5_formats_38 rfl (lv_at hl 2 rfl) ?_
      refine lv_aload_n hx hb dX5_formats_39 rfl (lv_at hl 1 rfl) ?_
      have e_23 : (I_22 q_5 4).toInt = (I_19 q_5 4).toInt := congrArg Int32.toInt (cu_k eI_22 (by decide))
      refine cr_get (κ := 4) (ci := 4) (k := 4) (C := RX4) (T := TX4) (N := 10) (fs := cfs 4) (v := .int (I_22 q_5 4)) E hM m_21 k_21 (fun _ _ => rfl) rfl hin4 (by decide) (index := 52) (mm_at 130 rfl) rfl rfl dX5_formats_40 ?_
      refine cr_puti (κ := 5) (ci := 5) (k := 4) (C := RX5) (T := TX5) (N := 13) (fs := cfs 5) (ty := .int) (v := (I_22 q_5 4)) E hM m_20 k_20 (fun _ _ => rfl) rfl hin5 tyX5 tyX5_ok nmX5 (by decide) (index := 55) (mm_at 131 rfl) rfl (Or.inl rfl) (by decide +kernel) rfl rfl (show (4 : Nat) < 13 from by decide) (fun _ _ _ => rfl) (cz_nb rfl) (cS_upd (hM.sp m_20 k_20) (by decide) (by decide)) (Or.inr (Or.inr rfl)) dX5_formats_43 (fun H locs I_24 eI_24 hM => ?_)
      refine lv_aload_n hx hb dX5_formats_46 rfl (lv_at hl 2 rfl) ?_
      refine lv_aload_n hx hb dX5_formats_47 rfl (lv_at hl 1 rfl) ?_
      have e_25 : (I_22 q_5 5).toInt = (I_19 q_5 5).toInt := congrArg Int32.toInt (cu_k eI_22 (by decide))
      have e_26 : (I_24 q_5 5).toInt = (I_22 q_5 5).toInt := congrArg Int32.toInt (cu_k eI_24 (by decide))
      refine cr_get (κ := 4) (ci := 4) (k := 5) (C := RX4) (T := TX4) (N := 10) (fs := cfs 4) (v := .int (I_24 q_5 5)) E hM m_21 k_21 (fun _ _ => rfl) rfl hin4 (by decide) (index := 58) (mm_at 132 rfl) rfl rfl dX5_formats_48 ?_
      refine cr_puti (κ := 5) (ci := 5) (k := 5) (C := RX5) (T := TX5) (N := 13) (fs := cfs 5) (ty := .int) (v := (I_24 q_5 5)) E hM m_20 k_20 (fun _ _ => rfl) rfl hin5 tyX5 tyX5_ok nmX5 (by decide) (index := 19) (mm_at 133 rfl) rfl (Or.inl rfl) (by decide +kernel) rfl rfl (show (5 : Nat) < 13 from by decide) (fun _ _ _ => rfl) (cz_nb rfl) (cS_upd (hM.sp m_20 k_20) (by decide) (by decide)) (Or.inr (Or.inr rfl)) dX5_formats_51 (fun H locs I_27 eI_27 hM => ?_)
      refine lv_iload_n hx hb dX5_formats_54 rfl (lv_at hl 0 rfl) ?_
      refine mm_if_ne (X := r_17.toInt) (tgt := 60) hx hb dX5_formats_55 (by decide) rfl (fun c_28 => ?_) (fun c_28 => ?_)
      · refine lv_aload_n hx hb dX5_formats_60 rfl (lv_at hl 2 rfl) ?_
        refine lv_aload_n hx hb dX5_formats_61 rfl (lv_at hl 1 rfl) ?_
        obtain ⟨x_29, o_29, m_29, k_29⟩ := hM.nn m_21 k_21 2 (κ' := 14) rfl rfl
        refine cr_get (κ := 4) (ci := 4) (k := 2) (C := RX4) (T := TX4) (N := 10) (fs := cfs 4) (v := .ref x_29) E hM m_21 k_21 (fun _ _ => rfl) rfl hin4 (by decide) (index := 61) (mm_at 134 rfl) rfl (by show some (va_rf (O_19 q_5 2)) = some (.ref x_29); rw [o_29]; rfl) dX5_formats_62 ?_
        refine cr_puto (κ := 5) (ci := 5) (k := 2) (C := RX5) (T := TX5) (N := 13) (fs := cfs 5) (ty := .array (.object "SkiShots$Format")) (w := some x_29) E hM m_20 k_20 (fun _ _ => rfl) rfl hin5 tyX5 tyX5_ok nmX5 (by decide) (index := 15) (mm_at 135 rfl) rfl (Or.inl rfl) (by decide +kernel) rfl rfl (show (2 : Nat) < 13 from by decide) (fun _ _ _ => rfl) (by decide) (fun _ b h1 h2 => by cases h1; cases h2; exact ⟨m_29, k_29⟩) (fun _ h => by cases h) (hM.spo m_20 k_20 (by decide) (by decide) (by decide)) (Or.inr (Or.inr rfl)) dX5_formats_65 (fun H locs O_30 eO_30 hM => ?_)
        refine lv_aload_n hx hb dX5_formats_68 rfl (lv_at hl 2 rfl) ?_
        refine lv_aload_n hx hb dX5_formats_69 rfl (lv_at hl 1 rfl) ?_
        have e_31 : (I_22 q_5 3).toInt = (I_19 q_5 3).toInt := congrArg Int32.toInt (cu_k eI_22 (by decide))
        have e_32 : (I_24 q_5 3).toInt = (I_22 q_5 3).toInt := congrArg Int32.toInt (cu_k eI_24 (by decide))
        have e_33 : (I_27 q_5 3).toInt = (I_24 q_5 3).toInt := congrArg Int32.toInt (cu_k eI_27 (by decide))
        refine cr_get (κ := 4) (ci := 4) (k := 3) (C := RX4) (T := TX4) (N := 10) (fs := cfs 4) (v := .int (I_27 q_5 3)) E hM m_21 k_21 (fun _ _ => rfl) rfl hin4 (by decide) (index := 64) (mm_at 136 rfl) rfl rfl dX5_formats_70 ?_
        refine cr_puti (κ := 5) (ci := 5) (k := 3) (C := RX5) (T := TX5) (N := 13) (fs := cfs 5) (ty := .int) (v := (I_27 q_5 3)) E hM m_20 k_20 (fun _ _ => rfl) rfl hin5 tyX5 tyX5_ok nmX5 (by decide) (index := 67) (mm_at 137 rfl) rfl (Or.inl rfl) (by decide +kernel) rfl rfl (show (3 : Nat) < 13 from by decide) (fun _ _ _ => rfl) (cz_nb rfl) (cS_upd (hM.sp m_20 k_20) (by decide) (by decide)) (Or.inr (Or.inr rfl)) dX5_formats_73 (fun H locs I_34 eI_34 hM => ?_)
        refine lv_aload_n hx hb dX5_formats_76 rfl (lv_at hl 2 rfl) ?_
        have e_35 : (I_34 x0 3).toInt = (I_27 q_5 3).toInt := (congrArg Int32.toInt (cu_s eI_34)).trans rfl
        refine cr_get (κ := 5) (ci := 5) (k := 3) (C := RX5) (T := TX5) (N := 13) (fs := cfs 5) (v := .int (I_34 x0 3)) E hM m_20 k_20 (fun _ _ => rfl) rfl hin5 (by decide) (index := 67) (mm_at 137 rfl) rfl rfl dX5_formats_77 ?_
        have b_36 : 0 ≤ (I_34 x0 1).toInt ∧ (I_34 x0 1).toInt ≤ 1000 := hM.ib m_20 k_20 1 rfl
        have e_37 : (I_22 x0 1).toInt = 0 := (congrArg Int32.toInt (cu_s eI_22)).trans num_0
        have e_38 : (I_24 x0 1).toInt = (I_22 x0 1).toInt := congrArg Int32.toInt (cu_k eI_24 (by decide))
        have e_39 : (I_27 x0 1).toInt = (I_24 x0 1).toInt := congrArg Int32.toInt (cu_k eI_27 (by decide))
        have e_40 : (I_34 x0 1).toInt = (I_27 x0 1).toInt := congrArg Int32.toInt (cu_k eI_34 (by decide))
        exact cr_ri (mc := 10) (ms := 82) E hr hlk hsz hM ⟨show (10 : Nat) ≤ 10 from by omega, show (82 : Nat) ≤ 82 from by omega⟩ (show (0 ≤ p0.toInt ∧ p0.toInt ≤ (I x0 1).toInt ∧ (I_34 x0 1).toInt = 0) ∨ (¬ (0 ≤ p0.toInt ∧ p0.toInt ≤ (I x0 1).toInt) ∧ (I_34 x0 1).toInt = (I x0 1).toInt) from by omega) dX5_formats_80
      · refine lv_iconst (v := (-1)) hx hb dX5_formats_58 (by decide) ?_
        have b_41 : 0 ≤ (I_27 x0 1).toInt ∧ (I_27 x0 1).toInt ≤ 1000 := hM.ib m_20 k_20 1 rfl
        have e_42 : (I_22 x0 1).toInt = 0 := (congrArg Int32.toInt (cu_s eI_22)).trans num_0
        have e_43 : (I_24 x0 1).toInt = (I_22 x0 1).toInt := congrArg Int32.toInt (cu_k eI_24 (by decide))
        have e_44 : (I_27 x0 1).toInt = (I_24 x0 1).toInt := congrArg Int32.toInt (cu_k eI_27 (by decide))
        exact cr_ri (mc := 10) (ms := 82) E hr hlk hsz hM ⟨show (10 : Nat) ≤ 10 from by omega, show (82 : Nat) ≤ 82 from by omega⟩ (show (0 ≤ p0.toInt ∧ p0.toInt ≤ (I x0 1).toInt ∧ (I_27 x0 1).toInt = 0) ∨ (¬ (0 ≤ p0.toInt ∧ p0.toInt ≤ (I x0 1).toInt) ∧ (I_27 x0 1).toInt = (I x0 1).toInt) from by have n9 := num_m1; omega) dX5_formats_59
    · refine lv_bipush (v := (-2)) hx hb dX5_formats_12 (by decide) ?_
      exact cr_ri (mc := 10) (ms := 82) E hr hlk hsz hM ⟨show (0 : Nat) ≤ 10 from by omega, show (0 : Nat) ≤ 82 from by omega⟩ (show (0 ≤ p0.toInt ∧ p0.toInt ≤ (I x0 1).toInt ∧ (I x0 1).toInt = 0) ∨ (¬ (0 ≤ p0.toInt ∧ p0.toInt ≤ (I x0 1).toInt) ∧ (I x0 1).toInt = (I x0 1).toInt) from by have n9 := num_m2; omega) dX5_formats_14
