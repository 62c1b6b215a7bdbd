def w7X6_word : List Cond := .code yX6_word cX6_word 2 (some .boolean) :: ([.fieldLink RX6 144 "SkiShotsModel" "kind" "I", .fieldLink RX6 141 "SkiShotsModel" "place" "I", .methodLink RX6 162 yX6_wrong, .instanceMethod yX6_wrong, .selects RX6 yX6_wrong yX6_wrong, .initialized RX6, .code yX6_wrong cX6_wrong 3 (some .boolean), .fieldLink RX6 132 "SkiShotsModel" "fault" "I", .fieldLink RX6 38 "SkiShotsModel" "faultPlace" "I", .fieldLink RX6 155 "SkiShotsModel" "which" "I", .methodLink RX6 166 yX6_take, .instanceMethod yX6_take, .selects RX6 yX6_take yX6_take, .code yX6_take cX6_take 1 none, .fieldLink RX6 138 "SkiShotsModel" "next" "I", .methodLink RX6 158 yX6_isDigit, .instanceMethod yX6_isDigit, .selects RX6 yX6_isDigit yX6_isDigit, .code yX6_isDigit cX6_isDigit 2 (some .boolean), .fieldLink RX6 135 "SkiShotsModel" "size" "I", .fieldLink RX6 7 "SkiShotsModel" "tape" "[I", .constant RX6 161 (99999), .methodLink RX6 147 yX6_isSmall, .instanceMethod yX6_isSmall, .selects RX6 yX6_isSmall yX6_isSmall, .code yX6_isSmall cX6_isSmall 2 (some .boolean), .methodLink RX6 151 yX6_wordAt, .instanceMethod yX6_wordAt, .selects RX6 yX6_wordAt yX6_wordAt, .code yX6_wordAt cX6_wordAt 8 (some .int), .fieldLink RX6 102 "SkiShotsModel" "words" "[I"] ++ wsX60)
set_option maxRecDepth 20000 in
theorem g8_X6_word_X6_wrong_4 : GoodIn w7X6_word (wsV RX6 162 RX6 yX6_wrong w3X6_wrong) := goodIn_p _ [7] rfl (by decide +kernel)
set_option maxRecDepth 20000 in
theorem g8_X6_word_X6_take_18 : GoodIn w7X6_word (wsV RX6 166 RX6 yX6_take w7X6_take) := goodIn_p _ [14, 19, 26, 30] rfl (by decide +kernel)
set_option maxRecDepth 20000 in
theorem g8_X6_word_X6_wrong_31 : GoodIn w7X6_word (wsV RX6 162 RX6 yX6_wrong w3X6_wrong) := goodIn_p _ [7] rfl (by decide +kernel)
set_option maxHeartbeats 4000000 in
set_option maxRecDepth 100000 in
theorem g7_X6_word (l : Launch) (D : va_G) (h0 : Nat) (q : Nat → Nat) (cq : Nat → ClassId) (F : Nat → Int32) (G : Nat → Nat → Int32) (sz : Nat) (p0 : Int32) (hI : mI F G) (kz : Nat → Nat) (nz : Nat) (xz : Nat) (htx : mTx kz nz F G) (hat : (F 43).toInt = (ztp kz xz : Int) ∧ (F 40).toInt = (zty kz nz xz : Int) ∧ mKW kz nz xz (F 41).toInt (F 42).toInt) (hns : (F 40).toInt ≤ (F 39).toInt) (hk2 : ¬ (F 41).toInt = 2 ∨ (65 ≤ (F 42).toInt ∧ (F 42).toInt ≤ 72)) (kw9 : 1 ≤ p0.toInt ∧ p0.toInt ≤ 11) : Met l yX6_word w7X6_word ({ frames := 2, cells := 0, slots := 0, locals := 47 }) (mPre D h0 q cq F G sz [.ref h0, .int p0]) (mQi D h0 q cq F G sz [13, 14, 40, 41, 42, 43] [] (fun r F' G' => (F' 40).toInt ≤ (F 39).toInt ∧ (F 40).toInt ≤ (F' 40).toInt ∧ (¬ (F' 41).toInt = 2 ∨ (65 ≤ (F' 42).toInt ∧ (F' 42).toInt ≤ 72)) ∧ ((r.toInt = 1 ∧ zW kz nz xz (zwl (zrw (p0.toInt.toNat - 1))) ∧ (F' 43).toInt = (ztp kz (zty kz nz xz) : Int) ∧ (F' 40).toInt = (zty kz nz (zty kz nz xz) : Int) ∧ mKW kz nz (zty kz nz xz) (F' 41).toInt (F' 42).toInt) ∨ (r.toInt = 0 ∧ ¬ zW kz nz xz (zwl (zrw (p0.toInt.toNat - 1))))))) 0 0 (va_A (mW h0 q cq F G) sz) := by
  refine mr_met (WF := [13, 14, 40, 41, 42, 43]) (WG := []) (cc := cX6_word) (maxL := 2) (ret := (some .boolean)) (by decide) rfl rfl (by decide +kernel) (Nat.le_of_ble_eq_true rfl) hI ?_
  intro p e s m args below meth c ls E hml hr hlk hsz hA hM hl
  have hx := E.1
  have hb := E.2.1
  have hts := E.2.2.1
  have hown := E.2.2.2.2.1
  have hl : lv_has ls 2 [(0, .ref h0), (1, .int p0)] := hl
  have hou := mTx_out htx
  have hsz9 := htx.2
  refine lv_aload_n hx hb dX6_word_0 rfl (lv_at hl 0 rfl) ?_
  have b_1 : 0 ≤ (F 41).toInt ∧ (F 41).toInt ≤ 5 := hM.fb 41 rfl
  refine mr_get (v := .int (F 41)) E hM 41 (by decide) (index := 144) (mm_at 1 rfl) rfl rfl dX6_word_1 ?_
  refine lv_iconst (v := 1) hx hb dX6_word_4 (by decide) ?_
  refine mm_icmp_ne (X := (F 41).toInt) (Y := 1) (tgt := 16) hx hb dX6_word_5 (by decide) rfl num_1 (fun c_2 => ?_) (fun c_2 => ?_)
  · refine lv_aload_n hx hb dX6_word_16 rfl (lv_at hl 0 rfl) ?_
    refine lv_iconst (v := 1) hx hb dX6_word_17 (by decide) ?_
    refine lv_aload_n hx hb dX6_word_18 rfl (lv_at hl 0 rfl) ?_
    have b_3 : 0 ≤ (F 43).toInt ∧ (F 43).toInt ≤ 1000 := hM.fb 43 rfl
    refine mr_get (v := .int (F 43)) E hM 43 (by decide) (index := 141) (mm_at 2 rfl) rfl rfl dX6_word_19 ?_
    refine mr_calli (av := [.int 1, .int (F 43)]) (rest := []) E hA hml hM (g3_X6_wrong l D h0 q cq F G _ 1 (F 43) hM.2.2.2.1 ) (cwV 2 hts g8_X6_word_X6_wrong_4 rfl rfl rfl (by decide +kernel) ⟨Nat.le_of_ble_eq_true rfl, Nat.le_of_ble_eq_true rfl⟩) rfl hl.1 rfl (Nat.le_of_ble_eq_true rfl) dX6_word_22 ⟨Nat.le_of_ble_eq_true rfl, Nat.le_of_ble_eq_true rfl⟩ (by decide) (by decide) (fun r_5 F_7 G_8 H locs fr_9 p_6 hM => ?_)
    replace p_6 : r_5.toInt = 0 := p_6
    have b_10 : 0 ≤ (F_7 40).toInt ∧ (F_7 40).toInt ≤ 1000 := hM.fb 40 rfl
    have e_11 : (F_7 40).toInt = (F 40).toInt := (congrArg Int32.toInt (fr_9.1 40 (by decide))).trans rfl
    have e_12 : (F_7 42).toInt = (F 42).toInt := (congrArg Int32.toInt (fr_9.1 42 (by decide))).trans rfl
    have b_13 : 0 ≤ (F_7 43).toInt ∧ (F_7 43).toInt ≤ 1000 := hM.fb 43 rfl
    have e_14 : (F_7 43).toInt = (F 43).toInt := (congrArg Int32.toInt (fr_9.1 43 (by decide))).trans rfl
    have b_15 : 0 ≤ (F_7 41).toInt ∧ (F_7 41).toInt ≤ 5 := hM.fb 41 rfl
    have e_16 : (F_7 41).toInt = (F 41).toInt := (congrArg Int32.toInt (fr_9.1 41 (by decide))).trans rfl
    exact mr_rz (X := r_5.toInt) E hr hlk hsz hM rfl (by omega) (show (F_7 40).toInt ≤ (F 39).toInt ∧ (F 40).toInt ≤ (F_7 40).toInt ∧ (¬ (F_7 41).toInt = 2 ∨ (65 ≤ (F_7 42).toInt ∧ (F_7 42).toInt ≤ 72)) ∧ ((r_5.toInt = 1 ∧ zW kz nz xz (zwl (zrw (p0.toInt.toNat - 1))) ∧ (F_7 43).toInt = (ztp kz (zty kz nz xz) : Int) ∧ (F_7 40).toInt = (zty kz nz (zty kz nz xz) : Int) ∧ mKW kz nz (zty kz nz xz) (F_7 41).toInt (F_7 42).toInt) ∨ (r_5.toInt = 0 ∧ ¬ zW kz nz xz (zwl (zrw (p0.toInt.toNat - 1))))) from by have hi9 : p0.toInt.toNat - 1 < 11 := (by omega); have hW := mKW_W hou hat.2.2 (zrw_lt _ hi9); rw [zrw_id _ hi9] at hW; exact ⟨by omega, by omega, by omega, Or.inr ⟨by omega, fun w => by have := hW.mp w; omega⟩⟩) dX6_word_25
  · refine lv_aload_n hx hb dX6_word_8 rfl (lv_at hl 0 rfl) ?_
    refine mr_get (v := .int (F 42)) E hM 42 (by decide) (index := 155) (mm_at 10 rfl) rfl rfl dX6_word_9 ?_
    refine lv_iload_n hx hb dX6_word_12 rfl (lv_at hl 1 rfl) ?_
    refine mm_icmp_eq (X := (F 42).toInt) (Y := p0.toInt) (tgt := 26) hx hb dX6_word_13 (by decide) rfl rfl (fun c_17 => ?_) (fun c_17 => ?_)
    · refine lv_aload_n hx hb dX6_word_26 rfl (lv_at hl 0 rfl) ?_
      have b_19 : 0 ≤ (F 40).toInt ∧ (F 40).toInt ≤ 1000 := hM.fb 40 rfl
      have b_20 : 0 ≤ (F 39).toInt ∧ (F 39).toInt ≤ 1000 := hM.fb 39 rfl
      refine mr_callv (av := []) (rest := []) E hA hml hM (g7_X6_take l D h0 q cq F G _  hM.2.2.2.1 kz nz (zty kz nz xz) (mTx_fr htx hM.fr (by decide) (by decide)) (show (F 40).toInt = ((zty kz nz xz) : Int) from by omega) (show (F 40).toInt ≤ (F 39).toInt from by omega)) (cwV 0 hts g8_X6_word_X6_take_18 rfl rfl rfl (by decide +kernel) ⟨Nat.le_of_ble_eq_true rfl, Nat.le_of_ble_eq_true rfl⟩) rfl hl.1 rfl (Nat.le_of_ble_eq_true rfl) dX6_word_27 ⟨Nat.le_of_ble_eq_true rfl, Nat.le_of_ble_eq_true rfl⟩ (by decide) (by decide) (fun F_23 G_24 H locs fr_25 p_22 hM => ?_)
      replace p_22 : (F_23 40).toInt ≤ (F 39).toInt ∧ (F 40).toInt ≤ (F_23 40).toInt ∧ ((F_23 41).toInt = 0 ∨ (F 40).toInt < (F_23 40).toInt) ∧ (¬ (F_23 41).toInt = 2 ∨ (65 ≤ (F_23 42).toInt ∧ (F_23 42).toInt ≤ 72)) ∧ (F_23 43).toInt = (ztp kz (zty kz nz xz) : Int) ∧ (F_23 40).toInt = (zty kz nz (zty kz nz xz) : Int) ∧ mKW kz nz (zty kz nz xz) (F_23 41).toInt (F_23 42).toInt := p_22
      rcases p_22 with ⟨t1_26, t2_26, t3_26, t4_26, a1_26, a2_26, kw_26⟩
      refine lv_iconst (v := 1) hx hb dX6_word_30 (by decide) ?_
      have b_27 : 0 ≤ (F_23 40).toInt ∧ (F_23 40).toInt ≤ 1000 := hM.fb 40 rfl
      have b_28 : 0 ≤ (F_23 43).toInt ∧ (F_23 43).toInt ≤ 1000 := hM.fb 43 rfl
      have b_29 : 0 ≤ (F_23 41).toInt ∧ (F_23 41).toInt ≤ 5 := hM.fb 41 rfl
      exact mr_rz (X := 1) E hr hlk hsz hM num_1 (by omega) (show (F_23 40).toInt ≤ (F 39).toInt ∧ (F 40).toInt ≤ (F_23 40).toInt ∧ (¬ (F_23 41).toInt = 2 ∨ (65 ≤ (F_23 42).toInt ∧ (F_23 42).toInt ≤ 72)) ∧ (((1 : Int32).toInt = 1 ∧ zW kz nz xz (zwl (zrw (p0.toInt.toNat - 1))) ∧ (F_23 43).toInt = (ztp kz (zty kz nz xz) : Int) ∧ (F_23 40).toInt = (zty kz nz (zty kz nz xz) : Int) ∧ mKW kz nz (zty kz nz xz) (F_23 41).toInt (F_23 42).toInt) ∨ ((1 : Int32).toInt = 0 ∧ ¬ zW kz nz xz (zwl (zrw (p0.toInt.toNat - 1))))) from by have n9 := num_1; have hi9 : p0.toInt.toNat - 1 < 11 := (by omega); have hW := mKW_W hou hat.2.2 (zrw_lt _ hi9); rw [zrw_id _ hi9] at hW; exact ⟨by omega, by omega, by omega, Or.inl ⟨by omega, hW.mpr ⟨by omega, by omega⟩, a1_26, a2_26, kw_26⟩⟩) dX6_word_31
    · refine lv_aload_n hx hb dX6_word_16 rfl (lv_at hl 0 rfl) ?_
      refine lv_iconst (v := 1) hx hb dX6_word_17 (by decide) ?_
      refine lv_aload_n hx hb dX6_word_18 rfl (lv_at hl 0 rfl) ?_
      have b_30 : 0 ≤ (F 43).toInt ∧ (F 43).toInt ≤ 1000 := hM.fb 43 rfl
      refine mr_get (v := .int (F 43)) E hM 43 (by decide) (index := 141) (mm_at 2 rfl) rfl rfl dX6_word_19 ?_
      refine mr_calli (av := [.int 1, .int (F 43)]) (rest := []) E hA hml hM (g3_X6_wrong l D h0 q cq F G _ 1 (F 43) hM.2.2.2.1 ) (cwV 2 hts g8_X6_word_X6_wrong_31 rfl rfl rfl (by decide +kernel) ⟨Nat.le_of_ble_eq_true rfl, Nat.le_of_ble_eq_true rfl⟩) rfl hl.1 rfl (Nat.le_of_ble_eq_true rfl) dX6_word_22 ⟨Nat.le_of_ble_eq_true rfl, Nat.le_of_ble_eq_true rfl⟩ (by decide) (by decide) (fun r_32 F_34 G_35 H locs fr_36 p_33 hM => ?_)
      replace p_33 : r_32.toInt = 0 := p_33
      have b_37 : 0 ≤ (F_34 40).toInt ∧ (F_34 40).toInt ≤ 1000 := hM.fb 40 rfl
      have e_38 : (F_34 40).toInt = (F 40).toInt := (congrArg Int32.toInt (fr_36.1 40 (by decide))).trans rfl
      have e_39 : (F_34 42).toInt = (F 42).toInt := (congrArg Int32.toInt (fr_36.1 42 (by decide))).trans rfl
      have b_40 : 0 ≤ (F_34 43).toInt ∧ (F_34 43).toInt ≤ 1000 := hM.fb 43 rfl
      have e_41 : (F_34 43).toInt = (F 43).toInt := (congrArg Int32.toInt (fr_36.1 43 (by decide))).trans rfl
      have b_42 : 0 ≤ (F_34 41).toInt ∧ (F_34 41).toInt ≤ 5 := hM.fb 41 rfl
      have e_43 : (F_34 41).toInt = (F 41).toInt := (congrArg Int32.toInt (fr_36.1 41 (by decide))).trans rfl
      exact mr_rz (X := r_32.toInt) E hr hlk hsz hM rfl (by omega) (show (F_34 40).toInt ≤ (F 39).toInt ∧ (F 40).toInt ≤ (F_34 40).toInt ∧ (¬ (F_34 41).toInt = 2 ∨ (65 ≤ (F_34 42).toInt ∧ (F_34 42).toInt ≤ 72)) ∧ ((r_32.toInt = 1 ∧ zW kz nz xz (zwl (zrw (p0.toInt.toNat - 1))) ∧ (F_34 43).toInt = (ztp kz (zty kz nz xz) : Int) ∧ (F_34 40).toInt = (zty kz nz (zty kz nz xz) : Int) ∧ mKW kz nz (zty kz nz xz) (F_34 41).toInt (F_34 42).toInt) ∨ (r_32.toInt = 0 ∧ ¬ zW kz nz xz (zwl (zrw (p0.toInt.toNat - 1))))) from by have hi9 : p0.toInt.toNat - 1 < 11 := (by omega); have hW := mKW_W hou hat.2.2 (zrw_lt _ hi9); rw [zrw_id _ hi9] at hW; exact ⟨by omega, by omega, by omega, Or.inr ⟨by omega, fun w => by have := hW.mp w; omega⟩⟩) dX6_word_25
def w7X6_sign : List Cond := .code yX6_sign cX6_sign 2 (some .boolean) :: ([.fieldLink RX6 144 "SkiShotsModel" "kind" "I", .fieldLink RX6 141 "SkiShotsModel" "place" "I", .methodLink RX6 162 yX6_wrong, .instanceMethod yX6_wrong, .selects RX6 yX6_wrong yX6_wrong, .initialized RX6, .code yX6_wrong cX6_wrong 3 (some .boolean), .fieldLink RX6 132 "SkiShotsModel" "fault" "I", .fieldLink RX6 38 "SkiShotsModel" "faultPlace" "I", .fieldLink RX6 155 "SkiShotsModel" "which" "I", .methodLink RX6 166 yX6_take, .instanceMethod yX6_take, .selects RX6 yX6_take yX6_take, .code yX6_take cX6_take 1 none, .fieldLink RX6 138 "SkiShotsModel" "next" "I", .methodLink RX6 158 yX6_isDigit, .instanceMethod yX6_isDigit, .selects RX6 yX6_isDigit yX6_isDigit, .code yX6_isDigit cX6_isDigit 2 (some .boolean), .fieldLink RX6 135 "SkiShotsModel" "size" "I", .fieldLink RX6 7 "SkiShotsModel" "tape" "[I", .constant RX6 161 (99999), .methodLink RX6 147 yX6_isSmall, .instanceMethod yX6_isSmall, .selects RX6 yX6_isSmall yX6_isSmall, .code yX6_isSmall cX6_isSmall 2 (some .boolean), .methodLink RX6 151 yX6_wordAt, .instanceMethod yX6_wordAt, .selects RX6 yX6_wordAt yX6_wordAt, .code yX6_wordAt cX6_wordAt 8 (some .int), .fieldLink RX6 102 "SkiShotsModel" "words" "[I"] ++ wsX60)
set_option maxRecDepth 20000 in
theorem g8_X6_sign_X6_wrong_4 : GoodIn w7X6_sign (wsV RX6 162 RX6 yX6_wrong w3X6_wrong) := goodIn_p _ [7] rfl (by decide +kernel)
set_option maxRecDepth 20000 in
theorem g8_X6_sign_X6_take_18 : GoodIn w7X6_sign (wsV RX6 166 RX6 yX6_take w7X6_take) := goodIn_p _ [14, 19, 26, 30] rfl (by decide +kernel)
set_option maxRecDepth 20000 in
theorem g8_X6_sign_X6_wrong_31 : GoodIn w7X6_sign (wsV RX6 162 RX6 yX6_wrong w3X6_wrong) := goodIn_p _ [7] rfl (by decide +kernel)
set_option maxHeartbeats 4000000 in
set_option maxRecDepth 100000 in
theorem g7_X6_sign (l : Launch) (D : va_G) (h0 : Nat) (q : Nat → Nat) (cq : Nat → ClassId) (F : Nat → Int32) (G : Nat → Nat → Int32) (sz : Nat) (p0 : Int32) (hI : mI F G) (kz : Nat → Nat) (nz : Nat) (xz : Nat) (htx : mTx kz nz F G) (hat : (F 43).toInt = (ztp kz xz : Int) ∧ (F 40).toInt = (zty kz nz xz : Int) ∧ mKW kz nz xz (F 41).toInt (F 42).toInt) (hns : (F 40).toInt ≤ (F 39).toInt) (hk2 : ¬ (F 41).toInt = 2 ∨ (65 ≤ (F 42).toInt ∧ (F 42).toInt ≤ 72)) (kc : p0.toInt = 59 ∨ p0.toInt = 123 ∨ p0.toInt = 125) : Met l yX6_sign w7X6_sign ({ frames := 2, cells := 0, slots := 0, locals := 47 }) (mPre D h0 q cq F G sz [.ref h0, .int p0]) (mQi D h0 q cq F G sz [13, 14, 40, 41, 42, 43] [] (fun r F' G' => (F' 40).toInt ≤ (F 39).toInt ∧ (F 40).toInt ≤ (F' 40).toInt ∧ (¬ (F' 41).toInt = 2 ∨ (65 ≤ (F' 42).toInt ∧ (F' 42).toInt ≤ 72)) ∧ ((r.toInt = 1 ∧ zS kz nz xz p0.toInt.toNat ∧ (F' 43).toInt = (ztp kz (zty kz nz xz) : Int) ∧ (F' 40).toInt = (zty kz nz (zty kz nz xz) : Int) ∧ mKW kz nz (zty kz nz xz) (F' 41).toInt (F' 42).toInt) ∨ (r.toInt = 0 ∧ ¬ zS kz nz xz p0.toInt.toNat)))) 0 0 (va_A (mW h0 q cq F G) sz) := by
  refine mr_met (WF := [13, 14, 40, 41, 42, 43]) (WG := []) (cc := cX6_sign) (maxL := 2) (ret := (some .boolean)) (by decide) rfl rfl (by decide +kernel) (Nat.le_of_ble_eq_true rfl) hI ?_
  intro p e s m args below meth c ls E hml hr hlk hsz hA hM hl
  have hx := E.1
  have hb := E.2.1
  have hts := E.2.2.1
  have hown := E.2.2.2.2.1
  have hl : lv_has ls 2 [(0, .ref h0), (1, .int p0)] := hl
  have hou := mTx_out htx
  have hsz9 := htx.2
  refine lv_aload_n hx hb dX6_sign_0 rfl (lv_at hl 0 rfl) ?_
  have b_1 : 0 ≤ (F 41).toInt ∧ (F 41).toInt ≤ 5 := hM.fb 41 rfl
  refine mr_get (v := .int (F 41)) E hM 41 (by decide) (index := 144) (mm_at 1 rfl) rfl rfl dX6_sign_1 ?_
  refine lv_iconst (v := 4) hx hb dX6_sign_4 (by decide) ?_
  refine mm_icmp_ne (X := (F 41).toInt) (Y := 4) (tgt := 16) hx hb dX6_sign_5 (by decide) rfl num_4 (fun c_2 => ?_) (fun c_2 => ?_)
  · refine lv_aload_n hx hb dX6_sign_16 rfl (lv_at hl 0 rfl) ?_
    refine lv_iconst (v := 1) hx hb dX6_sign_17 (by decide) ?_
    refine lv_aload_n hx hb dX6_sign_18 rfl (lv_at hl 0 rfl) ?_
    have b_3 : 0 ≤ (F 43).toInt ∧ (F 43).toInt ≤ 1000 := hM.fb 43 rfl
    refine mr_get (v := .int (F 43)) E hM 43 (by decide) (index := 141) (mm_at 2 rfl) rfl rfl dX6_sign_19 ?_
    refine mr_calli (av := [.int 1, .int (F 43)]) (rest := []) E hA hml hM (g3_X6_wrong l D h0 q cq F G _ 1 (F 43) hM.2.2.2.1 ) (cwV 2 hts g8_X6_sign_X6_wrong_4 rfl rfl rfl (by decide +kernel) ⟨Nat.le_of_ble_eq_true rfl, Nat.le_of_ble_eq_true rfl⟩) rfl hl.1 rfl (Nat.le_of_ble_eq_true rfl) dX6_sign_22 ⟨Nat.le_of_ble_eq_true rfl, Nat.le_of_ble_eq_true rfl⟩ (by decide) (by decide) (fun r_5 F_7 G_8 H locs fr_9 p_6 hM => ?_)
    replace p_6 : r_5.toInt = 0 := p_6
    have b_10 : 0 ≤ (F_7 40).toInt ∧ (F_7 40).toInt ≤ 1000 := hM.fb 40 rfl
    have e_11 : (F_7 40).toInt = (F 40).toInt := (congrArg Int32.toInt (fr_9.1 40 (by decide))).trans rfl
    have e_12 : (F_7 42).toInt = (F 42).toInt := (congrArg Int32.toInt (fr_9.1 42 (by decide))).trans rfl
    have b_13 : 0 ≤ (F_7 43).toInt ∧ (F_7 43).toInt ≤ 1000 := hM.fb 43 rfl
    have e_14 : (F_7 43).toInt = (F 43).toInt := (congrArg Int32.toInt (fr_9.1 43 (by decide))).trans rfl
    have b_15 : 0 ≤ (F_7 41).toInt ∧ (F_7 41).toInt ≤ 5 := hM.fb 41 rfl
    have e_16 : (F_7 41).toInt = (F 41).toInt := (congrArg Int32.toInt (fr_9.1 41 (by decide))).trans rfl
    exact mr_rz (X := r_5.toInt) E hr hlk hsz hM rfl (by omega) (show (F_7 40).toInt ≤ (F 39).toInt ∧ (F 40).toInt ≤ (F_7 40).toInt ∧ (¬ (F_7 41).toInt = 2 ∨ (65 ≤ (F_7 42).toInt ∧ (F_7 42).toInt ≤ 72)) ∧ ((r_5.toInt = 1 ∧ zS kz nz xz p0.toInt.toNat ∧ (F_7 43).toInt = (ztp kz (zty kz nz xz) : Int) ∧ (F_7 40).toInt = (zty kz nz (zty kz nz xz) : Int) ∧ mKW kz nz (zty kz nz xz) (F_7 41).toInt (F_7 42).toInt) ∨ (r_5.toInt = 0 ∧ ¬ zS kz nz xz p0.toInt.toNat)) from by have hW := mKW_S hou hat.2.2 (c := p0.toInt.toNat) (by omega); exact ⟨by omega, by omega, by omega, Or.inr ⟨by omega, fun w => by have := hW.mp w; omega⟩⟩) dX6_sign_25
  · refine lv_aload_n hx hb dX6_sign_8 rfl (lv_at hl 0 rfl) ?_
    refine mr_get (v := .int (F 42)) E hM 42 (by decide) (index := 155) (mm_at 10 rfl) rfl rfl dX6_sign_9 ?_
    refine lv_iload_n hx hb dX6_sign_12 rfl (lv_at hl 1 rfl) ?_
    refine mm_icmp_eq (X := (F 42).toInt) (Y := p0.toInt) (tgt := 26) hx hb dX6_sign_13 (by decide) rfl rfl (fun c_17 => ?_) (fun c_17 => ?_)
    · refine lv_aload_n hx hb dX6_sign_26 rfl (lv_at hl 0 rfl) ?_
      have b_19 : 0 ≤ (F 40).toInt ∧ (F 40).toInt ≤ 1000 := hM.fb 40 rfl
      have b_20 : 0 ≤ (F 39).toInt ∧ (F 39).toInt ≤ 1000 := hM.fb 39 rfl
      refine mr_callv (av := []) (rest := []) E hA hml hM (g7_X6_take l D h0 q cq F G _  hM.2.2.2.1 kz nz (zty kz nz xz) (mTx_fr htx hM.fr (by decide) (by decide)) (show (F 40).toInt = ((zty kz nz xz) : Int) from by omega) (show (F 40).toInt ≤ (F 39).toInt from by omega)) (cwV 0 hts g8_X6_sign_X6_take_18 rfl rfl rfl (by decide +kernel) ⟨Nat.le_of_ble_eq_true rfl, Nat.le_of_ble_eq_true rfl⟩) rfl hl.1 rfl (Nat.le_of_ble_eq_true rfl) dX6_sign_27 ⟨Nat.le_of_ble_eq_true rfl, Nat.le_of_ble_eq_true rfl⟩ (by decide) (by decide) (fun F_23 G_24 H locs fr_25 p_22 hM => ?_)
      replace p_22 : (F_23 40).toInt ≤ (F 39).toInt ∧ (F 40).toInt ≤ (F_23 40).toInt ∧ ((F_23 41).toInt = 0 ∨ (F 40).toInt < (F_23 40).toInt) ∧ (¬ (F_23 41).toInt = 2 ∨ (65 ≤ (F_23 42).toInt ∧ (F_23 42).toInt ≤ 72)) ∧ (F_23 43).toInt = (ztp kz (zty kz nz xz) : Int) ∧ (F_23 40).toInt = (zty kz nz (zty kz nz xz) : Int) ∧ mKW kz nz (zty kz nz xz) (F_23 41).toInt (F_23 42).toInt := p_22
      rcases p_22 with ⟨t1_26, t2_26, t3_26, t4_26, a1_26, a2_26, kw_26⟩
      refine lv_iconst (v := 1) hx hb dX6_sign_30 (by decide) ?_
      have b_27 : 0 ≤ (F_23 40).toInt ∧ (F_23 40).toInt ≤ 1000 := hM.fb 40 rfl
      have b_28 : 0 ≤ (F_23 43).toInt ∧ (F_23 43).toInt ≤ 1000 := hM.fb 43 rfl
      have b_29 : 0 ≤ (F_23 41).toInt ∧ (F_23 41).toInt ≤ 5 := hM.fb 41 rfl
      exact mr_rz (X := 1) E hr hlk hsz hM num_1 (by omega) (show (F_23 40).toInt ≤ (F 39).toInt ∧ (F 40).toInt ≤ (F_23 40).toInt ∧ (¬ (F_23 41).toInt = 2 ∨ (65 ≤ (F_23 42).toInt ∧ (F_23 42).toInt ≤ 72)) ∧ (((1 : Int32).toInt = 1 ∧ zS kz nz xz p0.toInt.toNat ∧ (F_23 43).toInt = (ztp kz (zty kz nz xz) : Int) ∧ (F_23 40).toInt = (zty kz nz (zty kz nz xz) : Int) ∧ mKW kz nz (zty kz nz xz) (F_23 41).toInt (F_23 42).toInt) ∨ ((1 : Int32).toInt = 0 ∧ ¬ zS kz nz xz p0.toInt.toNat)) from by have n9 := num_1; have hW := mKW_S hou hat.2.2 (c := p0.toInt.toNat) (by omega); exact ⟨by omega, by omega, by omega, Or.inl ⟨by omega, hW.mpr ⟨by omega, by omega⟩, a1_26, a2_26, kw_26⟩⟩) dX6_sign_31
    · refine lv_aload_n hx hb dX6_sign_16 rfl (lv_at hl 0 rfl) ?_
      refine lv_iconst (v := 1) hx hb dX6_sign_17 (by decide) ?_
      refine lv_aload_n hx hb dX6_sign_18 rfl (lv_at hl 0 rfl) ?_
      have b_30 : 0 ≤ (F 43).toInt ∧ (F 43).toInt ≤ 1000 := hM.fb 43 rfl
      refine mr_get (v := .int (F 43)) E hM 43 (by decide) (index := 141) (mm_at 2 rfl) rfl rfl dX6_sign_19 ?_
      refine mr_calli (av := [.int 1, .int (F 43)]) (rest := []) E hA hml hM (g3_X6_wrong l D h0 q cq F G _ 1 (F 43) hM.2.2.2.1 ) (cwV 2 hts g8_X6_sign_X6_wrong_31 rfl rfl rfl (by decide +kernel) ⟨Nat.le_of_ble_eq_true rfl, Nat.le_of_ble_eq_true rfl⟩) rfl hl.1 rfl (Nat.le_of_ble_eq_true rfl) dX6_sign_22 ⟨Nat.le_of_ble_eq_true rfl, Nat.le_of_ble_eq_true rfl⟩ (by decide) (by decide) (fun r_32 F_34 G_35 H locs fr_36 p_33 hM => ?_)
      replace p_33 : r_32.toInt = 0 := p_33
      have b_37 : 0 ≤ (F_34 40).toInt ∧ (F_34 40).toInt ≤ 1000 := hM.fb 40 rfl
      have e_38 : (F_34 40).toInt = (F 40).toInt := (congrArg Int32.toInt (fr_36.1 40 (by decide))).trans rfl
      have e_39 : (F_34 42).toInt = (F 42).toInt := (congrArg Int32.toInt (fr_36.1 42 (by decide))).trans rfl
      have b_40 : 0 ≤ (F_34 43).toInt ∧ (F_34 43).toInt ≤ 1000 := hM.fb 43 rfl
      have e_41 : (F_34 43).toInt = (F 43).toInt := (congrArg Int32.toInt (fr_36.1 43 (by decide))).trans rfl
      have b_42 : 0 ≤ (F_34 41).toInt ∧ (F_34 41).toInt ≤ 5 := hM.fb 41 rfl
      have e_43 : (F_34 41).toInt = (F 41).toInt := (congrArg Int32.toInt (fr_36.1 41 (by decide))).trans rfl
      exact mr_rz (X := r_32.toInt) E hr hlk hsz hM rfl (by omega) (show (F_34 40).toInt ≤ (F 39).toInt ∧ (F 40).toInt ≤ (F_34 40).toInt ∧ (¬ (F_34 41).toInt = 2 ∨ (65 ≤ (F_34 42).toInt ∧ (F_34 42).toInt ≤ 72)) ∧ ((r_32.toInt = 1 ∧ zS kz nz xz p0.toInt.toNat ∧ (F_34 43).toInt = (ztp kz (zty kz nz xz) : Int) ∧ (F_34 40).toInt = (zty kz nz (zty kz nz xz) : Int) ∧ mKW kz nz (zty kz nz xz) (F_34 41).toInt (F_34 42).toInt) ∨ (r_32.toInt = 0 ∧ ¬ zS kz nz xz p0.toInt.toNat)) from by have hW := mKW_S hou hat.2.2 (c := p0.toInt.toNat) (by omega); exact ⟨by omega, by omega, by omega, Or.inr ⟨by omega, fun w => by have := hW.mp w; omega⟩⟩) dX6_sign_25
def w7X6_number : List Cond := .code yX6_number cX6_number 3 (some .boolean) :: ([.fieldLink RX6 144 "SkiShotsModel" "kind" "I", .fieldLink RX6 155 "SkiShotsModel" "which" "I", .fieldLink RX6 141 "SkiShotsModel" "place" "I", .methodLink RX6 162 yX6_wrong, .instanceMethod yX6_wrong, .selects RX6 yX6_wrong yX6_wrong, .initialized RX6, .code yX6_wrong cX6_wrong 3 (some .boolean), .fieldLink RX6 132 "SkiShotsModel" "fault" "I", .fieldLink RX6 38 "SkiShotsModel" "faultPlace" "I", .fieldLink RX6 169 "SkiShotsModel" "read" "I", .methodLink RX6 166 yX6_take, .instanceMethod yX6_take, .selects RX6 yX6_take yX6_take, .code yX6_take cX6_take 1 none, .fieldLink RX6 138 "SkiShotsModel" "next" "I", .methodLink RX6 158 yX6_isDigit, .instanceMethod yX6_isDigit, .selects RX6 yX6_isDigit yX6_isDigit, .code yX6_isDigit cX6_isDigit 2 (some .boolean), .fieldLink RX6 135 "SkiShotsModel" "size" "I", .fieldLink RX6 7 "SkiShotsModel" "tape" "[I", .constant RX6 161 (99999), .methodLink RX6 147 yX6_isSmall, .instanceMethod yX6_isSmall, .selects RX6 yX6_isSmall yX6_isSmall, .code yX6_isSmall cX6_isSmall 2 (some .boolean), .methodLink RX6 151 yX6_wordAt, .instanceMethod yX6_wordAt, .selects RX6 yX6_wordAt yX6_wordAt, .code yX6_wordAt cX6_wordAt 8 (some .int), .fieldLink RX6 102 "SkiShotsModel" "words" "[I"] ++ wsX60)
set_option maxRecDepth 20000 in
theorem g8_X6_number_X6_wrong_5 : GoodIn w7X6_number (wsV RX6 162 RX6 yX6_wrong w3X6_wrong) := goodIn_p _ [8] rfl (by decide +kernel)
set_option maxRecDepth 20000 in
theorem g8_X6_number_X6_take_20 : GoodIn w7X6_number (wsV RX6 166 RX6 yX6_take w7X6_take) := goodIn_p _ [15, 20, 27, 31] rfl (by decide +kernel)
set_option maxRecDepth 20000 in
theorem g8_X6_number_X6_wrong_34 : GoodIn w7X6_number (wsV RX6 162 RX6 yX6_wrong w3X6_wrong) := goodIn_p _ [8] rfl (by decide +kernel)
set_option maxRecDepth 20000 in
theorem g8_X6_number_X6_wrong_49 : GoodIn w7X6_number (wsV RX6 162 RX6 yX6_wrong w3X6_wrong) := goodIn_p _ [8] rfl (by decide +kernel)
set_option maxHeartbeats 4000000 in
set_option maxRecDepth 100000 in
theorem g7_X6_number (l : Launch) (D : va_G) (h0 : Nat) (q : Nat → Nat) (cq : Nat → ClassId) (F : Nat → Int32) (G : Nat → Nat → Int32) (sz : Nat) (p0 : Int32) (p1 : Int32) (hI : mI F G) (kz : Nat → Nat) (nz : Nat) (xz : Nat) (htx : mTx kz nz F G) (hat : (F 43).toInt = (ztp kz xz : Int) ∧ (F 40).toInt = (zty kz nz xz : Int) ∧ mKW kz nz xz (F 41).toInt (F 42).toInt) (hns : (F 40).toInt ≤ (F 39).toInt) (hk2 : ¬ (F 41).toInt = 2 ∨ (65 ≤ (F 42).toInt ∧ (F 42).toInt ≤ 72)) (kl : p0.toInt ≤ 99999) (kh : p1.toInt ≤ 99999) : Met l yX6_number w7X6_number ({ frames := 2, cells := 0, slots := 0, locals := 47 }) (mPre D h0 q cq F G sz [.ref h0, .int p0, .int p1]) (mQi D h0 q cq F G sz [13, 14, 40, 41, 42, 43, 44] [] (fun r F' G' => (F' 40).toInt ≤ (F 39).toInt ∧ (F 40).toInt ≤ (F' 40).toInt ∧ (¬ (F' 41).toInt = 2 ∨ (65 ≤ (F' 42).toInt ∧ (F' 42).toInt ≤ 72)) ∧ ((r.toInt = 1 ∧ zN kz nz xz p0.toInt p1.toInt (F' 44).toInt ∧ (F' 43).toInt = (ztp kz (zty kz nz xz) : Int) ∧ (F' 40).toInt = (zty kz nz (zty kz nz xz) : Int) ∧ mKW kz nz (zty kz nz xz) (F' 41).toInt (F' 42).toInt) ∨ (r.toInt = 0 ∧ ∀ v : Int, ¬ zN kz nz xz p0.toInt p1.toInt v)))) 0 0 (va_A (mW h0 q cq F G) sz) := by
  refine mr_met (WF := [13, 14, 40, 41, 42, 43, 44]) (WG := []) (cc := cX6_number) (maxL := 3) (ret := (some .boolean)) (by decide) rfl rfl (by decide +kernel) (Nat.le_of_ble_eq_true rfl) hI ?_
  intro p e s m args below meth c ls E hml hr hlk hsz hA hM hl
  have hx := E.1
  have hb := E.2.1
  have hts := E.2.2.1
  have hown := E.2.2.2.2.1
  have hl : lv_has ls 3 [(0, .ref h0), (1, .int p0), (2, .int p1)] := hl
  have hou := mTx_out htx
  have hsz9 := htx.2
  refine lv_aload_n hx hb dX6_number_0 rfl (lv_at hl 0 rfl) ?_
  have b_1 : 0 ≤ (F 41).toInt ∧ (F 41).toInt ≤ 5 := hM.fb 41 rfl
  refine mr_get (v := .int (F 41)) E hM 41 (by decide) (index := 144) (mm_at 1 rfl) rfl rfl dX6_number_1 ?_
  refine lv_iconst (v := 3) hx hb dX6_number_4 (by decide) ?_
  refine mm_icmp_eq (X := (F 41).toInt) (Y := 3) (tgt := 18) hx hb dX6_number_5 (by decide) rfl num_3 (fun c_2 => ?_) (fun c_2 => ?_)
  · refine lv_aload_n hx hb dX6_number_18 rfl (lv_at hl 0 rfl) ?_
    refine mr_get (v := .int (F 42)) E hM 42 (by decide) (index := 155) (mm_at 2 rfl) rfl rfl dX6_number_19 ?_
    refine lv_iload_n hx hb dX6_number_22 rfl (lv_at hl 1 rfl) ?_
    refine mm_icmp_lt (X := (F 42).toInt) (Y := p0.toInt) (tgt := 34) hx hb dX6_number_23 (by decide) rfl rfl (fun c_3 => ?_) (fun c_3 => ?_)
    · refine lv_aload_n hx hb dX6_number_34 rfl (lv_at hl 0 rfl) ?_
      refine lv_iconst (v := 2) hx hb dX6_number_35 (by decide) ?_
      refine lv_aload_n hx hb dX6_number_36 rfl (lv_at hl 0 rfl) ?_
      have b_4 : 0 ≤ (F 43).toInt ∧ (F 43).toInt ≤ 1000 := hM.fb 43 rfl
      refine mr_get (v := .int (F 43)) E hM 43 (by decide) (index := 141) (mm_at 3 rfl) rfl rfl dX6_number_37 ?_
      refine mr_calli (av := [.int 2, .int (F 43)]) (rest := []) E hA hml hM (g3_X6_wrong l D h0 q cq F G _ 2 (F 43) hM.2.2.2.1 ) (cwV 2 hts g8_X6_number_X6_wrong_5 rfl rfl rfl (by decide +kernel) ⟨Nat.le_of_ble_eq_true rfl, Nat.le_of_ble_eq_true rfl⟩) rfl hl.1 rfl (Nat.le_of_ble_eq_true rfl) dX6_number_40 ⟨Nat.le_of_ble_eq_true rfl, Nat.le_of_ble_eq_true rfl⟩ (by decide) (by decide) (fun r_6 F_8 G_9 H locs fr_10 p_7 hM => ?_)
      replace p_7 : r_6.toInt = 0 := p_7
      have b_11 : 0 ≤ (F_8 40).toInt ∧ (F_8 40).toInt ≤ 1000 := hM.fb 40 rfl
      have e_12 : (F_8 40).toInt = (F 40).toInt := (congrArg Int32.toInt (fr_10.1 40 (by decide))).trans rfl
      have e_13 : (F_8 42).toInt = (F 42).toInt := (congrArg Int32.toInt (fr_10.1 42 (by decide))).trans rfl
      have b_14 : 0 ≤ (F_8 43).toInt ∧ (F_8 43).toInt ≤ 1000 := hM.fb 43 rfl
      have e_15 : (F_8 43).toInt = (F 43).toInt := (congrArg Int32.toInt (fr_10.1 43 (by decide))).trans rfl
      have e_16 : (F_8 44).toInt = (F 44).toInt := (congrArg Int32.toInt (fr_10.1 44 (by decide))).trans rfl
      have b_17 : 0 ≤ (F_8 41).toInt ∧ (F_8 41).toInt ≤ 5 := hM.fb 41 rfl
      have e_18 : (F_8 41).toInt = (F 41).toInt := (congrArg Int32.toInt (fr_10.1 41 (by decide))).trans rfl
      exact mr_rz (X := r_6.toInt) E hr hlk hsz hM rfl (by omega) (show (F_8 40).toInt ≤ (F 39).toInt ∧ (F 40).toInt ≤ (F_8 40).toInt ∧ (¬ (F_8 41).toInt = 2 ∨ (65 ≤ (F_8 42).toInt ∧ (F_8 42).toInt ≤ 72)) ∧ ((r_6.toInt = 1 ∧ zN kz nz xz p0.toInt p1.toInt (F_8 44).toInt ∧ (F_8 43).toInt = (ztp kz (zty kz nz xz) : Int) ∧ (F_8 40).toInt = (zty kz nz (zty kz nz xz) : Int) ∧ mKW kz nz (zty kz nz xz) (F_8 41).toInt (F_8 42).toInt) ∨ (r_6.toInt = 0 ∧ ∀ v : Int, ¬ zN kz nz xz p0.toInt p1.toInt v)) from by have hN := mKW_N hou hat.2.2; have hN1 := hN.1; have hN2 := hN.2; exact ⟨by omega, by omega, by omega, Or.inr ⟨by omega, fun v h => by have h1 := hN1.mp h.1; have h2 := h.2.1; have h3 := h.2.2.1; have h4 := h.2.2.2; omega⟩⟩) dX6_number_43
    · refine lv_aload_n hx hb dX6_number_26 rfl (lv_at hl 0 rfl) ?_
      refine mr_get (v := .int (F 42)) E hM 42 (by decide) (index := 155) (mm_at 2 rfl) rfl rfl dX6_number_27 ?_
      refine lv_iload_n hx hb dX6_number_30 rfl (lv_at hl 2 rfl) ?_
      refine mm_icmp_le (X := (F 42).toInt) (Y := p1.toInt) (tgt := 44) hx hb dX6_number_31 (by decide) rfl rfl (fun c_19 => ?_) (fun c_19 => ?_)
      · refine lv_aload_n hx hb dX6_number_44 rfl (lv_at hl 0 rfl) ?_
        refine lv_aload_n hx hb dX6_number_45 rfl (lv_at hl 0 rfl) ?_
        refine mr_get (v := .int (F 42)) E hM 42 (by decide) (index := 155) (mm_at 2 rfl) rfl rfl dX6_number_46 ?_
        refine mr_put (v := (F 42)) E hM 44 (by decide) (index := 169) (mm_at 11 rfl) rfl rfl (by decide +kernel) ms_44 (mm_nb rfl) (by decide) dX6_number_49 (fun H locs hM => ?_)
        refine lv_aload_n hx hb dX6_number_52 rfl (lv_at hl 0 rfl) ?_
        have b_21 : 0 ≤ (F 40).toInt ∧ (F 40).toInt ≤ 1000 := hM.fb 40 rfl
        have b_22 : 0 ≤ (F 39).toInt ∧ (F 39).toInt ≤ 1000 := hM.fb 39 rfl
        refine mr_callv (av := []) (rest := []) E hA hml hM (g7_X6_take l D h0 q cq (upd F 44 (F 42)) G _  hM.2.2.2.1 kz nz (zty kz nz xz) (mTx_fr htx hM.fr (by decide) (by decide)) (show (F 40).toInt = ((zty kz nz xz) : Int) from by omega) (show (F 40).toInt ≤ (F 39).toInt from by omega)) (cwV 0 hts g8_X6_number_X6_take_20 rfl rfl rfl (by decide +kernel) ⟨Nat.le_of_ble_eq_true rfl, Nat.le_of_ble_eq_true rfl⟩) rfl hl.1 rfl (Nat.le_of_ble_eq_true rfl) dX6_number_53 ⟨Nat.le_of_ble_eq_true rfl, Nat.le_of_ble_eq_true rfl⟩ (by decide) (by decide) (fun F_25 G_26 H locs fr_27 p_24 hM => ?_)
        replace p_24 : (F_25 40).toInt ≤ (F 39).toInt ∧ (F 40).toInt ≤ (F_25 40).toInt ∧ ((F_25 41).toInt = 0 ∨ (F 40).toInt < (F_25 40).toInt) ∧ (¬ (F_25 41).toInt = 2 ∨ (65 ≤ (F_25 42).toInt ∧ (F_25 42).toInt ≤ 72)) ∧ (F_25 43).toInt = (ztp kz (zty kz nz xz) : Int) ∧ (F_25 40).toInt = (zty kz nz (zty kz nz xz) : Int) ∧ mKW kz nz (zty kz nz xz) (F_25 41).toInt (F_25 42).toInt := p_24
        rcases p_24 with ⟨t1_28, t2_28, t3_28, t4_28, a1_28, a2_28, kw_28⟩
        refine lv_iconst (v := 1) hx hb dX6_number_56 (by decide) ?_
        have b_29 : 0 ≤ (F_25 40).toInt ∧ (F_25 40).toInt ≤ 1000 := hM.fb 40 rfl
        have b_30 : 0 ≤ (F_25 43).toInt ∧ (F_25 43).toInt ≤ 1000 := hM.fb 43 rfl
        have e_31 : (F_25 44).toInt = (F 42).toInt := (congrArg Int32.toInt (fr_27.1 44 (by decide))).trans rfl
        have b_32 : 0 ≤ (F_25 41).toInt ∧ (F_25 41).toInt ≤ 5 := hM.fb 41 rfl
        exact mr_rz (X := 1) E hr hlk hsz hM num_1 (by omega) (show (F_25 40).toInt ≤ (F 39).toInt ∧ (F 40).toInt ≤ (F_25 40).toInt ∧ (¬ (F_25 41).toInt = 2 ∨ (65 ≤ (F_25 42).toInt ∧ (F_25 42).toInt ≤ 72)) ∧ (((1 : Int32).toInt = 1 ∧ zN kz nz xz p0.toInt p1.toInt (F_25 44).toInt ∧ (F_25 43).toInt = (ztp kz (zty kz nz xz) : Int) ∧ (F_25 40).toInt = (zty kz nz (zty kz nz xz) : Int) ∧ mKW kz nz (zty kz nz xz) (F_25 41).toInt (F_25 42).toInt) ∨ ((1 : Int32).toInt = 0 ∧ ∀ v : Int, ¬ zN kz nz xz p0.toInt p1.toInt v)) from by have n9 := num_1; have hN := mKW_N hou hat.2.2; have hN1 := hN.1; have hN2 := hN.2; exact ⟨by omega, by omega, by omega, Or.inl ⟨by omega, ⟨hN1.mpr (by omega), by omega, by omega, by omega⟩, a1_28, a2_28, kw_28⟩⟩) dX6_number_57
      · refine lv_aload_n hx hb dX6_number_34 rfl (lv_at hl 0 rfl) ?_
        refine lv_iconst (v := 2) hx hb dX6_number_35 (by decide) ?_
        refine lv_aload_n hx hb dX6_number_36 rfl (lv_at hl 0 rfl) ?_
        have b_33 : 0 ≤ (F 43).toInt ∧ (F 43).toInt ≤ 1000 := hM.fb 43 rfl
        refine mr_get (v := .int (F 43)) E hM 43 (by decide) (index := 141) (mm_at 3 rfl) rfl rfl dX6_number_37 ?_
        refine mr_calli (av := [.int 2, .int (F 43)]) (rest := []) E hA hml hM (g3_X6_wrong l D h0 q cq F G _ 2 (F 43) hM.2.2.2.1 ) (cwV 2 hts g8_X6_number_X6_wrong_34 rfl rfl rfl (by decide +kernel) ⟨Nat.le_of_ble_eq_true rfl, Nat.le_of_ble_eq_true rfl⟩) rfl hl.1 rfl (Nat.le_of_ble_eq_true rfl) dX6_number_40 ⟨Nat.le_of_ble_eq_true rfl, Nat.le_of_ble_eq_true rfl⟩ (by decide) (by decide) (fun r_35 F_37 G_38 H locs fr_39 p_36 hM => ?_)
        replace p_36 : r_35.toInt = 0 := p_36
        have b_40 : 0 ≤ (F_37 40).toInt ∧ (F_37 40).toInt ≤ 1000 := hM.fb 40 rfl
        have e_41 : (F_37 40).toInt = (F 40).toInt := (congrArg Int32.toInt (fr_39.1 40 (by decide))).trans rfl
        have e_42 : (F_37 42).toInt = (F 42).toInt := (congrArg Int32.toInt (fr_39.1 42 (by decide))).trans rfl
        have b_43 : 0 ≤ (F_37 43).toInt ∧ (F_37 43).toInt ≤ 1000 := hM.fb 43 rfl
        have e_44 : (F_37 43).toInt = (F 43).toInt := (congrArg Int32.toInt (fr_39.1 43 (by decide))).trans rfl
        have e_45 : (F_37 44).toInt = (F 44).toInt := (congrArg Int32.toInt (fr_39.1 44 (by decide))).trans rfl
        have b_46 : 0 ≤ (F_37 41).toInt ∧ (F_37 41).toInt ≤ 5 := hM.fb 41 rfl
        have e_47 : (F_37 41).toInt = (F 41).toInt := (congrArg Int32.toInt (fr_39.1 41 (by decide))).trans rfl
        exact mr_rz (X := r_35.toInt) E hr hlk hsz hM rfl (by omega) (show (F_37 40).toInt ≤ (F 39).toInt ∧ (F 40).toInt ≤ (F_37 40).toInt ∧ (¬ (F_37 41).toInt = 2 ∨ (65 ≤ (F_37 42).toInt ∧ (F_37 42).toInt ≤ 72)) ∧ ((r_35.toInt = 1 ∧ zN kz nz xz p0.toInt p1.toInt (F_37 44).toInt ∧ (F_37 43).toInt = (ztp kz (zty kz nz xz) : Int) ∧ (F_37 40).toInt = (zty kz nz (zty kz nz xz) : Int) ∧ mKW kz nz (zty kz nz xz) (F_37 41).toInt (F_37 42).toInt) ∨ (r_35.toInt = 0 ∧ ∀ v : Int, ¬ zN kz nz xz p0.toInt p1.toInt v)) from by have hN := mKW_N hou hat.2.2; have hN1 := hN.1; have hN2 := hN.2; exact ⟨by omega, by omega, by omega, Or.inr ⟨by omega, fun v h => by have h1 := hN1.mp h.1; have h2 := h.2.1; have h3 := h.2.2.1; have h4 := h.2.2.2; omega⟩⟩) dX6_number_43
  · refine lv_aload_n hx hb dX6_number_8 rfl (lv_at hl 0 rfl) ?_
    refine lv_iconst (v := 1) hx hb dX6_number_9 (by decide) ?_
    refine lv_aload_n hx hb dX6_number_10 rfl (lv_at hl 0 rfl) ?_
    have b_48 : 0 ≤ (F 43).toInt ∧ (F 43).toInt ≤ 1000 := hM.fb 43 rfl
    refine mr_get (v := .int (F 43)) E hM 43 (by decide) (index := 141) (mm_at 3 rfl) rfl rfl dX6_number_11 ?_
    refine mr_calli (av := [.int 1, .int (F 43)]) (rest := []) E hA hml hM (g3_X6_wrong l D h0 q cq F G _ 1 (F 43) hM.2.2.2.1 ) (cwV 2 hts g8_X6_number_X6_wrong_49 rfl rfl rfl (by decide +kernel) ⟨Nat.le_of_ble_eq_true rfl, Nat.le_of_ble_eq_true rfl⟩) rfl hl.1 rfl (Nat.le_of_ble_eq_true rfl) dX6_number_14 ⟨Nat.le_of_ble_eq_true rfl, Nat.le_of_ble_eq_true rfl⟩ (by decide) (by decide) (fun r_50 F_52 G_53 H locs fr_54 p_51 hM => ?_)
    replace p_51 : r_50.toInt = 0 := p_51
    have b_55 : 0 ≤ (F_52 40).toInt ∧ (F_52 40).toInt ≤ 1000 := hM.fb 40 rfl
    have e_56 : (F_52 40).toInt = (F 40).toInt := (congrArg Int32.toInt (fr_54.1 40 (by decide))).trans rfl
    have e_57 : (F_52 42).toInt = (F 42).toInt := (congrArg Int32.toInt (fr_54.1 42 (by decide))).trans rfl
    have b_58 : 0 ≤ (F_52 43).toInt ∧ (F_52 43).toInt ≤ 1000 := hM.fb 43 rfl
    have e_59 : (F_52 43).toInt = (F 43).toInt := (congrArg Int32.toInt (fr_54.1 43 (by decide))).trans rfl
    have e_60 : (F_52 44).toInt = (F 44).toInt := (congrArg Int32.toInt (fr_54.1 44 (by decide))).trans rfl
    have b_61 : 0 ≤ (F_52 41).toInt ∧ (F_52 41).toInt ≤ 5 := hM.fb 41 rfl
    have e_62 : (F_52 41).toInt = (F 41).toInt := (congrArg Int32.toInt (fr_54.1 41 (by decide))).trans rfl
    exact mr_rz (X := r_50.toInt) E hr hlk hsz hM rfl (by omega) (show (F_52 40).toInt ≤ (F 39).toInt ∧ (F 40).toInt ≤ (F_52 40).toInt ∧ (¬ (F_52 41).toInt = 2 ∨ (65 ≤ (F_52 42).toInt ∧ (F_52 42).toInt ≤ 72)) ∧ ((r_50.toInt = 1 ∧ zN kz nz xz p0.toInt p1.toInt (F_52 44).toInt ∧ (F_52 43).toInt = (ztp kz (zty kz nz xz) : Int) ∧ (F_52 40).toInt = (zty kz nz (zty kz nz xz) : Int) ∧ mKW kz nz (zty kz nz xz) (F_52 41).toInt (F_52 42).toInt) ∨ (r_50.toInt = 0 ∧ ∀ v : Int, ¬ zN kz nz xz p0.toInt p1.toInt v)) from by have hN := mKW_N hou hat.2.2; have hN1 := hN.1; have hN2 := hN.2; exact ⟨by omega, by omega, by omega, Or.inr ⟨by omega, fun v h => by have h1 := hN1.mp h.1; have h2 := h.2.1; have h3 := h.2.2.1; have h4 := h.2.2.2; omega⟩⟩) dX6_number_17
def w7X6_shots : List Cond := .code yX6_shots cX6_shots 4 (some .boolean) :: ([.fieldLink RX6 144 "SkiShotsModel" "kind" "I", .fieldLink RX6 16 "SkiShotsModel" "shootMany" "[I", .fieldLink RX6 141 "SkiShotsModel" "place" "I", .methodLink RX6 162 yX6_wrong, .instanceMethod yX6_wrong, .selects RX6 yX6_wrong yX6_wrong, .initialized RX6, .code yX6_wrong cX6_wrong 3 (some .boolean), .fieldLink RX6 132 "SkiShotsModel" "fault" "I", .fieldLink RX6 38 "SkiShotsModel" "faultPlace" "I", .fieldLink RX6 155 "SkiShotsModel" "which" "I", .fieldLink RX6 13 "SkiShotsModel" "laps" "[I", .fieldLink RX6 19 "SkiShotsModel" "shoot" "[I", .methodLink RX6 166 yX6_take, .instanceMethod yX6_take, .selects RX6 yX6_take yX6_take, .code yX6_take cX6_take 1 none, .fieldLink RX6 138 "SkiShotsModel" "next" "I", .methodLink RX6 158 yX6_isDigit, .instanceMethod yX6_isDigit, .selects RX6 yX6_isDigit yX6_isDigit, .code yX6_isDigit cX6_isDigit 2 (some .boolean), .fieldLink RX6 135 "SkiShotsModel" "size" "I", .fieldLink RX6 7 "SkiShotsModel" "tape" "[I", .constant RX6 161 (99999), .methodLink RX6 147 yX6_isSmall, .instanceMethod yX6_isSmall, .selects RX6 yX6_isSmall yX6_isSmall, .code yX6_isSmall cX6_isSmall 2 (some .boolean), .methodLink RX6 151 yX6_wordAt, .instanceMethod yX6_wordAt, .selects RX6 yX6_wordAt yX6_wordAt, .code yX6_wordAt cX6_wordAt 8 (some .int), .fieldLink RX6 102 "SkiShotsModel" "words" "[I"] ++ wsX60)
set_option maxRecDepth 20000 in
theorem g8_X6_shots_X6_wrong_10 : GoodIn w7X6_shots (wsV RX6 162 RX6 yX6_wrong w3X6_wrong) := goodIn_p _ [8] rfl (by decide +kernel)
set_option maxRecDepth 20000 in
theorem g8_X6_shots_X6_wrong_25 : GoodIn w7X6_shots (wsV RX6 162 RX6 yX6_wrong w3X6_wrong) := goodIn_p _ [8] rfl (by decide +kernel)
set_option maxRecDepth 20000 in
theorem g8_X6_shots_X6_take_46 : GoodIn w7X6_shots (wsV RX6 166 RX6 yX6_take w7X6_take) := goodIn_p _ [17, 22, 29, 33] rfl (by decide +kernel)
set_option maxRecDepth 20000 in
theorem g8_X6_shots_X6_wrong_63 : GoodIn w7X6_shots (wsV RX6 162 RX6 yX6_wrong w3X6_wrong) := goodIn_p _ [8] rfl (by decide +kernel)
set_option maxRecDepth 20000 in
theorem g8_X6_shots_X6_wrong_77 : GoodIn w7X6_shots (wsV RX6 162 RX6 yX6_wrong w3X6_wrong) := goodIn_p _ [8] rfl (by decide +kernel)
set_option maxHeartbeats 4000000 in
set_option maxRecDepth 100000 in
theorem g7_X6_shots (l : Launch) (D : va_G) (h0 : Nat) (q : Nat → Nat) (cq : Nat → ClassId) (F : Nat → Int32) (G : Nat → Nat → Int32) (sz : Nat) (p0 : Int32) (hI : mI F G) (kz : Nat → Nat) (nz : Nat) (xz : Nat) (htx : mTx kz nz F G) (hat : (F 43).toInt = (ztp kz xz : Int) ∧ (F 40).toInt = (zty kz nz xz : Int) ∧ mKW kz nz xz (F 41).toInt (F 42).toInt) (k0 : 8 ≤ p0.toInt ∧ p0.toInt < 16) (hns : (F 40).toInt ≤ (F 39).toInt) (hk2 : ¬ (F 41).toInt = 2 ∨ (65 ≤ (F 42).toInt ∧ (F 42).toInt ≤ 72)) (hla : 1 ≤ (G 5 (Int32.toNatClampNeg p0)).toInt ∧ (G 5 (Int32.toNatClampNeg p0)).toInt ≤ 6) : Met l yX6_shots w7X6_shots ({ frames := 2, cells := 0, slots := 0, locals := 47 }) (mPre D h0 q cq F G sz [.ref h0, .int p0]) (mQi D h0 q cq F G sz [13, 14, 40, 41, 42, 43] [6, 7] (fun r F' G' => (F' 40).toInt ≤ (F 39).toInt ∧ (F 40).toInt ≤ (F' 40).toInt ∧ (¬ (F' 41).toInt = 2 ∨ (65 ≤ (F' 42).toInt ∧ (F' 42).toInt ≤ 72)) ∧ ((r.toInt = 1 ∧ ∃ c : Nat, zsh kz nz xz (G 5 (Int32.toNatClampNeg p0)).toInt c ∧ (G' 6 (Int32.toNatClampNeg p0)).toInt = (c : Int) ∧ (F' 43).toInt = (ztp kz (zit kz nz c xz) : Int) ∧ (F' 40).toInt = (zty kz nz (zit kz nz c xz) : Int) ∧ mKW kz nz (zit kz nz c xz) (F' 41).toInt (F' 42).toInt) ∨ (r.toInt = 0 ∧ ∀ c : Nat, ¬ zsh kz nz xz (G 5 (Int32.toNatClampNeg p0)).toInt c)) ∧ (∀ j : Nat, ¬ j = (Int32.toNatClampNeg p0) → G' 6 j = G 6 j))) 0 0 (va_A (mW h0 q cq F G) sz) := by
  refine mr_met (WF := [13, 14, 40, 41, 42, 43]) (WG := [6, 7]) (cc := cX6_shots) (maxL := 4) (ret := (some .boolean)) (by decide) rfl rfl (by decide +kernel) (Nat.le_of_ble_eq_true rfl) hI ?_
  intro p e s m args below meth c ls E hml hr hlk hsz hA hM hl
  have hx := E.1
  have hb := E.2.1
  have hts := E.2.2.1
  have hown := E.2.2.2.2.1
  have hl : lv_has ls 4 [(0, .ref h0), (1, .int p0)] := hl
  have hou := mTx_out htx
  have hsz9 := htx.2
  have B_11 : ∀ n_11 : Nat, ∀ (H : Heap) (locs : List Loc) (ls : Array Slot) (Fc_11 : Nat → Int32) (Gc_11 : Nat → Nat → Int32) (la mo : Int32), (Fc_11 40).toInt ≤ (F 39).toInt → (F 40).toInt ≤ (Fc_11 40).toInt → ¬ (Fc_11 41).toInt = 2 ∨ (65 ≤ (Fc_11 42).toInt ∧ (Fc_11 42).toInt ≤ 72) → (Fc_11 43).toInt = (ztp kz (zit kz nz ((Gc_11 6 (Int32.toNatClampNeg p0)).toInt.toNat) xz) : Int) → (Fc_11 40).toInt = (zty kz nz (zit kz nz ((Gc_11 6 (Int32.toNatClampNeg p0)).toInt.toNat) xz) : Int) → mKW kz nz (zit kz nz ((Gc_11 6 (Int32.toNatClampNeg p0)).toInt.toNat) xz) (Fc_11 41).toInt (Fc_11 42).toInt → (mo.toInt = 1 ∧ ((Gc_11 6 (Int32.toNatClampNeg p0)).toInt = 0 ∨ (Fc_11 41).toInt = 3)) ∨ (mo.toInt = 0 ∧ 1 ≤ (Gc_11 6 (Int32.toNatClampNeg p0)).toInt ∧ ¬ (Fc_11 41).toInt = 3) → ((Gc_11 6 (Int32.toNatClampNeg p0)).toInt = 0 ∧ la.toInt = 0) ∨ (1 ≤ (Gc_11 6 (Int32.toNatClampNeg p0)).toInt ∧ la.toInt = (zV kz nz (zit kz nz ((Gc_11 6 (Int32.toNatClampNeg p0)).toInt.toNat - 1) xz) : Int)) → zshp kz nz xz (G 5 (Int32.toNatClampNeg p0)).toInt ((Gc_11 6 (Int32.toNatClampNeg p0)).toInt.toNat) → (∀ j : Nat, ¬ j = (Int32.toNatClampNeg p0) → Gc_11 6 j = G 6 j) → (5 - (Gc_11 6 (Int32.toNatClampNeg p0)).toInt) < (n_11 : Int) → mQ D h0 q cq (va_A (mW h0 q cq F G) sz) s.heap [13, 14, 40, 41, 42, 43] [6, 7] F G H locs Fc_11 Gc_11 → lv_has ls 4 [(0, .ref h0), (1, .int p0), (2, .int la), (3, .int mo)] → W p l e ({ frames := 2, cells := 0, slots := 0, locals := 47 }) s m args below meth c H locs 0 0 (MQ below (mQi D h0 q cq F G sz [13, 14, 40, 41, 42, 43] [6, 7] (fun r F' G' => (F' 40).toInt ≤ (F 39).toInt ∧ (F 40).toInt ≤ (F' 40).toInt ∧ (¬ (F' 41).toInt = 2 ∨ (65 ≤ (F' 42).toInt ∧ (F' 42).toInt ≤ 72)) ∧ ((r.toInt = 1 ∧ ∃ c : Nat, zsh kz nz xz (G 5 (Int32.toNatClampNeg p0)).toInt c ∧ (G' 6 (Int32.toNatClampNeg p0)).toInt = (c : Int) ∧ (F' 43).toInt = (ztp kz (zit kz nz c xz) : Int) ∧ (F' 40).toInt = (zty kz nz (zit kz nz c xz) : Int) ∧ mKW kz nz (zit kz nz c xz) (F' 41).toInt (F' 42).toInt) ∨ (r.toInt = 0 ∧ ∀ c : Nat, ¬ zsh kz nz xz (G 5 (Int32.toNatClampNeg p0)).toInt c)) ∧ (∀ j : Nat, ¬ j = (Int32.toNatClampNeg p0) → G' 6 j = G 6 j))) args s 0 0 (va_A (mW h0 q cq F G) sz)) (F0 m 11 ls []) := by
    intro n_11
    induction n_11 with
    | zero => intro H locs ls Fc_11 Gc_11 la mo f11_0 f11_1 f11_2 f11_3 f11_4 f11_5 f11_6 f11_7 f11_8 f11_9 hn hM hl; exact False.elim (by have hfr_11 := hM.fr; have h6 := hM.ab 6 rfl (Int32.toNatClampNeg p0); omega)
    | succ n_11 ih_11 =>
      intro H locs ls Fc_11 Gc_11 la mo f11_0 f11_1 f11_2 f11_3 f11_4 f11_5 f11_6 f11_7 f11_8 f11_9 hn hM hl
      have hfr_11 := hM.fr
      have h6b := hM.ab 6 rfl (Int32.toNatClampNeg p0)
      refine lv_iload_n hx hb dX6_shots_11 rfl (lv_at hl 3 rfl) ?_
      refine mm_if_eq (X := mo.toInt) (tgt := 129) hx hb dX6_shots_12 (by decide) rfl (fun c_1 => ?_) (fun c_1 => ?_)
      · refine lv_iconst (v := 1) hx hb dX6_shots_129 (by decide) ?_
        have b_2 : 0 ≤ (Fc_11 40).toInt ∧ (Fc_11 40).toInt ≤ 1000 := hM.fb 40 rfl
        have b_3 : 0 ≤ (Fc_11 43).toInt ∧ (Fc_11 43).toInt ≤ 1000 := hM.fb 43 rfl
        have b_4 : 0 ≤ (Fc_11 41).toInt ∧ (Fc_11 41).toInt ≤ 5 := hM.fb 41 rfl
        exact mr_rz (X := 1) E hr hlk hsz hM num_1 (by omega) (show (Fc_11 40).toInt ≤ (F 39).toInt ∧ (F 40).toInt ≤ (Fc_11 40).toInt ∧ (¬ (Fc_11 41).toInt = 2 ∨ (65 ≤ (Fc_11 42).toInt ∧ (Fc_11 42).toInt ≤ 72)) ∧ (((1 : Int32).toInt = 1 ∧ ∃ c : Nat, zsh kz nz xz (G 5 (Int32.toNatClampNeg p0)).toInt c ∧ (Gc_11 6 (Int32.toNatClampNeg p0)).toInt = (c : Int) ∧ (Fc_11 43).toInt = (ztp kz (zit kz nz c xz) : Int) ∧ (Fc_11 40).toInt = (zty kz nz (zit kz nz c xz) : Int) ∧ mKW kz nz (zit kz nz c xz) (Fc_11 41).toInt (Fc_11 42).toInt) ∨ ((1 : Int32).toInt = 0 ∧ ∀ c : Nat, ¬ zsh kz nz xz (G 5 (Int32.toNatClampNeg p0)).toInt c)) ∧ (∀ j : Nat, ¬ j = (Int32.toNatClampNeg p0) → Gc_11 6 j = G 6 j) from by have n9 := num_1; have hN := mKW_N hou f11_5; have hN1 := hN.1; have hN2 := hN.2; exact ⟨by omega, by omega, by omega, Or.inl ⟨by omega, ((Gc_11 6 (Int32.toNatClampNeg p0)).toInt).toNat, ⟨by omega, by omega, f11_8, fun q => by have := hN1.mp q; omega⟩, by omega, f11_3, f11_4, f11_5⟩, (fun j hj => (show Gc_11 6 j = Gc_11 6 j from congrFun (show Gc_11 6 = Gc_11 6 from rfl) j).trans (f11_9 j hj))⟩) dX6_shots_130
      · refine lv_aload_n hx hb dX6_shots_15 rfl (lv_at hl 0 rfl) ?_
        have b_5 : 0 ≤ (Fc_11 41).toInt ∧ (Fc_11 41).toInt ≤ 5 := hM.fb 41 rfl
        refine mr_get (v := .int (Fc_11 41)) E hM 41 (by decide) (index := 144) (mm_at 1 rfl) rfl rfl dX6_shots_16 ?_
        refine lv_iconst (v := 3) hx hb dX6_shots_19 (by decide) ?_
        refine mm_icmp_eq (X := (Fc_11 41).toInt) (Y := 3) (tgt := 33) hx hb dX6_shots_20 (by decide) rfl num_3 (fun c_6 => ?_) (fun c_6 => ?_)
        · refine lv_aload_n hx hb dX6_shots_33 rfl (lv_at hl 0 rfl) ?_
          refine mr_get (v := .ref (q 6)) E hM 6 (by decide) (index := 16) (mm_at 2 rfl) rfl rfl dX6_shots_34 ?_
          refine lv_iload_n hx hb dX6_shots_37 rfl (lv_at hl 1 rfl) ?_
          refine mr_ald (X := p0.toInt) E hM 3 2 rfl rfl rfl (by omega) dX6_shots_38 ?_
          have b_7 : 0 ≤ (Gc_11 6 (Int32.toNatClampNeg p0)).toInt ∧ (Gc_11 6 (Int32.toNatClampNeg p0)).toInt ≤ 4 := hM.ab 6 rfl _
          refine lv_iconst (v := 4) hx hb dX6_shots_39 (by decide) ?_
          refine mm_icmp_eq (X := (Gc_11 6 (Int32.toNatClampNeg p0)).toInt) (Y := 4) (tgt := 64) hx hb dX6_shots_40 (by decide) rfl num_4 (fun c_8 => ?_) (fun c_8 => ?_)
          · refine lv_aload_n hx hb dX6_shots_64 rfl (lv_at hl 0 rfl) ?_
            refine lv_iconst (v := 2) hx hb dX6_shots_65 (by decide) ?_
            refine lv_aload_n hx hb dX6_shots_66 rfl (lv_at hl 0 rfl) ?_
            have b_9 : 0 ≤ (Fc_11 43).toInt ∧ (Fc_11 43).toInt ≤ 1000 := hM.fb 43 rfl
            refine mr_get (v := .int (Fc_11 43)) E hM 43 (by decide) (index := 141) (mm_at 3 rfl) rfl rfl dX6_shots_67 ?_
            refine mr_calli (av := [.int 2, .int (Fc_11 43)]) (rest := []) E hA hml hM (g3_X6_wrong l D h0 q cq Fc_11 Gc_11 _ 2 (Fc_11 43) hM.2.2.2.1 ) (cwV 2 hts g8_X6_shots_X6_wrong_10 rfl rfl rfl (by decide +kernel) ⟨Nat.le_of_ble_eq_true rfl, Nat.le_of_ble_eq_true rfl⟩) rfl hl.1 rfl (Nat.le_of_ble_eq_true rfl) dX6_shots_70 ⟨Nat.le_of_ble_eq_true rfl, Nat.le_of_ble_eq_true rfl⟩ (by decide) (by decide) (fun r_11 F_13 G_14 H locs fr_15 p_12 hM => ?_)
            replace p_12 : r_11.toInt = 0 := p_12
            have b_16 : 0 ≤ (F_13 40).toInt ∧ (F_13 40).toInt ≤ 1000 := hM.fb 40 rfl
            have e_17 : (F_13 40).toInt = (Fc_11 40).toInt := (congrArg Int32.toInt (fr_15.1 40 (by decide))).trans rfl
            have e_18 : (F_13 42).toInt = (Fc_11 42).toInt := (congrArg Int32.toInt (fr_15.1 42 (by decide))).trans rfl
            have b_19 : 0 ≤ (F_13 43).toInt ∧ (F_13 43).toInt ≤ 1000 := hM.fb 43 rfl
            have e_20 : (F_13 43).toInt = (Fc_11 43).toInt := (congrArg Int32.toInt (fr_15.1 43 (by decide))).trans rfl
            have b_21 : 0 ≤ (F_13 41).toInt ∧ (F_13 41).toInt ≤ 5 := hM.fb 41 rfl
            have e_22 : (F_13 41).toInt = (Fc_11 41).toInt := (congrArg Int32.toInt (fr_15.1 41 (by decide))).trans rfl
            exact mr_rz (X := r_11.toInt) E hr hlk hsz hM rfl (by omega) (show (F_13 40).toInt ≤ (F 39).toInt ∧ (F 40).toInt ≤ (F_13 40).toInt ∧ (¬ (F_13 41).toInt = 2 ∨ (65 ≤ (F_13 42).toInt ∧ (F_13 42).toInt ≤ 72)) ∧ ((r_11.toInt = 1 ∧ ∃ c : Nat, zsh kz nz xz (G 5 (Int32.toNatClampNeg p0)).toInt c ∧ (G_14 6 (Int32.toNatClampNeg p0)).toInt = (c : Int) ∧ (F_13 43).toInt = (ztp kz (zit kz nz c xz) : Int) ∧ (F_13 40).toInt = (zty kz nz (zit kz nz c xz) : Int) ∧ mKW kz nz (zit kz nz c xz) (F_13 41).toInt (F_13 42).toInt) ∨ (r_11.toInt = 0 ∧ ∀ c : Nat, ¬ zsh kz nz xz (G 5 (Int32.toNatClampNeg p0)).toInt c)) ∧ (∀ j : Nat, ¬ j = (Int32.toNatClampNeg p0) → G_14 6 j = G 6 j) from by have hN := mKW_N hou f11_5; have hN1 := hN.1; have hN2 := hN.2; have g5e : (Gc_11 5 (Int32.toNatClampNeg p0)).toInt = (G 5 (Int32.toNatClampNeg p0)).toInt := congrArg Int32.toInt (congrFun (hfr_11.2 5 (by decide)) _); exact ⟨by omega, by omega, by omega, Or.inr ⟨by omega, (if h4 : (Gc_11 6 (Int32.toNatClampNeg p0)).toInt = 4 ∧ zso kz nz (ztp kz (zit kz nz ((Gc_11 6 (Int32.toNatClampNeg p0)).toInt).toNat xz)) = 2 then zsh_not4 (by rw [← show ((Gc_11 6 (Int32.toNatClampNeg p0)).toInt).toNat = 4 from by omega]; exact f11_8) (by rw [← show ((Gc_11 6 (Int32.toNatClampNeg p0)).toInt).toNat = 4 from by omega]; exact h4.2) else zsh_not f11_8 (fun q => by have q1 := zsh1_to (lo := la.toInt + 1) (hi := (G 5 (Int32.toNatClampNeg p0)).toInt - 1) q (by omega) rfl; have q2 := hN1.mp q1.1; have q3 := q1.2.1; have q4 := q1.2.2.1; omega) (by omega))⟩, (fun j hj => (show G_14 6 j = Gc_11 6 j from congrFun (show G_14 6 = Gc_11 6 from ((fr_15.2 6 (by decide)).trans rfl)) j).trans (f11_9 j hj))⟩) dX6_shots_73
          · refine lv_aload_n hx hb dX6_shots_43 rfl (lv_at hl 0 rfl) ?_
            refine mr_get (v := .int (Fc_11 42)) E hM 42 (by decide) (index := 155) (mm_at 11 rfl) rfl rfl dX6_shots_44 ?_
            refine lv_iload_n hx hb dX6_shots_47 rfl (lv_at hl 2 rfl) ?_
            refine mm_icmp_le (X := (Fc_11 42).toInt) (Y := la.toInt) (tgt := 64) hx hb dX6_shots_48 (by decide) rfl rfl (fun c_23 => ?_) (fun c_23 => ?_)
            · refine lv_aload_n hx hb dX6_shots_64 rfl (lv_at hl 0 rfl) ?_
              refine lv_iconst (v := 2) hx hb dX6_shots_65 (by decide) ?_
              refine lv_aload_n hx hb dX6_shots_66 rfl (lv_at hl 0 rfl) ?_
              have b_24 : 0 ≤ (Fc_11 43).toInt ∧ (Fc_11 43).toInt ≤ 1000 := hM.fb 43 rfl
              refine mr_get (v := .int (Fc_11 43)) E hM 43 (by decide) (index := 141) (mm_at 3 rfl) rfl rfl dX6_shots_67 ?_
              refine mr_calli (av := [.int 2, .int (Fc_11 43)]) (rest := []) E hA hml hM (g3_X6_wrong l D h0 q cq Fc_11 Gc_11 _ 2 (Fc_11 43) hM.2.2.2.1 ) (cwV 2 hts g8_X6_shots_X6_wrong_25 rfl rfl rfl (by decide +kernel) ⟨Nat.le_of_ble_eq_true rfl, Nat.le_of_ble_eq_true rfl⟩) rfl hl.1 rfl (Nat.le_of_ble_eq_true rfl) dX6_shots_70 ⟨Nat.le_of_ble_eq_true rfl, Nat.le_of_ble_eq_true rfl⟩ (by decide) (by decide) (fun r_26 F_28 G_29 H locs fr_30 p_27 hM => ?_)
              replace p_27 : r_26.toInt = 0 := p_27
              have b_31 : 0 ≤ (F_28 40).toInt ∧ (F_28 40).toInt ≤ 1000 := hM.fb 40 rfl
              have e_32 : (F_28 40).toInt = (Fc_11 40).toInt := (congrArg Int32.toInt (fr_30.1 40 (by decide))).trans rfl
              have e_33 : (F_28 42).toInt = (Fc_11 42).toInt := (congrArg Int32.toInt (fr_30.1 42 (by decide))).trans rfl
              have b_34 : 0 ≤ (F_28 43).toInt ∧ (F_28 43).toInt ≤ 1000 := hM.fb 43 rfl
              have e_35 : (F_28 43).toInt = (Fc_11 43).toInt := (congrArg Int32.toInt (fr_30.1 43 (by decide))).trans rfl
              have b_36 : 0 ≤ (F_28 41).toInt ∧ (F_28 41).toInt ≤ 5 := hM.fb 41 rfl
              have e_37 : (F_28 41).toInt = (Fc_11 41).toInt := (congrArg Int32.toInt (fr_30.1 41 (by decide))).trans rfl
              exact mr_rz (X := r_26.toInt) E hr hlk hsz hM rfl (by omega) (show (F_28 40).toInt ≤ (F 39).toInt ∧ (F 40).toInt ≤ (F_28 40).toInt ∧ (¬ (F_28 41).toInt = 2 ∨ (65 ≤ (F_28 42).toInt ∧ (F_28 42).toInt ≤ 72)) ∧ ((r_26.toInt = 1 ∧ ∃ c : Nat, zsh kz nz xz (G 5 (Int32.toNatClampNeg p0)).toInt c ∧ (G_29 6 (Int32.toNatClampNeg p0)).toInt = (c : Int) ∧ (F_28 43).toInt = (ztp kz (zit kz nz c xz) : Int) ∧ (F_28 40).toInt = (zty kz nz (zit kz nz c xz) : Int) ∧ mKW kz nz (zit kz nz c xz) (F_28 41).toInt (F_28 42).toInt) ∨ (r_26.toInt = 0 ∧ ∀ c : Nat, ¬ zsh kz nz xz (G 5 (Int32.toNatClampNeg p0)).toInt c)) ∧ (∀ j : Nat, ¬ j = (Int32.toNatClampNeg p0) → G_29 6 j = G 6 j) from by have hN := mKW_N hou f11_5; have hN1 := hN.1; have hN2 := hN.2; have g5e : (Gc_11 5 (Int32.toNatClampNeg p0)).toInt = (G 5 (Int32.toNatClampNeg p0)).toInt := congrArg Int32.toInt (congrFun (hfr_11.2 5 (by decide)) _); exact ⟨by omega, by omega, by omega, Or.inr ⟨by omega, (if h4 : (Gc_11 6 (Int32.toNatClampNeg p0)).toInt = 4 ∧ zso kz nz (ztp kz (zit kz nz ((Gc_11 6 (Int32.toNatClampNeg p0)).toInt).toNat xz)) = 2 then zsh_not4 (by rw [← show ((Gc_11 6 (Int32.toNatClampNeg p0)).toInt).toNat = 4 from by omega]; exact f11_8) (by rw [← show ((Gc_11 6 (Int32.toNatClampNeg p0)).toInt).toNat = 4 from by omega]; exact h4.2) else zsh_not f11_8 (fun q => by have q1 := zsh1_to (lo := la.toInt + 1) (hi := (G 5 (Int32.toNatClampNeg p0)).toInt - 1) q (by omega) rfl; have q2 := hN1.mp q1.1; have q3 := q1.2.1; have q4 := q1.2.2.1; omega) (by omega))⟩, (fun j hj => (show G_29 6 j = Gc_11 6 j from congrFun (show G_29 6 = Gc_11 6 from ((fr_30.2 6 (by decide)).trans rfl)) j).trans (f11_9 j hj))⟩) dX6_shots_73
            · refine lv_aload_n hx hb dX6_shots_51 rfl (lv_at hl 0 rfl) ?_
              refine mr_get (v := .int (Fc_11 42)) E hM 42 (by decide) (index := 155) (mm_at 11 rfl) rfl rfl dX6_shots_52 ?_
              refine lv_aload_n hx hb dX6_shots_55 rfl (lv_at hl 0 rfl) ?_
              refine mr_get (v := .ref (q 5)) E hM 5 (by decide) (index := 13) (mm_at 12 rfl) rfl rfl dX6_shots_56 ?_
              refine lv_iload_n hx hb dX6_shots_59 rfl (lv_at hl 1 rfl) ?_
              refine mr_ald (X := p0.toInt) E hM 2 1 rfl rfl rfl (by omega) dX6_shots_60 ?_
              refine mm_icmp_lt (X := (Fc_11 42).toInt) (Y := (Gc_11 5 (Int32.toNatClampNeg p0)).toInt) (tgt := 74) hx hb dX6_shots_61 (by decide) rfl rfl (fun c_38 => ?_) (fun c_38 => ?_)
              · have hN := mKW_N hou f11_5
                have hN1 := hN.1
                have hN2 := hN.2
                have g5e : (Gc_11 5 (Int32.toNatClampNeg p0)).toInt = (G 5 (Int32.toNatClampNeg p0)).toInt := congrArg Int32.toInt (congrFun (hfr_11.2 5 (by decide)) _)
                have g1s : zsh1 kz nz xz (G 5 (Int32.toNatClampNeg p0)).toInt ((Gc_11 6 (Int32.toNatClampNeg p0)).toInt).toNat := zsh1_of (lo := la.toInt + 1) (hi := (G 5 (Int32.toNatClampNeg p0)).toInt - 1) (v := (zV kz nz (zit kz nz ((Gc_11 6 (Int32.toNatClampNeg p0)).toInt).toNat xz) : Int)) ⟨hN1.mpr (by omega), by omega, by omega, rfl⟩ (by omega) (by omega)
                refine lv_aload_n hx hb dX6_shots_74 rfl (lv_at hl 0 rfl) ?_
                refine mr_get (v := .int (Fc_11 42)) E hM 42 (by decide) (index := 155) (mm_at 11 rfl) rfl rfl dX6_shots_75 ?_
                refine lv_istore_n (lv' := [(2, .int (Fc_11 42)), (0, .ref h0), (1, .int p0), (3, .int mo)]) hx hb dX6_shots_78 rfl hl (by decide) rfl (fun ls hl => ?_)
                refine lv_aload_n hx hb dX6_shots_79 rfl (lv_at hl 1 rfl) ?_
                refine mr_get (v := .ref (q 7)) E hM 7 (by decide) (index := 19) (mm_at 13 rfl) rfl rfl dX6_shots_80 ?_
                refine lv_iconst (v := 4) hx hb dX6_shots_83 (by decide) ?_
                refine lv_iload_n hx hb dX6_shots_84 rfl (lv_at hl 2 rfl) ?_
                refine mm_imul (X := 4) (Y := p0.toInt) hx hb dX6_shots_85 num_4 rfl (by omega) (fun z_39 hz_39 => ?_)
                refine lv_aload_n hx hb dX6_shots_86 rfl (lv_at hl 1 rfl) ?_
                refine mr_get (v := .ref (q 6)) E hM 6 (by decide) (index := 16) (mm_at 2 rfl) rfl rfl dX6_shots_87 ?_
                refine lv_iload_n hx hb dX6_shots_90 rfl (lv_at hl 2 rfl) ?_
                refine mr_ald (X := p0.toInt) E hM 3 2 rfl rfl rfl (by omega) dX6_shots_91 ?_
                refine mm_iadd (X := z_39.toInt) (Y := (Gc_11 6 (Int32.toNatClampNeg p0)).toInt) hx hb dX6_shots_92 rfl rfl (by omega) (fun z_40 hz_40 => ?_)
                refine lv_aload_n hx hb dX6_shots_93 rfl (lv_at hl 1 rfl) ?_
                refine mr_get (v := .int (Fc_11 42)) E hM 42 (by decide) (index := 155) (mm_at 11 rfl) rfl rfl dX6_shots_94 ?_
                refine mr_ast (X := z_40.toInt) E hM 7 4 3 rfl rfl rfl (by omega) mg_7 (by decide) (mm_nbA rfl) (by decide) dX6_shots_97 (fun H locs G_41 eG_41 hM => ?_)
                have g6_42 : (G_41 6 (Int32.toNatClampNeg p0)).toInt = (Gc_11 6 (Int32.toNatClampNeg p0)).toInt := congrArg Int32.toInt (congrFun ((show G_41 6 = Gc_11 6 from by rw [eG_41]; rfl).trans rfl) _)
                refine lv_aload_n hx hb dX6_shots_98 rfl (lv_at hl 1 rfl) ?_
                refine mr_get (v := .ref (q 6)) E hM 6 (by decide) (index := 16) (mm_at 2 rfl) rfl rfl dX6_shots_99 ?_
                refine lv_iload_n hx hb dX6_shots_102 rfl (lv_at hl 2 rfl) ?_
                refine lv_dup2_11 hx hb dX6_shots_103 rfl rfl ?_
                refine mr_ald (X := p0.toInt) E hM 3 2 rfl rfl rfl (by omega) dX6_shots_104 ?_
                have b_43 : 0 ≤ (G_41 6 (Int32.toNatClampNeg p0)).toInt ∧ (G_41 6 (Int32.toNatClampNeg p0)).toInt ≤ 4 := hM.ab 6 rfl _
                refine lv_iconst (v := 1) hx hb dX6_shots_105 (by decide) ?_
                refine mm_iadd (X := (G_41 6 (Int32.toNatClampNeg p0)).toInt) (Y := 1) hx hb dX6_shots_106 rfl num_1 (by omega) (fun z_44 hz_44 => ?_)
                refine mr_ast (X := p0.toInt) E hM 6 3 2 rfl rfl rfl (by omega) mg_6 (by decide) (mm_bdA (X := z_44.toInt) (a := 0) (b := 4) rfl rfl (by omega)) (by decide) dX6_shots_107 (fun H locs G_45 eG_45 hM => ?_)
                refine lv_aload_n hx hb dX6_shots_108 rfl (lv_at hl 1 rfl) ?_
                have b_47 : 0 ≤ (Fc_11 40).toInt ∧ (Fc_11 40).toInt ≤ 1000 := hM.fb 40 rfl
                have b_48 : 0 ≤ (Fc_11 39).toInt ∧ (Fc_11 39).toInt ≤ 1000 := hM.fb 39 rfl
                have e_49 : (Fc_11 39).toInt = (F 39).toInt := (congrArg Int32.toInt (hfr_11.1 39 (by decide))).trans rfl
                refine mr_callv (av := []) (rest := []) E hA hml hM (g7_X6_take l D h0 q cq Fc_11 G_45 _  hM.2.2.2.1 kz nz (zty kz nz (zit kz nz ((Gc_11 6 (Int32.toNatClampNeg p0)).toInt).toNat xz)) (mTx_fr htx hM.fr (by decide) (by decide)) (show (Fc_11 40).toInt = ((zty kz nz (zit kz nz ((Gc_11 6 (Int32.toNatClampNeg p0)).toInt).toNat xz)) : Int) from by omega) (show (Fc_11 40).toInt ≤ (Fc_11 39).toInt from by omega)) (cwV 0 hts g8_X6_shots_X6_take_46 rfl rfl rfl (by decide +kernel) ⟨Nat.le_of_ble_eq_true rfl, Nat.le_of_ble_eq_true rfl⟩) rfl hl.1 rfl (Nat.le_of_ble_eq_true rfl) dX6_shots_109 ⟨Nat.le_of_ble_eq_true rfl, Nat.le_of_ble_eq_true rfl⟩ (by decide) (by decide) (fun F_52 G_53 H locs fr_54 p_51 hM => ?_)
                replace p_51 : (F_52 40).toInt ≤ (Fc_11 39).toInt ∧ (Fc_11 40).toInt ≤ (F_52 40).toInt ∧ ((F_52 41).toInt = 0 ∨ (Fc_11 40).toInt < (F_52 40).toInt) ∧ (¬ (F_52 41).toInt = 2 ∨ (65 ≤ (F_52 42).toInt ∧ (F_52 42).toInt ≤ 72)) ∧ (F_52 43).toInt = (ztp kz (zty kz nz (zit kz nz ((Gc_11 6 (Int32.toNatClampNeg p0)).toInt).toNat xz)) : Int) ∧ (F_52 40).toInt = (zty kz nz (zty kz nz (zit kz nz ((Gc_11 6 (Int32.toNatClampNeg p0)).toInt).toNat xz)) : Int) ∧ mKW kz nz (zty kz nz (zit kz nz ((Gc_11 6 (Int32.toNatClampNeg p0)).toInt).toNat xz)) (F_52 41).toInt (F_52 42).toInt := p_51
                rcases p_51 with ⟨t1_55, t2_55, t3_55, t4_55, a1_55, a2_55, kw_55⟩
                have g6n : (G_53 6 (Int32.toNatClampNeg p0)).toInt = (Gc_11 6 (Int32.toNatClampNeg p0)).toInt + 1 := by rw [((fr_54.2 6 (by decide)).trans ((show G_45 6 = upd (G_41 6) (Int32.toNatClampNeg p0) (z_44) from by rw [eG_45]; rfl).trans (congrArg (fun z => upd z (Int32.toNatClampNeg p0) (z_44)) ((show G_41 6 = Gc_11 6 from by rw [eG_41]; rfl).trans rfl))))]; simp only [upd, if_true]; omega
                refine lv_aload_n hx hb dX6_shots_112 rfl (lv_at hl 1 rfl) ?_
                have b_56 : 0 ≤ (F_52 41).toInt ∧ (F_52 41).toInt ≤ 5 := hM.fb 41 rfl
                refine mr_get (v := .int (F_52 41)) E hM 41 (by decide) (index := 144) (mm_at 1 rfl) rfl rfl dX6_shots_113 ?_
                refine lv_iconst (v := 3) hx hb dX6_shots_116 (by decide) ?_
                refine mm_icmp_ne (X := (F_52 41).toInt) (Y := 3) (tgt := 124) hx hb dX6_shots_117 (by decide) rfl num_3 (fun c_57 => ?_) (fun c_57 => ?_)
                · refine lv_iconst (v := 0) hx hb dX6_shots_124 (by decide) ?_
                  refine lv_istore_n (lv' := [(3, .int 0), (2, .int (Fc_11 42)), (0, .ref h0), (1, .int p0)]) hx hb dX6_shots_125 rfl hl (by decide) rfl (fun ls hl => ?_)
                  refine lv_goto (tgt := 11) hx hb dX6_shots_126 (by decide) ?_
                  have b_58 : 0 ≤ (F_52 40).toInt ∧ (F_52 40).toInt ≤ 1000 := hM.fb 40 rfl
                  have b_59 : 0 ≤ (F_52 43).toInt ∧ (F_52 43).toInt ≤ 1000 := hM.fb 43 rfl
                  exact ih_11 _ _ _ F_52 G_53 (Fc_11 42) 0 (show (F_52 40).toInt ≤ (F 39).toInt from by have n_1 := num_0; omega) (show (F 40).toInt ≤ (F_52 40).toInt from by have n_1 := num_0; omega) (show ¬ (F_52 41).toInt = 2 ∨ (65 ≤ (F_52 42).toInt ∧ (F_52 42).toInt ≤ 72) from by have n_1 := num_0; omega) (show (F_52 43).toInt = (ztp kz (zit kz nz ((G_53 6 (Int32.toNatClampNeg p0)).toInt.toNat) xz) : Int) from by have n_1 := num_0; have hcn : (G_53 6 (Int32.toNatClampNeg p0)).toInt = (Gc_11 6 (Int32.toNatClampNeg p0)).toInt + 1 := g6n; have hcm : ((G_53 6 (Int32.toNatClampNeg p0)).toInt).toNat = ((Gc_11 6 (Int32.toNatClampNeg p0)).toInt).toNat + 1 := (by omega); rw [hcm]; simp only [zit]; omega) (show (F_52 40).toInt = (zty kz nz (zit kz nz ((G_53 6 (Int32.toNatClampNeg p0)).toInt.toNat) xz) : Int) from by have n_1 := num_0; have hcn : (G_53 6 (Int32.toNatClampNeg p0)).toInt = (Gc_11 6 (Int32.toNatClampNeg p0)).toInt + 1 := g6n; have hcm : ((G_53 6 (Int32.toNatClampNeg p0)).toInt).toNat = ((Gc_11 6 (Int32.toNatClampNeg p0)).toInt).toNat + 1 := (by omega); rw [hcm]; simp only [zit]; omega) (show mKW kz nz (zit kz nz ((G_53 6 (Int32.toNatClampNeg p0)).toInt.toNat) xz) (F_52 41).toInt (F_52 42).toInt from by have n_1 := num_0; have hcn : (G_53 6 (Int32.toNatClampNeg p0)).toInt = (Gc_11 6 (Int32.toNatClampNeg p0)).toInt + 1 := g6n; have hcm : ((G_53 6 (Int32.toNatClampNeg p0)).toInt).toNat = ((Gc_11 6 (Int32.toNatClampNeg p0)).toInt).toNat + 1 := (by omega); rw [hcm]; exact kw_55) (show ((0 : Int32).toInt = 1 ∧ ((G_53 6 (Int32.toNatClampNeg p0)).toInt = 0 ∨ (F_52 41).toInt = 3)) ∨ ((0 : Int32).toInt = 0 ∧ 1 ≤ (G_53 6 (Int32.toNatClampNeg p0)).toInt ∧ ¬ (F_52 41).toInt = 3) from by have n_1 := num_0; have hcn : (G_53 6 (Int32.toNatClampNeg p0)).toInt = (Gc_11 6 (Int32.toNatClampNeg p0)).toInt + 1 := g6n; have hcm : ((G_53 6 (Int32.toNatClampNeg p0)).toInt).toNat = ((Gc_11 6 (Int32.toNatClampNeg p0)).toInt).toNat + 1 := (by omega); omega) (show ((G_53 6 (Int32.toNatClampNeg p0)).toInt = 0 ∧ (Fc_11 42).toInt = 0) ∨ (1 ≤ (G_53 6 (Int32.toNatClampNeg p0)).toInt ∧ (Fc_11 42).toInt = (zV kz nz (zit kz nz ((G_53 6 (Int32.toNatClampNeg p0)).toInt.toNat - 1) xz) : Int)) from by have n_1 := num_0; have hcn : (G_53 6 (Int32.toNatClampNeg p0)).toInt = (Gc_11 6 (Int32.toNatClampNeg p0)).toInt + 1 := g6n; have hcm : ((G_53 6 (Int32.toNatClampNeg p0)).toInt).toNat = ((Gc_11 6 (Int32.toNatClampNeg p0)).toInt).toNat + 1 := (by omega); rw [show ((G_53 6 (Int32.toNatClampNeg p0)).toInt).toNat - 1 = ((Gc_11 6 (Int32.toNatClampNeg p0)).toInt).toNat from by omega]; omega) (show zshp kz nz xz (G 5 (Int32.toNatClampNeg p0)).toInt ((G_53 6 (Int32.toNatClampNeg p0)).toInt.toNat) from by have n_1 := num_0; have hcn : (G_53 6 (Int32.toNatClampNeg p0)).toInt = (Gc_11 6 (Int32.toNatClampNeg p0)).toInt + 1 := g6n; have hcm : ((G_53 6 (Int32.toNatClampNeg p0)).toInt).toNat = ((Gc_11 6 (Int32.toNatClampNeg p0)).toInt).toNat + 1 := (by omega); rw [hcm]; exact zshp_s f11_8 g1s) (show (∀ j : Nat, ¬ j = (Int32.toNatClampNeg p0) → G_53 6 j = G 6 j) from by have n_1 := num_0; exact fun j hj => (by rw [((fr_54.2 6 (by decide)).trans ((show G_45 6 = upd (G_41 6) (Int32.toNatClampNeg p0) (z_44) from by rw [eG_45]; rfl).trans (congrArg (fun z => upd z (Int32.toNatClampNeg p0) (z_44)) ((show G_41 6 = Gc_11 6 from by rw [eG_41]; rfl).trans rfl))))]; simp only [upd, if_neg hj]; exact f11_9 j hj)) (show (5 - (G_53 6 (Int32.toNatClampNeg p0)).toInt) < ((n_11 : Nat) : Int) from by have n_1 := num_0; omega) hM (lv_sub hl [2, 3, 1, 0] rfl)
                · refine lv_iconst (v := 1) hx hb dX6_shots_120 (by decide) ?_
                  refine lv_goto (tgt := 125) hx hb dX6_shots_121 (by decide) ?_
                  refine lv_istore_n (lv' := [(3, .int 1), (2, .int (Fc_11 42)), (0, .ref h0), (1, .int p0)]) hx hb dX6_shots_125 rfl hl (by decide) rfl (fun ls hl => ?_)
                  refine lv_goto (tgt := 11) hx hb dX6_shots_126 (by decide) ?_
                  have b_60 : 0 ≤ (F_52 40).toInt ∧ (F_52 40).toInt ≤ 1000 := hM.fb 40 rfl
                  have b_61 : 0 ≤ (F_52 43).toInt ∧ (F_52 43).toInt ≤ 1000 := hM.fb 43 rfl
                  exact ih_11 _ _ _ F_52 G_53 (Fc_11 42) 1 (show (F_52 40).toInt ≤ (F 39).toInt from by have n_1 := num_1; omega) (show (F 40).toInt ≤ (F_52 40).toInt from by have n_1 := num_1; omega) (show ¬ (F_52 41).toInt = 2 ∨ (65 ≤ (F_52 42).toInt ∧ (F_52 42).toInt ≤ 72) from by have n_1 := num_1; omega) (show (F_52 43).toInt = (ztp kz (zit kz nz ((G_53 6 (Int32.toNatClampNeg p0)).toInt.toNat) xz) : Int) from by have n_1 := num_1; have hcn : (G_53 6 (Int32.toNatClampNeg p0)).toInt = (Gc_11 6 (Int32.toNatClampNeg p0)).toInt + 1 := g6n; have hcm : ((G_53 6 (Int32.toNatClampNeg p0)).toInt).toNat = ((Gc_11 6 (Int32.toNatClampNeg p0)).toInt).toNat + 1 := (by omega); rw [hcm]; simp only [zit]; omega) (show (F_52 40).toInt = (zty kz nz (zit kz nz ((G_53 6 (Int32.toNatClampNeg p0)).toInt.toNat) xz) : Int) from by have n_1 := num_1; have hcn : (G_53 6 (Int32.toNatClampNeg p0)).toInt = (Gc_11 6 (Int32.toNatClampNeg p0)).toInt + 1 := g6n; have hcm : ((G_53 6 (Int32.toNatClampNeg p0)).toInt).toNat = ((Gc_11 6 (Int32.toNatClampNeg p0)).toInt).toNat + 1 := (by omega); rw [hcm]; simp only [zit]; omega) (show mKW kz nz (zit kz nz ((G_53 6 (Int32.toNatClampNeg p0)).toInt.toNat) xz) (F_52 41).toInt (F_52 42).toInt from by have n_1 := num_1; have hcn : (G_53 6 (Int32.toNatClampNeg p0)).toInt = (Gc_11 6 (Int32.toNatClampNeg p0)).toInt + 1 := g6n; have hcm : ((G_53 6 (Int32.toNatClampNeg p0)).toInt).toNat = ((Gc_11 6 (Int32.toNatClampNeg p0)).toInt).toNat + 1 := (by omega); rw [hcm]; exact kw_55) (show ((1 : Int32).toInt = 1 ∧ ((G_53 6 (Int32.toNatClampNeg p0)).toInt = 0 ∨ (F_52 41).toInt = 3)) ∨ ((1 : Int32).toInt = 0 ∧ 1 ≤ (G_53 6 (Int32.toNatClampNeg p0)).toInt ∧ ¬ (F_52 41).toInt = 3) from by have n_1 := num_1; have hcn : (G_53 6 (Int32.toNatClampNeg p0)).toInt = (Gc_11 6 (Int32.toNatClampNeg p0)).toInt + 1 := g6n; have hcm : ((G_53 6 (Int32.toNatClampNeg p0)).toInt).toNat = ((Gc_11 6 (Int32.toNatClampNeg p0)).toInt).toNat + 1 := (by omega); omega) (show ((G_53 6 (Int32.toNatClampNeg p0)).toInt = 0 ∧ (Fc_11 42).toInt = 0) ∨ (1 ≤ (G_53 6 (Int32.toNatClampNeg p0)).toInt ∧ (Fc_11 42).toInt = (zV kz nz (zit kz nz ((G_53 6 (Int32.toNatClampNeg p0)).toInt.toNat - 1) xz) : Int)) from by have n_1 := num_1; have hcn : (G_53 6 (Int32.toNatClampNeg p0)).toInt = (Gc_11 6 (Int32.toNatClampNeg p0)).toInt + 1 := g6n; have hcm : ((G_53 6 (Int32.toNatClampNeg p0)).toInt).toNat = ((Gc_11 6 (Int32.toNatClampNeg p0)).toInt).toNat + 1 := (by omega); rw [show ((G_53 6 (Int32.toNatClampNeg p0)).toInt).toNat - 1 = ((Gc_11 6 (Int32.toNatClampNeg p0)).toInt).toNat from by omega]; omega) (show zshp kz nz xz (G 5 (Int32.toNatClampNeg p0)).toInt ((G_53 6 (Int32.toNatClampNeg p0)).toInt.toNat) from by have n_1 := num_1; have hcn : (G_53 6 (Int32.toNatClampNeg p0)).toInt = (Gc_11 6 (Int32.toNatClampNeg p0)).toInt + 1 := g6n; have hcm : ((G_53 6 (Int32.toNatClampNeg p0)).toInt).toNat = ((Gc_11 6 (Int32.toNatClampNeg p0)).toInt).toNat + 1 := (by omega); rw [hcm]; exact zshp_s f11_8 g1s) (show (∀ j : Nat, ¬ j = (Int32.toNatClampNeg p0) → G_53 6 j = G 6 j) from by have n_1 := num_1; exact fun j hj => (by rw [((fr_54.2 6 (by decide)).trans ((show G_45 6 = upd (G_41 6) (Int32.toNatClampNeg p0) (z_44) from by rw [eG_45]; rfl).trans (congrArg (fun z => upd z (Int32.toNatClampNeg p0) (z_44)) ((show G_41 6 = Gc_11 6 from by rw [eG_41]; rfl).trans rfl))))]; simp only [upd, if_neg hj]; exact f11_9 j hj)) (show (5 - (G_53 6 (Int32.toNatClampNeg p0)).toInt) < ((n_11 : Nat) : Int) from by have n_1 := num_1; omega) hM (lv_sub hl [2, 3, 1, 0] rfl)
              · refine lv_aload_n hx hb dX6_shots_64 rfl (lv_at hl 0 rfl) ?_
                refine lv_iconst (v := 2) hx hb dX6_shots_65 (by decide) ?_
                refine lv_aload_n hx hb dX6_shots_66 rfl (lv_at hl 0 rfl) ?_
                have b_62 : 0 ≤ (Fc_11 43).toInt ∧ (Fc_11 43).toInt ≤ 1000 := hM.fb 43 rfl
                refine mr_get (v := .int (Fc_11 43)) E hM 43 (by decide) (index := 141) (mm_at 3 rfl) rfl rfl dX6_shots_67 ?_
                refine mr_calli (av := [.int 2, .int (Fc_11 43)]) (rest := []) E hA hml hM (g3_X6_wrong l D h0 q cq Fc_11 Gc_11 _ 2 (Fc_11 43) hM.2.2.2.1 ) (cwV 2 hts g8_X6_shots_X6_wrong_63 rfl rfl rfl (by decide +kernel) ⟨Nat.le_of_ble_eq_true rfl, Nat.le_of_ble_eq_true rfl⟩) rfl hl.1 rfl (Nat.le_of_ble_eq_true rfl) dX6_shots_70 ⟨Nat.le_of_ble_eq_true rfl, Nat.le_of_ble_eq_true rfl⟩ (by decide) (by decide) (fun r_64 F_66 G_67 H locs fr_68 p_65 hM => ?_)
                replace p_65 : r_64.toInt = 0 := p_65
                have b_69 : 0 ≤ (F_66 40).toInt ∧ (F_66 40).toInt ≤ 1000 := hM.fb 40 rfl
                have e_70 : (F_66 40).toInt = (Fc_11 40).toInt := (congrArg Int32.toInt (fr_68.1 40 (by decide))).trans rfl
                have e_71 : (F_66 42).toInt = (Fc_11 42).toInt := (congrArg Int32.toInt (fr_68.1 42 (by decide))).trans rfl
                have b_72 : 0 ≤ (F_66 43).toInt ∧ (F_66 43).toInt ≤ 1000 := hM.fb 43 rfl
                have e_73 : (F_66 43).toInt = (Fc_11 43).toInt := (congrArg Int32.toInt (fr_68.1 43 (by decide))).trans rfl
                have b_74 : 0 ≤ (F_66 41).toInt ∧ (F_66 41).toInt ≤ 5 := hM.fb 41 rfl
                have e_75 : (F_66 41).toInt = (Fc_11 41).toInt := (congrArg Int32.toInt (fr_68.1 41 (by decide))).trans rfl
                exact mr_rz (X := r_64.toInt) E hr hlk hsz hM rfl (by omega) (show (F_66 40).toInt ≤ (F 39).toInt ∧ (F 40).toInt ≤ (F_66 40).toInt ∧ (¬ (F_66 41).toInt = 2 ∨ (65 ≤ (F_66 42).toInt ∧ (F_66 42).toInt ≤ 72)) ∧ ((r_64.toInt = 1 ∧ ∃ c : Nat, zsh kz nz xz (G 5 (Int32.toNatClampNeg p0)).toInt c ∧ (G_67 6 (Int32.toNatClampNeg p0)).toInt = (c : Int) ∧ (F_66 43).toInt = (ztp kz (zit kz nz c xz) : Int) ∧ (F_66 40).toInt = (zty kz nz (zit kz nz c xz) : Int) ∧ mKW kz nz (zit kz nz c xz) (F_66 41).toInt (F_66 42).toInt) ∨ (r_64.toInt = 0 ∧ ∀ c : Nat, ¬ zsh kz nz xz (G 5 (Int32.toNatClampNeg p0)).toInt c)) ∧ (∀ j : Nat, ¬ j = (Int32.toNatClampNeg p0) → G_67 6 j = G 6 j) from by have hN := mKW_N hou f11_5; have hN1 := hN.1; have hN2 := hN.2; have g5e : (Gc_11 5 (Int32.toNatClampNeg p0)).toInt = (G 5 (Int32.toNatClampNeg p0)).toInt := congrArg Int32.toInt (congrFun (hfr_11.2 5 (by decide)) _); exact ⟨by omega, by omega, by omega, Or.inr ⟨by omega, (if h4 : (Gc_11 6 (Int32.toNatClampNeg p0)).toInt = 4 ∧ zso kz nz (ztp kz (zit kz nz ((Gc_11 6 (Int32.toNatClampNeg p0)).toInt).toNat xz)) = 2 then zsh_not4 (by rw [← show ((Gc_11 6 (Int32.toNatClampNeg p0)).toInt).toNat = 4 from by omega]; exact f11_8) (by rw [← show ((Gc_11 6 (Int32.toNatClampNeg p0)).toInt).toNat = 4 from by omega]; exact h4.2) else zsh_not f11_8 (fun q => by have q1 := zsh1_to (lo := la.toInt + 1) (hi := (G 5 (Int32.toNatClampNeg p0)).toInt - 1) q (by omega) rfl; have q2 := hN1.mp q1.1; have q3 := q1.2.1; have q4 := q1.2.2.1; omega) (by omega))⟩, (fun j hj => (show G_67 6 j = Gc_11 6 j from congrFun (show G_67 6 = Gc_11 6 from ((fr_68.2 6 (by decide)).trans rfl)) j).trans (f11_9 j hj))⟩) dX6_shots_73
        · refine lv_aload_n hx hb dX6_shots_23 rfl (lv_at hl 0 rfl) ?_
          refine lv_iconst (v := 1) hx hb dX6_shots_24 (by decide) ?_
          refine lv_aload_n hx hb dX6_shots_25 rfl (lv_at hl 0 rfl) ?_
          have b_76 : 0 ≤ (Fc_11 43).toInt ∧ (Fc_11 43).toInt ≤ 1000 := hM.fb 43 rfl
          refine mr_get (v := .int (Fc_11 43)) E hM 43 (by decide) (index := 141) (mm_at 3 rfl) rfl rfl dX6_shots_26 ?_
          refine mr_calli (av := [.int 1, .int (Fc_11 43)]) (rest := []) E hA hml hM (g3_X6_wrong l D h0 q cq Fc_11 Gc_11 _ 1 (Fc_11 43) hM.2.2.2.1 ) (cwV 2 hts g8_X6_shots_X6_wrong_77 rfl rfl rfl (by decide +kernel) ⟨Nat.le_of_ble_eq_true rfl, Nat.le_of_ble_eq_true rfl⟩) rfl hl.1 rfl (Nat.le_of_ble_eq_true rfl) dX6_shots_29 ⟨Nat.le_of_ble_eq_true rfl, Nat.le_of_ble_eq_true rfl⟩ (by decide) (by decide) (fun r_78 F_80 G_81 H locs fr_82 p_79 hM => ?_)
          replace p_79 : r_78.toInt = 0 := p_79
          have b_83 : 0 ≤ (F_80 40).toInt ∧ (F_80 40).toInt ≤ 1000 := hM.fb 40 rfl
          have e_84 : (F_80 40).toInt = (Fc_11 40).toInt := (congrArg Int32.toInt (fr_82.1 40 (by decide))).trans rfl
          have e_85 : (F_80 42).toInt = (Fc_11 42).toInt := (congrArg Int32.toInt (fr_82.1 42 (by decide))).trans rfl
          have b_86 : 0 ≤ (F_80 43).toInt ∧ (F_80 43).toInt ≤ 1000 := hM.fb 43 rfl
          have e_87 : (F_80 43).toInt = (Fc_11 43).toInt := (congrArg Int32.toInt (fr_82.1 43 (by decide))).trans rfl
          have b_88 : 0 ≤ (F_80 41).toInt ∧ (F_80 41).toInt ≤ 5 := hM.fb 41 rfl
          have e_89 : (F_80 41).toInt = (Fc_11 41).toInt := (congrArg Int32.toInt (fr_82.1 41 (by decide))).trans rfl
          exact mr_rz (X := r_78.toInt) E hr hlk hsz hM rfl (by omega) (show (F_80 40).toInt ≤ (F 39).toInt ∧ (F 40).toInt ≤ (F_80 40).toInt ∧ (¬ (F_80 41).toInt = 2 ∨ (65 ≤ (F_80 42).toInt ∧ (F_80 42).toInt ≤ 72)) ∧ ((r_78.toInt = 1 ∧ ∃ c : Nat, zsh kz nz xz (G 5 (Int32.toNatClampNeg p0)).toInt c ∧ (G_81 6 (Int32.toNatClampNeg p0)).toInt = (c : Int) ∧ (F_80 43).toInt = (ztp kz (zit kz nz c xz) : Int) ∧ (F_80 40).toInt = (zty kz nz (zit kz nz c xz) : Int) ∧ mKW kz nz (zit kz nz c xz) (F_80 41).toInt (F_80 42).toInt) ∨ (r_78.toInt = 0 ∧ ∀ c : Nat, ¬ zsh kz nz xz (G 5 (Int32.toNatClampNeg p0)).toInt c)) ∧ (∀ j : Nat, ¬ j = (Int32.toNatClampNeg p0) → G_81 6 j = G 6 j) from by have hN := mKW_N hou f11_5; have hN1 := hN.1; have hN2 := hN.2; have g5e : (Gc_11 5 (Int32.toNatClampNeg p0)).toInt = (G 5 (Int32.toNatClampNeg p0)).toInt := congrArg Int32.toInt (congrFun (hfr_11.2 5 (by decide)) _); exact ⟨by omega, by omega, by omega, Or.inr ⟨by omega, (if h4 : (Gc_11 6 (Int32.toNatClampNeg p0)).toInt = 4 ∧ zso kz nz (ztp kz (zit kz nz ((Gc_11 6 (Int32.toNatClampNeg p0)).toInt).toNat xz)) = 2 then zsh_not4 (by rw [← show ((Gc_11 6 (Int32.toNatClampNeg p0)).toInt).toNat = 4 from by omega]; exact f11_8) (by rw [← show ((Gc_11 6 (Int32.toNatClampNeg p0)).toInt).toNat = 4 from by omega]; exact h4.2) else zsh_not f11_8 (fun q => by have q1 := zsh1_to (lo := la.toInt + 1) (hi := (G 5 (Int32.toNatClampNeg p0)).toInt - 1) q (by omega) rfl; have q2 := hN1.mp q1.1; have q3 := q1.2.1; have q4 := q1.2.2.1; omega) (by omega))⟩, (fun j hj => (show G_81 6 j = Gc_11 6 j from congrFun (show G_81 6 = Gc_11 6 from ((fr_82.2 6 (by decide)).trans rfl)) j).trans (f11_9 j hj))⟩) dX6_shots_32
  refine lv_aload_n hx hb dX6_shots_0 rfl (lv_at hl 0 rfl) ?_
  refine mr_get (v := .ref (q 6)) E hM 6 (by decide) (index := 16) (mm_at 2 rfl) rfl rfl dX6_shots_1 ?_
  refine lv_iload_n hx hb dX6_shots_4 rfl (lv_at hl 1 rfl) ?_
  refine lv_iconst (v := 0) hx hb dX6_shots_5 (by decide) ?_
  refine mr_ast (X := p0.toInt) E hM 6 3 2 rfl rfl rfl (by omega) mg_6 (by decide) (mm_bdA (X := 0) (a := 0) (b := 4) rfl num_0 (by omega)) (by decide) dX6_shots_6 (fun H locs G_90 eG_90 hM => ?_)
  have h6b : 0 ≤ (G_90 6 (Int32.toNatClampNeg p0)).toInt ∧ (G_90 6 (Int32.toNatClampNeg p0)).toInt ≤ 4 := hM.ab 6 rfl _
  refine lv_iconst (v := 0) hx hb dX6_shots_7 (by decide) ?_
  refine lv_istore_n (lv' := [(2, .int 0), (0, .ref h0), (1, .int p0)]) hx hb dX6_shots_8 rfl hl (by decide) rfl (fun ls hl => ?_)
  refine lv_iconst (v := 1) hx hb dX6_shots_9 (by decide) ?_
  refine lv_istore_n (lv' := [(3, .int 1), (2, .int 0), (0, .ref h0), (1, .int p0)]) hx hb dX6_shots_10 rfl hl (by decide) rfl (fun ls hl => ?_)
  have b_91 : 0 ≤ (F 40).toInt ∧ (F 40).toInt ≤ 1000 := hM.fb 40 rfl
  have b_92 : 0 ≤ (F 39).toInt ∧ (F 39).toInt ≤ 1000 := hM.fb 39 rfl
  have b_93 : 0 ≤ (F 41).toInt ∧ (F 41).toInt ≤ 5 := hM.fb 41 rfl
  have b_94 : 0 ≤ (F 43).toInt ∧ (F 43).toInt ≤ 1000 := hM.fb 43 rfl
  exact B_11 4294967296 _ _ _ F G_90 0 1 (show (F 40).toInt ≤ (F 39).toInt from by have n_0 := num_0; have n_1 := num_1; omega) (show (F 40).toInt ≤ (F 40).toInt from by have n_0 := num_0; have n_1 := num_1; omega) (show ¬ (F 41).toInt = 2 ∨ (65 ≤ (F 42).toInt ∧ (F 42).toInt ≤ 72) from by have n_0 := num_0; have n_1 := num_1; omega) (show (F 43).toInt = (ztp kz (zit kz nz ((G_90 6 (Int32.toNatClampNeg p0)).toInt.toNat) xz) : Int) from by have n_0 := num_0; have n_1 := num_1; have hc0 : (G_90 6 (Int32.toNatClampNeg p0)).toInt = 0 := (by rw [((show G_90 6 = upd (G 6) (Int32.toNatClampNeg p0) (0) from by rw [eG_90]; rfl).trans (congrArg (fun z => upd z (Int32.toNatClampNeg p0) (0)) rfl))]; simp only [upd, if_true]; decide); rw [hc0]; show _ = _; simp only [Int.toNat_zero, zit]; omega) (show (F 40).toInt = (zty kz nz (zit kz nz ((G_90 6 (Int32.toNatClampNeg p0)).toInt.toNat) xz) : Int) from by have n_0 := num_0; have n_1 := num_1; have hc0 : (G_90 6 (Int32.toNatClampNeg p0)).toInt = 0 := (by rw [((show G_90 6 = upd (G 6) (Int32.toNatClampNeg p0) (0) from by rw [eG_90]; rfl).trans (congrArg (fun z => upd z (Int32.toNatClampNeg p0) (0)) rfl))]; simp only [upd, if_true]; decide); rw [hc0]; show _ = _; simp only [Int.toNat_zero, zit]; omega) (show mKW kz nz (zit kz nz ((G_90 6 (Int32.toNatClampNeg p0)).toInt.toNat) xz) (F 41).toInt (F 42).toInt from by have n_0 := num_0; have n_1 := num_1; have hc0 : (G_90 6 (Int32.toNatClampNeg p0)).toInt = 0 := (by rw [((show G_90 6 = upd (G 6) (Int32.toNatClampNeg p0) (0) from by rw [eG_90]; rfl).trans (congrArg (fun z => upd z (Int32.toNatClampNeg p0) (0)) rfl))]; simp only [upd, if_true]; decide); rw [hc0]; exact hat.2.2) (show ((1 : Int32).toInt = 1 ∧ ((G_90 6 (Int32.toNatClampNeg p0)).toInt = 0 ∨ (F 41).toInt = 3)) ∨ ((1 : Int32).toInt = 0 ∧ 1 ≤ (G_90 6 (Int32.toNatClampNeg p0)).toInt ∧ ¬ (F 41).toInt = 3) from by have n_0 := num_0; have n_1 := num_1; have hc0 : (G_90 6 (Int32.toNatClampNeg p0)).toInt = 0 := (by rw [((show G_90 6 = upd (G 6) (Int32.toNatClampNeg p0) (0) from by rw [eG_90]; rfl).trans (congrArg (fun z => upd z (Int32.toNatClampNeg p0) (0)) rfl))]; simp only [upd, if_true]; decide); omega) (show ((G_90 6 (Int32.toNatClampNeg p0)).toInt = 0 ∧ (0 : Int32).toInt = 0) ∨ (1 ≤ (G_90 6 (Int32.toNatClampNeg p0)).toInt ∧ (0 : Int32).toInt = (zV kz nz (zit kz nz ((G_90 6 (Int32.toNatClampNeg p0)).toInt.toNat - 1) xz) : Int)) from by have n_0 := num_0; have n_1 := num_1; have hc0 : (G_90 6 (Int32.toNatClampNeg p0)).toInt = 0 := (by rw [((show G_90 6 = upd (G 6) (Int32.toNatClampNeg p0) (0) from by rw [eG_90]; rfl).trans (congrArg (fun z => upd z (Int32.toNatClampNeg p0) (0)) rfl))]; simp only [upd, if_true]; decide); omega) (show zshp kz nz xz (G 5 (Int32.toNatClampNeg p0)).toInt ((G_90 6 (Int32.toNatClampNeg p0)).toInt.toNat) from by have n_0 := num_0; have n_1 := num_1; have hc0 : (G_90 6 (Int32.toNatClampNeg p0)).toInt = 0 := (by rw [((show G_90 6 = upd (G 6) (Int32.toNatClampNeg p0) (0) from by rw [eG_90]; rfl).trans (congrArg (fun z => upd z (Int32.toNatClampNeg p0) (0)) rfl))]; simp only [upd, if_true]; decide); rw [hc0]; exact fun j hj => absurd hj (Nat.not_lt_zero _)) (show (∀ j : Nat, ¬ j = (Int32.toNatClampNeg p0) → G_90 6 j = G 6 j) from by have n_0 := num_0; have n_1 := num_1; exact fun j hj => by rw [((show G_90 6 = upd (G 6) (Int32.toNatClampNeg p0) (0) from by rw [eG_90]; rfl).trans (congrArg (fun z => upd z (Int32.toNatClampNeg p0) (0)) rfl))]; simp only [upd, if_neg hj]) (show (5 - (G_90 6 (Int32.toNatClampNeg p0)).toInt) < ((4294967296 : Nat) : Int) from by have n_0 := num_0; have n_1 := num_1; omega) hM (lv_sub hl [2, 3, 1, 0] rfl)
