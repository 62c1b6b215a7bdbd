theorem num_2 : (2 : Int32).toInt = 2 := by decide
theorem num_9 : (9 : Int32).toInt = 9 := by decide
theorem num_31 : (31 : Int32).toInt = 31 := by decide
theorem num_400 : (400 : Int32).toInt = 400 := by decide
theorem num_200000 : (200000 : Int32).toInt = 200000 := by decide
def w3X6_isIn : List Cond := .code yX6_isIn cX6_isIn 3 (some .boolean) :: ([.methodLink RX6 203 yX6_isRace, .instanceMethod yX6_isRace, .selects RX6 yX6_isRace yX6_isRace, .initialized RX6, .code yX6_isRace cX6_isRace 2 (some .boolean), .fieldLink RX6 200 "SkiShotsModel" "races" "I", .methodLink RX6 206 yX6_isRacer, .instanceMethod yX6_isRacer, .selects RX6 yX6_isRacer yX6_isRacer, .code yX6_isRacer cX6_isRacer 2 (some .boolean), .fieldLink RX6 197 "SkiShotsModel" "racers" "I", .fieldLink RX6 81 "SkiShotsModel" "entryOf" "[I"] ++ wsX60)
set_option maxRecDepth 20000 in
theorem gc_X6_isIn_X6_isRace_1 : GoodIn w3X6_isIn (wsV RX6 203 RX6 yX6_isRace w3X6_isRace) := goodIn_p _ [5] rfl (by decide +kernel)
set_option maxRecDepth 20000 in
theorem gc_X6_isIn_X6_isRacer_6 : GoodIn w3X6_isIn (wsV RX6 206 RX6 yX6_isRacer w3X6_isRacer) := goodIn_p _ [10] rfl (by decide +kernel)
set_option maxHeartbeats 4000000 in
set_option maxRecDepth 100000 in
theorem g3_X6_isIn (l : Launch) (D : va_G) (h0 : Nat) (q : Nat → Nat) (cq : Nat → ClassId) (F : Nat → Int32) (G : Nat → Nat → Int32) (sz : Nat) (p0 : Int32) (p1 : Int32) (hI : mI F G)  : Met l yX6_isIn w3X6_isIn ({ frames := 1, cells := 0, slots := 0, locals := 21 }) (mPre D h0 q cq F G sz [.ref h0, .int p0, .int p1]) (mQi D h0 q cq F G sz [] [] (fun r F' G' => (r.toInt = 1 ∧ 0 ≤ p0.toInt ∧ p0.toInt < (F 17).toInt ∧ 0 ≤ p1.toInt ∧ p1.toInt < (F 15).toInt) ∨ r.toInt = 0)) 0 0 (va_A (mW h0 q cq F G) sz) := by
  refine mr_met (WF := []) (WG := []) (cc := cX6_isIn) (maxL := 3) (ret := (some .boolean)) (by decide) rfl rfl (by decide +kernel) (Nat.le_of_ble_eq_true rfl) hI ?_
  intro p e s m args below meth c ls E hml hr hlk hsz hA hM hl
  have hx := E.1
  have hb := E.2.1
  have hts := E.2.2.1
  have hown := E.2.2.2.2.1
  have hl : lv_has ls 3 [(0, .ref h0), (1, .int p0), (2, .int p1)] := hl
  refine lv_aload_n hx hb dX6_isIn_0 rfl (lv_at hl 0 rfl) ?_
  refine lv_iload_n hx hb dX6_isIn_1 rfl (lv_at hl 1 rfl) ?_
  have b_2 : 0 ≤ (F 17).toInt ∧ (F 17).toInt ≤ 8 := hM.fb 17 rfl
  refine mr_callp (av := [.int p0]) (rest := []) E hA hml hM (g3_X6_isRace l D h0 q cq F G _ p0 hM.2.2.2.1 ) (cwV 1 hts gc_X6_isIn_X6_isRace_1 rfl rfl rfl (by decide +kernel) ⟨Nat.le_of_ble_eq_true rfl, Nat.le_of_ble_eq_true rfl⟩) rfl hl.1 rfl (Nat.le_of_ble_eq_true rfl) dX6_isIn_2 ⟨Nat.le_of_ble_eq_true rfl, Nat.le_of_ble_eq_true rfl⟩ (fun r_3 H locs p_4 hM => ?_)
  replace p_4 : (r_3.toInt = 1 ∧ 0 ≤ p0.toInt ∧ p0.toInt < (F 17).toInt) ∨ (r_3.toInt = 0 ∧ ¬ (0 ≤ p0.toInt ∧ p0.toInt < (F 17).toInt)) := p_4
  refine mm_if_eq (X := r_3.toInt) (tgt := 34) hx hb dX6_isIn_5 (by decide) rfl (fun c_5 => ?_) (fun c_5 => ?_)
  · refine lv_iconst (v := 0) hx hb dX6_isIn_34 (by decide) ?_
    exact mr_rz (X := 0) E hr hlk hsz hM num_0 (by omega) (show ((0 : Int32).toInt = 1 ∧ 0 ≤ p0.toInt ∧ p0.toInt < (F 17).toInt ∧ 0 ≤ p1.toInt ∧ p1.toInt < (F 15).toInt) ∨ (0 : Int32).toInt = 0 from by have n9 := num_0; omega) dX6_isIn_35
  · refine lv_aload_n hx hb dX6_isIn_8 rfl (lv_at hl 0 rfl) ?_
    refine lv_iload_n hx hb dX6_isIn_9 rfl (lv_at hl 2 rfl) ?_
    have b_7 : 0 ≤ (F 15).toInt ∧ (F 15).toInt ≤ 16 := hM.fb 15 rfl
    refine mr_callp (av := [.int p1]) (rest := []) E hA hml hM (g3_X6_isRacer l D h0 q cq F G _ p1 hM.2.2.2.1 ) (cwV 1 hts gc_X6_isIn_X6_isRacer_6 rfl rfl rfl (by decide +kernel) ⟨Nat.le_of_ble_eq_true rfl, Nat.le_of_ble_eq_true rfl⟩) rfl hl.1 rfl (Nat.le_of_ble_eq_true rfl) dX6_isIn_10 ⟨Nat.le_of_ble_eq_true rfl, Nat.le_of_ble_eq_true rfl⟩ (fun r_8 H locs p_9 hM => ?_)
    replace p_9 : (r_8.toInt = 1 ∧ 0 ≤ p1.toInt ∧ p1.toInt < (F 15).toInt) ∨ (r_8.toInt = 0 ∧ ¬ (0 ≤ p1.toInt ∧ p1.toInt < (F 15).toInt)) := p_9
    refine mm_if_eq (X := r_8.toInt) (tgt := 34) hx hb dX6_isIn_13 (by decide) rfl (fun c_10 => ?_) (fun c_10 => ?_)
    · refine lv_iconst (v := 0) hx hb dX6_isIn_34 (by decide) ?_
      exact mr_rz (X := 0) E hr hlk hsz hM num_0 (by omega) (show ((0 : Int32).toInt = 1 ∧ 0 ≤ p0.toInt ∧ p0.toInt < (F 17).toInt ∧ 0 ≤ p1.toInt ∧ p1.toInt < (F 15).toInt) ∨ (0 : Int32).toInt = 0 from by have n9 := num_0; omega) dX6_isIn_35
    · refine lv_aload_n hx hb dX6_isIn_16 rfl (lv_at hl 0 rfl) ?_
      refine mr_get (v := .ref (q 30)) E hM 30 (by decide) (index := 81) (mm_at 12 rfl) rfl rfl dX6_isIn_17 ?_
      refine lv_bipush (v := 16) hx hb dX6_isIn_20 (by decide) ?_
      refine lv_iload_n hx hb dX6_isIn_22 rfl (lv_at hl 1 rfl) ?_
      refine mm_imul (X := 16) (Y := p0.toInt) hx hb dX6_isIn_23 num_16 rfl (by omega) (fun z_11 hz_11 => ?_)
      refine lv_iload_n hx hb dX6_isIn_24 rfl (lv_at hl 2 rfl) ?_
      refine mm_iadd (X := z_11.toInt) (Y := p1.toInt) hx hb dX6_isIn_25 rfl rfl (by omega) (fun z_12 hz_12 => ?_)
      refine mr_ald (X := z_12.toInt) E hM 23 22 rfl rfl rfl (by omega) dX6_isIn_26 ?_
      have b_13 : -1 ≤ (G 30 (Int32.toNatClampNeg z_12)).toInt ∧ (G 30 (Int32.toNatClampNeg z_12)).toInt ≤ 15 := hM.ab 30 rfl _
      refine mm_if_lt (X := (G 30 (Int32.toNatClampNeg z_12)).toInt) (tgt := 34) hx hb dX6_isIn_27 (by decide) rfl (fun c_14 => ?_) (fun c_14 => ?_)
      · refine lv_iconst (v := 0) hx hb dX6_isIn_34 (by decide) ?_
        exact mr_rz (X := 0) E hr hlk hsz hM num_0 (by omega) (show ((0 : Int32).toInt = 1 ∧ 0 ≤ p0.toInt ∧ p0.toInt < (F 17).toInt ∧ 0 ≤ p1.toInt ∧ p1.toInt < (F 15).toInt) ∨ (0 : Int32).toInt = 0 from by have n9 := num_0; omega) dX6_isIn_35
      · refine lv_iconst (v := 1) hx hb dX6_isIn_30 (by decide) ?_
        refine lv_goto (tgt := 35) hx hb dX6_isIn_31 (by decide) ?_
        exact mr_rz (X := 1) E hr hlk hsz hM num_1 (by omega) (show ((1 : Int32).toInt = 1 ∧ 0 ≤ p0.toInt ∧ p0.toInt < (F 17).toInt ∧ 0 ≤ p1.toInt ∧ p1.toInt < (F 15).toInt) ∨ (1 : Int32).toInt = 0 from by have n9 := num_1; omega) dX6_isIn_35
