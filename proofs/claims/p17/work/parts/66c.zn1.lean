def w7X6_entry : List Cond := .code yX6_entry cX6_entry 3 (some .int) :: ([.fieldLink RX6 126 "SkiShotsModel" "thrown" "I", .methodLink RX6 203 yX6_isRace, .instanceMethod yX6_isRace, .selects RX6 yX6_isRace yX6_isRace, .initialized RX6, .code yX6_isRace cX6_isRace 2 (some .boolean), .fieldLink RX6 200 "SkiShotsModel" "races" "I", .fieldLink RX6 72 "SkiShotsModel" "rEntries" "[I", .fieldLink RX6 78 "SkiShotsModel" "entries" "[I"] ++ wsX60)
set_option maxRecDepth 20000 in
theorem g8_X6_entry_X6_isRace_1 : GoodIn w7X6_entry (wsV RX6 203 RX6 yX6_isRace w3X6_isRace) := goodIn_p _ [6] rfl (by decide +kernel)
set_option maxHeartbeats 4000000 in
set_option maxRecDepth 100000 in
theorem g7_X6_entry (l : Launch) (D : va_G) (h0 : Nat) (q : Nat → Nat) (cq : Nat → ClassId) (F : Nat → Int32) (G : Nat → Nat → Int32) (sz : Nat) (p0 : Int32) (p1 : Int32) (hI : mI F G)  : Met l yX6_entry w7X6_entry ({ frames := 1, cells := 0, slots := 0, locals := 21 }) (mPre D h0 q cq F G sz [.ref h0, .int p0, .int p1]) (mQi D h0 q cq F G sz [2] [] (fun r F' G' => (r.toInt = -1 ∧ ¬ ((0 ≤ p0.toInt ∧ p0.toInt < (F 17).toInt) ∧ 0 ≤ p1.toInt ∧ p1.toInt < (G 27 (Int32.toNatClampNeg p0)).toInt)) ∨ (((0 ≤ p0.toInt ∧ p0.toInt < (F 17).toInt) ∧ 0 ≤ p1.toInt ∧ p1.toInt < (G 27 (Int32.toNatClampNeg p0)).toInt) ∧ r.toInt = (G 29 (16 * Int32.toNatClampNeg p0 + Int32.toNatClampNeg p1)).toInt))) 0 0 (va_A (mW h0 q cq F G) sz) := by
  refine mr_met (WF := [2]) (WG := []) (cc := cX6_entry) (maxL := 3) (ret := (some .int)) (by decide) rfl rfl (by decide +kernel) (Nat.le_of_ble_eq_true rfl) hI ?_
  intro p e s m args below meth c ls E hml hr hlk hsz hA hM hl
  have hx := E.1
  have hb := E.2.1
  have hts := E.2.2.1
  have hown := E.2.2.2.2.1
  have hl : lv_has ls 3 [(0, .ref h0), (1, .int p0), (2, .int p1)] := hl
  refine lv_aload_n hx hb dX6_entry_0 rfl (lv_at hl 0 rfl) ?_
  refine lv_iconst (v := 0) hx hb dX6_entry_1 (by decide) ?_
  refine mr_put (v := 0) E hM 2 (by decide) (index := 126) (mm_at 1 rfl) rfl rfl (by decide +kernel) ms_2 (mm_nb rfl) (by decide) dX6_entry_2 (fun H locs hM => ?_)
  refine lv_aload_n hx hb dX6_entry_5 rfl (lv_at hl 0 rfl) ?_
  refine lv_iload_n hx hb dX6_entry_6 rfl (lv_at hl 1 rfl) ?_
  have b_2 : 0 ≤ (F 17).toInt ∧ (F 17).toInt ≤ 8 := hM.fb 17 rfl
  refine mr_callp (av := [.int p0]) (rest := []) E hA hml hM (g3_X6_isRace l D h0 q cq (upd F 2 0) G _ p0 hM.2.2.2.1 ) (cwV 1 hts g8_X6_entry_X6_isRace_1 rfl rfl rfl (by decide +kernel) ⟨Nat.le_of_ble_eq_true rfl, Nat.le_of_ble_eq_true rfl⟩) rfl hl.1 rfl (Nat.le_of_ble_eq_true rfl) dX6_entry_7 ⟨Nat.le_of_ble_eq_true rfl, Nat.le_of_ble_eq_true rfl⟩ (fun r_3 H locs p_4 hM => ?_)
  replace p_4 : (r_3.toInt = 1 ∧ 0 ≤ p0.toInt ∧ p0.toInt < (F 17).toInt) ∨ (r_3.toInt = 0 ∧ ¬ (0 ≤ p0.toInt ∧ p0.toInt < (F 17).toInt)) := p_4
  refine mm_if_eq (X := r_3.toInt) (tgt := 27) hx hb dX6_entry_10 (by decide) rfl (fun c_5 => ?_) (fun c_5 => ?_)
  · refine lv_iconst (v := (-1)) hx hb dX6_entry_27 (by decide) ?_
    refine lv_goto (tgt := 42) hx hb dX6_entry_28 (by decide) ?_
    exact mr_ri E hr hlk hsz hM (show (((-1) : Int32).toInt = -1 ∧ ¬ ((0 ≤ p0.toInt ∧ p0.toInt < (F 17).toInt) ∧ 0 ≤ p1.toInt ∧ p1.toInt < (G 27 (Int32.toNatClampNeg p0)).toInt)) ∨ (((0 ≤ p0.toInt ∧ p0.toInt < (F 17).toInt) ∧ 0 ≤ p1.toInt ∧ p1.toInt < (G 27 (Int32.toNatClampNeg p0)).toInt) ∧ ((-1) : Int32).toInt = (G 29 (16 * Int32.toNatClampNeg p0 + Int32.toNatClampNeg p1)).toInt) from by have n9 := num_m1; omega) dX6_entry_42
  · refine lv_iload_n hx hb dX6_entry_13 rfl (lv_at hl 2 rfl) ?_
    refine mm_if_lt (X := p1.toInt) (tgt := 27) hx hb dX6_entry_14 (by decide) rfl (fun c_6 => ?_) (fun c_6 => ?_)
    · refine lv_iconst (v := (-1)) hx hb dX6_entry_27 (by decide) ?_
      refine lv_goto (tgt := 42) hx hb dX6_entry_28 (by decide) ?_
      exact mr_ri E hr hlk hsz hM (show (((-1) : Int32).toInt = -1 ∧ ¬ ((0 ≤ p0.toInt ∧ p0.toInt < (F 17).toInt) ∧ 0 ≤ p1.toInt ∧ p1.toInt < (G 27 (Int32.toNatClampNeg p0)).toInt)) ∨ (((0 ≤ p0.toInt ∧ p0.toInt < (F 17).toInt) ∧ 0 ≤ p1.toInt ∧ p1.toInt < (G 27 (Int32.toNatClampNeg p0)).toInt) ∧ ((-1) : Int32).toInt = (G 29 (16 * Int32.toNatClampNeg p0 + Int32.toNatClampNeg p1)).toInt) from by have n9 := num_m1; omega) dX6_entry_42
    · refine lv_iload_n hx hb dX6_entry_17 rfl (lv_at hl 2 rfl) ?_
      refine lv_aload_n hx hb dX6_entry_18 rfl (lv_at hl 0 rfl) ?_
      refine mr_get (v := .ref (q 27)) E hM 27 (by decide) (index := 72) (mm_at 8 rfl) rfl rfl dX6_entry_19 ?_
      refine lv_iload_n hx hb dX6_entry_22 rfl (lv_at hl 1 rfl) ?_
      refine mr_ald (X := p0.toInt) E hM 20 19 rfl rfl rfl (by omega) dX6_entry_23 ?_
      have b_7 : 0 ≤ (G 27 (Int32.toNatClampNeg p0)).toInt ∧ (G 27 (Int32.toNatClampNeg p0)).toInt ≤ 16 := hM.ab 27 rfl _
      refine mm_icmp_lt (X := p1.toInt) (Y := (G 27 (Int32.toNatClampNeg p0)).toInt) (tgt := 31) hx hb dX6_entry_24 (by decide) rfl rfl (fun c_8 => ?_) (fun c_8 => ?_)
      · refine lv_aload_n hx hb dX6_entry_31 rfl (lv_at hl 0 rfl) ?_
        refine mr_get (v := .ref (q 29)) E hM 29 (by decide) (index := 78) (mm_at 9 rfl) rfl rfl dX6_entry_32 ?_
        refine lv_bipush (v := 16) hx hb dX6_entry_35 (by decide) ?_
        refine lv_iload_n hx hb dX6_entry_37 rfl (lv_at hl 1 rfl) ?_
        refine mm_imul (X := 16) (Y := p0.toInt) hx hb dX6_entry_38 num_16 rfl (by omega) (fun z_9 hz_9 => ?_)
        refine lv_iload_n hx hb dX6_entry_39 rfl (lv_at hl 2 rfl) ?_
        refine mm_iadd (X := z_9.toInt) (Y := p1.toInt) hx hb dX6_entry_40 rfl rfl (by omega) (fun z_10 hz_10 => ?_)
        have ex_11 : Int32.toNatClampNeg z_10 = (16 * Int32.toNatClampNeg p0 + Int32.toNatClampNeg p1) := by simp only [mm_nat]; omega
        have ey_11 : (G 29 (Int32.toNatClampNeg z_10)).toInt = (G 29 (16 * Int32.toNatClampNeg p0 + Int32.toNatClampNeg p1)).toInt := by rw [ex_11]
        refine mr_ald (X := z_10.toInt) E hM 22 21 rfl rfl rfl (by omega) dX6_entry_41 ?_
        have b_12 : 0 ≤ (G 29 (Int32.toNatClampNeg z_10)).toInt ∧ (G 29 (Int32.toNatClampNeg z_10)).toInt ≤ 15 := hM.ab 29 rfl _
        exact mr_ri E hr hlk hsz hM (show ((G 29 (Int32.toNatClampNeg z_10)).toInt = -1 ∧ ¬ ((0 ≤ p0.toInt ∧ p0.toInt < (F 17).toInt) ∧ 0 ≤ p1.toInt ∧ p1.toInt < (G 27 (Int32.toNatClampNeg p0)).toInt)) ∨ (((0 ≤ p0.toInt ∧ p0.toInt < (F 17).toInt) ∧ 0 ≤ p1.toInt ∧ p1.toInt < (G 27 (Int32.toNatClampNeg p0)).toInt) ∧ (G 29 (Int32.toNatClampNeg z_10)).toInt = (G 29 (16 * Int32.toNatClampNeg p0 + Int32.toNatClampNeg p1)).toInt) from by omega) dX6_entry_42
      · refine lv_iconst (v := (-1)) hx hb dX6_entry_27 (by decide) ?_
        refine lv_goto (tgt := 42) hx hb dX6_entry_28 (by decide) ?_
        exact mr_ri E hr hlk hsz hM (show (((-1) : Int32).toInt = -1 ∧ ¬ ((0 ≤ p0.toInt ∧ p0.toInt < (F 17).toInt) ∧ 0 ≤ p1.toInt ∧ p1.toInt < (G 27 (Int32.toNatClampNeg p0)).toInt)) ∨ (((0 ≤ p0.toInt ∧ p0.toInt < (F 17).toInt) ∧ 0 ≤ p1.toInt ∧ p1.toInt < (G 27 (Int32.toNatClampNeg p0)).toInt) ∧ ((-1) : Int32).toInt = (G 29 (16 * Int32.toNatClampNeg p0 + Int32.toNatClampNeg p1)).toInt) from by have n9 := num_m1; omega) dX6_entry_42
def w7X6_count : List Cond := .code yX6_count cX6_count 2 (some .int) :: ([.fieldLink RX6 126 "SkiShotsModel" "thrown" "I", .fieldLink RX6 194 "SkiShotsModel" "today" "I", .fieldLink RX6 191 "SkiShotsModel" "formatMany" "I", .fieldLink RX6 197 "SkiShotsModel" "racers" "I", .fieldLink RX6 200 "SkiShotsModel" "races" "I", .fieldLink RX6 217 "SkiShotsModel" "told" "I"] ++ wsX60)
set_option maxHeartbeats 4000000 in
set_option maxRecDepth 100000 in
theorem g7_X6_count (l : Launch) (D : va_G) (h0 : Nat) (q : Nat → Nat) (cq : Nat → ClassId) (F : Nat → Int32) (G : Nat → Nat → Int32) (sz : Nat) (p0 : Int32) (hI : mI F G)  : Met l yX6_count w7X6_count ({ frames := 0, cells := 0, slots := 0, locals := 0 }) (mPre D h0 q cq F G sz [.ref h0, .int p0]) (mQi D h0 q cq F G sz [2] [] (fun r F' G' => (p0.toInt = 0 ∧ r.toInt = (F 3).toInt) ∨ (p0.toInt = 1 ∧ r.toInt = (F 4).toInt) ∨ (p0.toInt = 2 ∧ r.toInt = (F 15).toInt) ∨ (p0.toInt = 3 ∧ r.toInt = (F 17).toInt) ∨ (p0.toInt = 4 ∧ r.toInt = (F 31).toInt) ∨ (¬ (0 ≤ p0.toInt ∧ p0.toInt ≤ 4) ∧ r.toInt = -1))) 0 0 (va_A (mW h0 q cq F G) sz) := by
  refine mr_met (WF := [2]) (WG := []) (cc := cX6_count) (maxL := 2) (ret := (some .int)) (by decide) rfl rfl (by decide +kernel) (Nat.le_of_ble_eq_true rfl) hI ?_
  intro p e s m args below meth c ls E hml hr hlk hsz hA hM hl
  have hx := E.1
  have hb := E.2.1
  have hts := E.2.2.1
  have hown := E.2.2.2.2.1
  have hl : lv_has ls 2 [(0, .ref h0), (1, .int p0)] := hl
  refine lv_aload_n hx hb dX6_count_0 rfl (lv_at hl 0 rfl) ?_
  refine lv_iconst (v := 0) hx hb dX6_count_1 (by decide) ?_
  refine mr_put (v := 0) E hM 2 (by decide) (index := 126) (mm_at 1 rfl) rfl rfl (by decide +kernel) ms_2 (mm_nb rfl) (by decide) dX6_count_2 (fun H locs hM => ?_)
  refine lv_iload_n hx hb dX6_count_5 rfl (lv_at hl 1 rfl) ?_
  by_cases s_1 : p0.toInt = 0
  · refine lv_tableIn (tgt := 40) (off := 34) hx hb dX6_count_6 (by omega) (by omega) (by rw [s_1]; rfl) (by decide) ?_
    refine lv_aload_n hx hb dX6_count_40 rfl (lv_at hl 0 rfl) ?_
    have b_2 : 0 ≤ (F 3).toInt ∧ (F 3).toInt ≤ 200 := hM.fb 3 rfl
    refine mr_get (v := .int (F 3)) E hM 3 (by decide) (index := 194) (mm_at 2 rfl) rfl rfl dX6_count_41 ?_
    exact mr_ri E hr hlk hsz hM (show (p0.toInt = 0 ∧ (F 3).toInt = (F 3).toInt) ∨ (p0.toInt = 1 ∧ (F 3).toInt = (F 4).toInt) ∨ (p0.toInt = 2 ∧ (F 3).toInt = (F 15).toInt) ∨ (p0.toInt = 3 ∧ (F 3).toInt = (F 17).toInt) ∨ (p0.toInt = 4 ∧ (F 3).toInt = (F 31).toInt) ∨ (¬ (0 ≤ p0.toInt ∧ p0.toInt ≤ 4) ∧ (F 3).toInt = -1) from by exact Or.inl (⟨by omega, rfl⟩)) dX6_count_44
  by_cases s_3 : p0.toInt = 1
  · refine lv_tableIn (tgt := 45) (off := 39) hx hb dX6_count_6 (by omega) (by omega) (by rw [s_3]; rfl) (by decide) ?_
    refine lv_aload_n hx hb dX6_count_45 rfl (lv_at hl 0 rfl) ?_
    refine mr_get (v := .int (F 4)) E hM 4 (by decide) (index := 191) (mm_at 3 rfl) rfl rfl dX6_count_46 ?_
    exact mr_ri E hr hlk hsz hM (show (p0.toInt = 0 ∧ (F 4).toInt = (F 3).toInt) ∨ (p0.toInt = 1 ∧ (F 4).toInt = (F 4).toInt) ∨ (p0.toInt = 2 ∧ (F 4).toInt = (F 15).toInt) ∨ (p0.toInt = 3 ∧ (F 4).toInt = (F 17).toInt) ∨ (p0.toInt = 4 ∧ (F 4).toInt = (F 31).toInt) ∨ (¬ (0 ≤ p0.toInt ∧ p0.toInt ≤ 4) ∧ (F 4).toInt = -1) from by exact Or.inr (Or.inl (⟨by omega, rfl⟩))) dX6_count_49
  by_cases s_4 : p0.toInt = 2
  · refine lv_tableIn (tgt := 50) (off := 44) hx hb dX6_count_6 (by omega) (by omega) (by rw [s_4]; rfl) (by decide) ?_
    refine lv_aload_n hx hb dX6_count_50 rfl (lv_at hl 0 rfl) ?_
    have b_5 : 0 ≤ (F 15).toInt ∧ (F 15).toInt ≤ 16 := hM.fb 15 rfl
    refine mr_get (v := .int (F 15)) E hM 15 (by decide) (index := 197) (mm_at 4 rfl) rfl rfl dX6_count_51 ?_
    exact mr_ri E hr hlk hsz hM (show (p0.toInt = 0 ∧ (F 15).toInt = (F 3).toInt) ∨ (p0.toInt = 1 ∧ (F 15).toInt = (F 4).toInt) ∨ (p0.toInt = 2 ∧ (F 15).toInt = (F 15).toInt) ∨ (p0.toInt = 3 ∧ (F 15).toInt = (F 17).toInt) ∨ (p0.toInt = 4 ∧ (F 15).toInt = (F 31).toInt) ∨ (¬ (0 ≤ p0.toInt ∧ p0.toInt ≤ 4) ∧ (F 15).toInt = -1) from by exact Or.inr (Or.inr (Or.inl (⟨by omega, rfl⟩)))) dX6_count_54
  by_cases s_6 : p0.toInt = 3
  · refine lv_tableIn (tgt := 55) (off := 49) hx hb dX6_count_6 (by omega) (by omega) (by rw [s_6]; rfl) (by decide) ?_
    refine lv_aload_n hx hb dX6_count_55 rfl (lv_at hl 0 rfl) ?_
    have b_7 : 0 ≤ (F 17).toInt ∧ (F 17).toInt ≤ 8 := hM.fb 17 rfl
    refine mr_get (v := .int (F 17)) E hM 17 (by decide) (index := 200) (mm_at 5 rfl) rfl rfl dX6_count_56 ?_
    exact mr_ri E hr hlk hsz hM (show (p0.toInt = 0 ∧ (F 17).toInt = (F 3).toInt) ∨ (p0.toInt = 1 ∧ (F 17).toInt = (F 4).toInt) ∨ (p0.toInt = 2 ∧ (F 17).toInt = (F 15).toInt) ∨ (p0.toInt = 3 ∧ (F 17).toInt = (F 17).toInt) ∨ (p0.toInt = 4 ∧ (F 17).toInt = (F 31).toInt) ∨ (¬ (0 ≤ p0.toInt ∧ p0.toInt ≤ 4) ∧ (F 17).toInt = -1) from by exact Or.inr (Or.inr (Or.inr (Or.inl (⟨by omega, rfl⟩))))) dX6_count_59
  by_cases s_8 : p0.toInt = 4
  · refine lv_tableIn (tgt := 60) (off := 54) hx hb dX6_count_6 (by omega) (by omega) (by rw [s_8]; rfl) (by decide) ?_
    refine lv_aload_n hx hb dX6_count_60 rfl (lv_at hl 0 rfl) ?_
    have b_9 : 0 ≤ (F 31).toInt ∧ (F 31).toInt ≤ 400 := hM.fb 31 rfl
    refine mr_get (v := .int (F 31)) E hM 31 (by decide) (index := 217) (mm_at 6 rfl) rfl rfl dX6_count_61 ?_
    exact mr_ri E hr hlk hsz hM (show (p0.toInt = 0 ∧ (F 31).toInt = (F 3).toInt) ∨ (p0.toInt = 1 ∧ (F 31).toInt = (F 4).toInt) ∨ (p0.toInt = 2 ∧ (F 31).toInt = (F 15).toInt) ∨ (p0.toInt = 3 ∧ (F 31).toInt = (F 17).toInt) ∨ (p0.toInt = 4 ∧ (F 31).toInt = (F 31).toInt) ∨ (¬ (0 ≤ p0.toInt ∧ p0.toInt ≤ 4) ∧ (F 31).toInt = -1) from by exact Or.inr (Or.inr (Or.inr (Or.inr (Or.inl (⟨by omega, rfl⟩)))))) dX6_count_64
  · refine lv_tableOut (tgt := 65) hx hb dX6_count_6 (by omega) (by decide) ?_
    refine lv_iconst (v := (-1)) hx hb dX6_count_65 (by decide) ?_
    exact mr_ri E hr hlk hsz hM (show (p0.toInt = 0 ∧ ((-1) : Int32).toInt = (F 3).toInt) ∨ (p0.toInt = 1 ∧ ((-1) : Int32).toInt = (F 4).toInt) ∨ (p0.toInt = 2 ∧ ((-1) : Int32).toInt = (F 15).toInt) ∨ (p0.toInt = 3 ∧ ((-1) : Int32).toInt = (F 17).toInt) ∨ (p0.toInt = 4 ∧ ((-1) : Int32).toInt = (F 31).toInt) ∨ (¬ (0 ≤ p0.toInt ∧ p0.toInt ≤ 4) ∧ ((-1) : Int32).toInt = -1) from by have n9 := num_m1; exact Or.inr (Or.inr (Or.inr (Or.inr (Or.inr (⟨by omega, by omega⟩)))))) dX6_count_66
