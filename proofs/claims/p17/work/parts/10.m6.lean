theorem num_32 : (32 : Int32).toInt = 32 := by decide
theorem num_48 : (48 : Int32).toInt = 48 := by decide
theorem num_57 : (57 : Int32).toInt = 57 := by decide
theorem num_59 : (59 : Int32).toInt = 59 := by decide
theorem num_62 : (62 : Int32).toInt = 62 := by decide
theorem num_65 : (65 : Int32).toInt = 65 := by decide
theorem num_72 : (72 : Int32).toInt = 72 := by decide
theorem num_97 : (97 : Int32).toInt = 97 := by decide
theorem num_122 : (122 : Int32).toInt = 122 := by decide
theorem num_123 : (123 : Int32).toInt = 123 := by decide
theorem num_125 : (125 : Int32).toInt = 125 := by decide
theorem num_99999 : (99999 : Int32).toInt = 99999 := by decide
def w3X6_isSmall : List Cond := .code yX6_isSmall cX6_isSmall 2 (some .boolean) :: ([.fieldLink RX6 135 "SkiShotsModel" "size" "I", .fieldLink RX6 7 "SkiShotsModel" "tape" "[I"] ++ wsX60)
set_option maxHeartbeats 4000000 in
set_option maxRecDepth 100000 in
theorem g3_X6_isSmall (l : Launch) (D : va_G) (h0 : Nat) (q : Nat → Nat) (cq : Nat → ClassId) (F : Nat → Int32) (G : Nat → Nat → Int32) (sz : Nat) (p0 : Int32) (hI : mI F G) (k0 : 0 ≤ p0.toInt) : Met l yX6_isSmall w3X6_isSmall ({ frames := 0, cells := 0, slots := 0, locals := 0 }) (mPre D h0 q cq F G sz [.ref h0, .int p0]) (mQi D h0 q cq F G sz [] [] (fun r F' G' => (r.toInt = 1 ∧ (p0.toInt < (F 39).toInt ∧ 97 ≤ (G 0 (Int32.toNatClampNeg p0)).toInt ∧ (G 0 (Int32.toNatClampNeg p0)).toInt ≤ 122)) ∨ (r.toInt = 0 ∧ ¬ (p0.toInt < (F 39).toInt ∧ 97 ≤ (G 0 (Int32.toNatClampNeg p0)).toInt ∧ (G 0 (Int32.toNatClampNeg p0)).toInt ≤ 122)))) 0 0 (va_A (mW h0 q cq F G) sz) := by
  refine mr_met (WF := []) (WG := []) (cc := cX6_isSmall) (maxL := 2) (ret := (some .boolean)) (by decide) rfl rfl (by decide +kernel) (Nat.le_of_ble_eq_true rfl) hI ?_
  intro p e s m args below meth c ls E hml hr hlk hsz hA hM hl
  have hx := E.1
  have hb := E.2.1
  have hts := E.2.2.1
  have hown := E.2.2.2.2.1
  have hl : lv_has ls 2 [(0, .ref h0), (1, .int p0)] := hl
  refine lv_iload_n hx hb dX6_isSmall_0 rfl (lv_at hl 1 rfl) ?_
  refine lv_aload_n hx hb dX6_isSmall_1 rfl (lv_at hl 0 rfl) ?_
  have b_1 : 0 ≤ (F 39).toInt ∧ (F 39).toInt ≤ 1000 := hM.fb 39 rfl
  refine mr_get (v := .int (F 39)) E hM 39 (by decide) (index := 135) (mm_at 1 rfl) rfl rfl dX6_isSmall_2 ?_
  refine mm_icmp_ge (X := p0.toInt) (Y := (F 39).toInt) (tgt := 34) hx hb dX6_isSmall_5 (by decide) rfl rfl (fun c_2 => ?_) (fun c_2 => ?_)
  · refine lv_iconst (v := 0) hx hb dX6_isSmall_34 (by decide) ?_
    exact mr_rz (X := 0) E hr hlk hsz hM num_0 (by omega) (show ((0 : Int32).toInt = 1 ∧ (p0.toInt < (F 39).toInt ∧ 97 ≤ (G 0 (Int32.toNatClampNeg p0)).toInt ∧ (G 0 (Int32.toNatClampNeg p0)).toInt ≤ 122)) ∨ ((0 : Int32).toInt = 0 ∧ ¬ (p0.toInt < (F 39).toInt ∧ 97 ≤ (G 0 (Int32.toNatClampNeg p0)).toInt ∧ (G 0 (Int32.toNatClampNeg p0)).toInt ≤ 122)) from by have n9 := num_0; omega) dX6_isSmall_35
  · refine lv_aload_n hx hb dX6_isSmall_8 rfl (lv_at hl 0 rfl) ?_
    refine mr_get (v := .ref (q 0)) E hM 0 (by decide) (index := 7) (mm_at 2 rfl) rfl rfl dX6_isSmall_9 ?_
    refine lv_iload_n hx hb dX6_isSmall_12 rfl (lv_at hl 1 rfl) ?_
    refine mr_ald (X := p0.toInt) E hM 1 0 rfl rfl rfl (by omega) dX6_isSmall_13 ?_
    refine lv_bipush (v := 97) hx hb dX6_isSmall_14 (by decide) ?_
    refine mm_icmp_lt (X := (G 0 (Int32.toNatClampNeg p0)).toInt) (Y := 97) (tgt := 34) hx hb dX6_isSmall_16 (by decide) rfl num_97 (fun c_3 => ?_) (fun c_3 => ?_)
    · refine lv_iconst (v := 0) hx hb dX6_isSmall_34 (by decide) ?_
      exact mr_rz (X := 0) E hr hlk hsz hM num_0 (by omega) (show ((0 : Int32).toInt = 1 ∧ (p0.toInt < (F 39).toInt ∧ 97 ≤ (G 0 (Int32.toNatClampNeg p0)).toInt ∧ (G 0 (Int32.toNatClampNeg p0)).toInt ≤ 122)) ∨ ((0 : Int32).toInt = 0 ∧ ¬ (p0.toInt < (F 39).toInt ∧ 97 ≤ (G 0 (Int32.toNatClampNeg p0)).toInt ∧ (G 0 (Int32.toNatClampNeg p0)).toInt ≤ 122)) from by have n9 := num_0; omega) dX6_isSmall_35
    · refine lv_aload_n hx hb dX6_isSmall_19 rfl (lv_at hl 0 rfl) ?_
      refine mr_get (v := .ref (q 0)) E hM 0 (by decide) (index := 7) (mm_at 2 rfl) rfl rfl dX6_isSmall_20 ?_
      refine lv_iload_n hx hb dX6_isSmall_23 rfl (lv_at hl 1 rfl) ?_
      refine mr_ald (X := p0.toInt) E hM 1 0 rfl rfl rfl (by omega) dX6_isSmall_24 ?_
      refine lv_bipush (v := 122) hx hb dX6_isSmall_25 (by decide) ?_
      refine mm_icmp_gt (X := (G 0 (Int32.toNatClampNeg p0)).toInt) (Y := 122) (tgt := 34) hx hb dX6_isSmall_27 (by decide) rfl num_122 (fun c_4 => ?_) (fun c_4 => ?_)
      · refine lv_iconst (v := 0) hx hb dX6_isSmall_34 (by decide) ?_
        exact mr_rz (X := 0) E hr hlk hsz hM num_0 (by omega) (show ((0 : Int32).toInt = 1 ∧ (p0.toInt < (F 39).toInt ∧ 97 ≤ (G 0 (Int32.toNatClampNeg p0)).toInt ∧ (G 0 (Int32.toNatClampNeg p0)).toInt ≤ 122)) ∨ ((0 : Int32).toInt = 0 ∧ ¬ (p0.toInt < (F 39).toInt ∧ 97 ≤ (G 0 (Int32.toNatClampNeg p0)).toInt ∧ (G 0 (Int32.toNatClampNeg p0)).toInt ≤ 122)) from by have n9 := num_0; omega) dX6_isSmall_35
      · refine lv_iconst (v := 1) hx hb dX6_isSmall_30 (by decide) ?_
        refine lv_goto (tgt := 35) hx hb dX6_isSmall_31 (by decide) ?_
        exact mr_rz (X := 1) E hr hlk hsz hM num_1 (by omega) (show ((1 : Int32).toInt = 1 ∧ (p0.toInt < (F 39).toInt ∧ 97 ≤ (G 0 (Int32.toNatClampNeg p0)).toInt ∧ (G 0 (Int32.toNatClampNeg p0)).toInt ≤ 122)) ∨ ((1 : Int32).toInt = 0 ∧ ¬ (p0.toInt < (F 39).toInt ∧ 97 ≤ (G 0 (Int32.toNatClampNeg p0)).toInt ∧ (G 0 (Int32.toNatClampNeg p0)).toInt ≤ 122)) from by have n9 := num_1; omega) dX6_isSmall_35
def w3X6_isDigit : List Cond := .code yX6_isDigit cX6_isDigit 2 (some .boolean) :: ([.fieldLink RX6 135 "SkiShotsModel" "size" "I", .fieldLink RX6 7 "SkiShotsModel" "tape" "[I"] ++ wsX60)
set_option maxHeartbeats 4000000 in
set_option maxRecDepth 100000 in
theorem g3_X6_isDigit (l : Launch) (D : va_G) (h0 : Nat) (q : Nat → Nat) (cq : Nat → ClassId) (F : Nat → Int32) (G : Nat → Nat → Int32) (sz : Nat) (p0 : Int32) (hI : mI F G) (k0 : 0 ≤ p0.toInt) : Met l yX6_isDigit w3X6_isDigit ({ frames := 0, cells := 0, slots := 0, locals := 0 }) (mPre D h0 q cq F G sz [.ref h0, .int p0]) (mQi D h0 q cq F G sz [] [] (fun r F' G' => (r.toInt = 1 ∧ (p0.toInt < (F 39).toInt ∧ 48 ≤ (G 0 (Int32.toNatClampNeg p0)).toInt ∧ (G 0 (Int32.toNatClampNeg p0)).toInt ≤ 57)) ∨ (r.toInt = 0 ∧ ¬ (p0.toInt < (F 39).toInt ∧ 48 ≤ (G 0 (Int32.toNatClampNeg p0)).toInt ∧ (G 0 (Int32.toNatClampNeg p0)).toInt ≤ 57)))) 0 0 (va_A (mW h0 q cq F G) sz) := by
  refine mr_met (WF := []) (WG := []) (cc := cX6_isDigit) (maxL := 2) (ret := (some .boolean)) (by decide) rfl rfl (by decide +kernel) (Nat.le_of_ble_eq_true rfl) hI ?_
  intro p e s m args below meth c ls E hml hr hlk hsz hA hM hl
  have hx := E.1
  have hb := E.2.1
  have hts := E.2.2.1
  have hown := E.2.2.2.2.1
  have hl : lv_has ls 2 [(0, .ref h0), (1, .int p0)] := hl
  refine lv_iload_n hx hb dX6_isDigit_0 rfl (lv_at hl 1 rfl) ?_
  refine lv_aload_n hx hb dX6_isDigit_1 rfl (lv_at hl 0 rfl) ?_
  have b_1 : 0 ≤ (F 39).toInt ∧ (F 39).toInt ≤ 1000 := hM.fb 39 rfl
  refine mr_get (v := .int (F 39)) E hM 39 (by decide) (index := 135) (mm_at 1 rfl) rfl rfl dX6_isDigit_2 ?_
  refine mm_icmp_ge (X := p0.toInt) (Y := (F 39).toInt) (tgt := 34) hx hb dX6_isDigit_5 (by decide) rfl rfl (fun c_2 => ?_) (fun c_2 => ?_)
  · refine lv_iconst (v := 0) hx hb dX6_isDigit_34 (by decide) ?_
    exact mr_rz (X := 0) E hr hlk hsz hM num_0 (by omega) (show ((0 : Int32).toInt = 1 ∧ (p0.toInt < (F 39).toInt ∧ 48 ≤ (G 0 (Int32.toNatClampNeg p0)).toInt ∧ (G 0 (Int32.toNatClampNeg p0)).toInt ≤ 57)) ∨ ((0 : Int32).toInt = 0 ∧ ¬ (p0.toInt < (F 39).toInt ∧ 48 ≤ (G 0 (Int32.toNatClampNeg p0)).toInt ∧ (G 0 (Int32.toNatClampNeg p0)).toInt ≤ 57)) from by have n9 := num_0; omega) dX6_isDigit_35
  · refine lv_aload_n hx hb dX6_isDigit_8 rfl (lv_at hl 0 rfl) ?_
    refine mr_get (v := .ref (q 0)) E hM 0 (by decide) (index := 7) (mm_at 2 rfl) rfl rfl dX6_isDigit_9 ?_
    refine lv_iload_n hx hb dX6_isDigit_12 rfl (lv_at hl 1 rfl) ?_
    refine mr_ald (X := p0.toInt) E hM 1 0 rfl rfl rfl (by omega) dX6_isDigit_13 ?_
    refine lv_bipush (v := 48) hx hb dX6_isDigit_14 (by decide) ?_
    refine mm_icmp_lt (X := (G 0 (Int32.toNatClampNeg p0)).toInt) (Y := 48) (tgt := 34) hx hb dX6_isDigit_16 (by decide) rfl num_48 (fun c_3 => ?_) (fun c_3 => ?_)
    · refine lv_iconst (v := 0) hx hb dX6_isDigit_34 (by decide) ?_
      exact mr_rz (X := 0) E hr hlk hsz hM num_0 (by omega) (show ((0 : Int32).toInt = 1 ∧ (p0.toInt < (F 39).toInt ∧ 48 ≤ (G 0 (Int32.toNatClampNeg p0)).toInt ∧ (G 0 (Int32.toNatClampNeg p0)).toInt ≤ 57)) ∨ ((0 : Int32).toInt = 0 ∧ ¬ (p0.toInt < (F 39).toInt ∧ 48 ≤ (G 0 (Int32.toNatClampNeg p0)).toInt ∧ (G 0 (Int32.toNatClampNeg p0)).toInt ≤ 57)) from by have n9 := num_0; omega) dX6_isDigit_35
    · refine lv_aload_n hx hb dX6_isDigit_19 rfl (lv_at hl 0 rfl) ?_
      refine mr_get (v := .ref (q 0)) E hM 0 (by decide) (index := 7) (mm_at 2 rfl) rfl rfl dX6_isDigit_20 ?_
      refine lv_iload_n hx hb dX6_isDigit_23 rfl (lv_at hl 1 rfl) ?_
      refine mr_ald (X := p0.toInt) E hM 1 0 rfl rfl rfl (by omega) dX6_isDigit_24 ?_
      refine lv_bipush (v := 57) hx hb dX6_isDigit_25 (by decide) ?_
      refine mm_icmp_gt (X := (G 0 (Int32.toNatClampNeg p0)).toInt) (Y := 57) (tgt := 34) hx hb dX6_isDigit_27 (by decide) rfl num_57 (fun c_4 => ?_) (fun c_4 => ?_)
      · refine lv_iconst (v := 0) hx hb dX6_isDigit_34 (by decide) ?_
        exact mr_rz (X := 0) E hr hlk hsz hM num_0 (by omega) (show ((0 : Int32).toInt = 1 ∧ (p0.toInt < (F 39).toInt ∧ 48 ≤ (G 0 (Int32.toNatClampNeg p0)).toInt ∧ (G 0 (Int32.toNatClampNeg p0)).toInt ≤ 57)) ∨ ((0 : Int32).toInt = 0 ∧ ¬ (p0.toInt < (F 39).toInt ∧ 48 ≤ (G 0 (Int32.toNatClampNeg p0)).toInt ∧ (G 0 (Int32.toNatClampNeg p0)).toInt ≤ 57)) from by have n9 := num_0; omega) dX6_isDigit_35
      · refine lv_iconst (v := 1) hx hb dX6_isDigit_30 (by decide) ?_
        refine lv_goto (tgt := 35) hx hb dX6_isDigit_31 (by decide) ?_
        exact mr_rz (X := 1) E hr hlk hsz hM num_1 (by omega) (show ((1 : Int32).toInt = 1 ∧ (p0.toInt < (F 39).toInt ∧ 48 ≤ (G 0 (Int32.toNatClampNeg p0)).toInt ∧ (G 0 (Int32.toNatClampNeg p0)).toInt ≤ 57)) ∨ ((1 : Int32).toInt = 0 ∧ ¬ (p0.toInt < (F 39).toInt ∧ 48 ≤ (G 0 (Int32.toNatClampNeg p0)).toInt ∧ (G 0 (Int32.toNatClampNeg p0)).toInt ≤ 57)) from by have n9 := num_1; omega) dX6_isDigit_35
