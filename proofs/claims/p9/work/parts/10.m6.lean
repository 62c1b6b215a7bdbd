theorem num_32 : (32 : Int32).toInt = 32 := by decide
theorem num_48 : (48 : Int32).toInt = 48 := by decide
theorem num_57 : (57 : Int32).toInt = 57 := by decide
theorem num_59 : (59 : Int32).toInt = 59 := by decide
theorem num_62 : (62 : Int32).toInt = 62 := by decide
theorem num_65 : (65 : Int32).toInt = 65 := by decide
theorem num_72 : (72 : Int32).toInt = 72 := by decide
theorem num_97 : (97 : Int32).toInt = 97 := by decide
theorem num_122 : (122 : Int32).toInt = 122 := by decide
theorem num_123 : (123 : Int32).toInt = 123 := by decide
theorem num_125 : (125 : Int32).toInt = 125 := by decide
theorem num_99999 : (99999 : Int32).toInt = 99999 := by decide
def w3X6_isSmall : List Cond := .code yX6_isSmall cX6_isSmall 2 (some .boolean) :: ([.fieldLink RX6 135 "SkiShotsModel" "size" "I", .fieldLink RX6 7 "SkiShotsModel" "tape" "[I"] ++ wsX60)
set_option maxHeartbeats 4000000 in
set_option maxRecDepth 100000 in
theorem g3_X6_isSmall (l : Launch) (D : va_G) (h0 : Nat) (q : Nat → Nat) (cq : Nat → ClassId) (F : Nat → Int32) (G : Nat → Nat → Int32) (sz : Nat) (p0 : Int32) (hI : mI F G) (k0 : 0 ≤ p0.toInt) : Met l yX6_isSmall w3X6_isSmall ({ frames := 0, cells := 0, slots := 0, locals := 0 }) (mPre D h0 q cq F G sz [.ref h0, .int p0]) (mQi D h0 q cq F G sz [] [] (fun r F' G' => (r.toInt = 1 ∧ (p0.toInt < (F 39).toInt ∧ 97 ≤ (G 0 (Int32.toNatClampNeg p0)).toInt ∧ (G 0 (Int32.toNatClampNeg p0)).toInt ≤ 122)) ∨ (r.toInt = 0 ∧ ¬ (p0.toInt < (F 39).toInt ∧ 97 ≤ (G 0 (Int32.toNatClampNeg p0)).toInt ∧ (G 0 (Int32.toNatClampNeg p0)).toInt ≤ 122)))) 0 0 (va_A (mW h0 q cq F G) sz) := by
  refine mr_met (WF := []) (WG := []) (cc := cX6_isSmall) (maxL := 2) (ret := (some .boolean)) (by decide) rfl rfl (by decide +kernel) (Nat.le_of_ble_eq_true rfl) hI ?_
  intro p e s m args below meth c ls E hml hr hlk hsz hA hM hl
  have hx := E.1
  have hb := E.2.1
  have hts := E.2.2.1
  have hown := E.2.2.2.2.1
  have hl : lv_has ls 2 [(0, .ref h0), (1, .int p0)] := hl
  refine lv_iload_n hx hb dX6_isSmall_0 rfl (lv_at hl 1 rfl) ?_
  refine lv_aload_n hx hb dX6_isSmall_1 rfl (lv_at hl 0 rfl) ?_
  have b_1 : 0 ≤ (F 39).toInt ∧ (F 39).toInt ≤ 1000 := hM.fb 39 rfl
  refine mr_get (v := .int (F 39)) E hM 39 (by decide) (index := 135) (mm_at 1 rfl) rfl rfl dX6_isSmall_2 ?_
  refine mm_icmp_ge (X := p0.toInt) (Y := (F 39).toInt) (tgt := 34) hx hb dX6_isSmall_5 (by decide) rfl rfl (fun c_2 => ?_) (fun c_2 => ?_)
  · refine lv_iconst (v := 0) hx hb dX6_isSmall_34 (by decide) ?_
    exact mr_rz (X := 0) E hr hlk hsz hM num_0 (by omega) (show ((0 : Int32).toInt = 1 ∧ (p0.toInt < (F 39).toInt ∧ 97 ≤ (G 0 (Int32.toNatClampNeg p0)).toInt ∧ (G 0 (Int32.toNatClampNeg p0)).toInt ≤ 122)) ∨ ((0 : Int32).toInt = 0 ∧ ¬ (p0.toInt < (F 39).toInt ∧ 97 ≤ (G 0 (Int32.toNatClampNeg p0)).toInt ∧ (G 0 (Int32.toNatClampNeg p0)).toInt ≤ 122)) from by have n9 := num_0; omega) dX6_isSmall_35
  · refine lv_aload_n hx hb dX6_isSmall_8 rfl (lv_at hl 0 rfl) ?_
    refine mr_get (v := .ref (q 0)) E hM 0 (by decide) (index := 7) (mm_at 2 rfl) rfl rfl dX6_isSmall_9 ?_
    refine lv_iload_n hx hb dX6_isSmall_12 rfl (lv_at hl 1 rfl) ?_
    refine mr_ald (X := p0.toInt) E hM 1 0 rfl rfl rfl (by omega) dX6_isSmall_13 ?_
    refine lv_bipush (v := 97) hx hb dX6_isSmall_14 (by decide) ?_
    refine mm_icmp_lt (X := (G 0 (Int32.toNatClampNeg p0)).toInt) (Y := 97) (tgt := 34) hx hb dX6_isSmall_16 (by decide) rfl num_97 (fun c_3 => ?_) (fun c_3 => ?_)
    · refine lv_iconst (v := 0) hx hb dX6_isSmall_34 (by decide) ?_
      exact mr_rz (X := 0) E hr hlk hsz hM num_0 (by omega) (show ((0 : Int32).toInt = 1 ∧ (p0.toInt < (F 39).toInt ∧ 97 ≤ (G 0 (Int32.toNatClampNeg p0)).toInt ∧ (G 0 (Int32.toNatClampNeg p0)).toInt ≤ 122)) ∨ ((0 : Int32).toInt = 0 ∧ ¬ (p0.toInt < (F 39).toInt ∧ 97 ≤ (G 0 (Int32.toNatClampNeg p0)).toInt ∧ (G 0 (Int32.toNatClampNeg p0)).toInt ≤ 122)) from by have n9 := num_0; omega) dX6_isSmall_35
    · refine lv_aload_n hx hb dX6_isSmall_19 rfl (lv_at hl 0 rfl) ?_
      refine mr_get (v := .ref (q 0)) E hM 0 (by decide) (index := 7) (mm_at 2 rfl) rfl rfl dX6_isSmall_20 ?_
      refine lv_iload_n hx hb dX6_isSmall_23 rfl (lv_at hl 1 rfl) ?_
      refine mr_ald (X := p0.toInt) E hM 1 0 rfl rfl rfl (by omega) dX6_isSmall_24 ?_
      refine lv_bipush (v := 122) hx hb dX6_isSmall_25 (by decide) ?_
      refine mm_icmp_gt (X := (G 0 (Int32.toNatClampNeg p0)).toInt) (Y := 122) (tgt := 34) hx hb dX6_isSmall_27 (by decide) rfl num_122 (fun c_4 => ?_) (fun c_4 => ?_)
      · refine lv_iconst (v := 0) hx hb dX6_isSmall_34 (by decide) ?_
        exact mr_rz (X := 0) E hr hlk hsz hM num_0 (by omega) (show ((0 : Int32).toInt = 1 ∧ (p0.toInt < (F 39).toInt ∧ 97 ≤ (G 0 (Int32.toNatClampNeg p0)).toInt ∧ (G 0 (Int32.toNatClampNeg p0)).toInt ≤ 122)) ∨ ((0 : Int32).toInt = 0 ∧ ¬ (p0.toInt < (F 39).toInt ∧ 97 ≤ (G 0 (Int32.toNatClampNeg p0)).toInt ∧ (G 0 (Int32.toNatClampNeg p0)).toInt ≤ 122)) from by have n9 := num_0; omega) dX6_isSmall_35
      · refine lv_iconst (v := 1) hx hb dX6_isSmall_30 (by decide) ?_
        refine lv_goto (tgt := 35) hx hb dX6_isSmall_31 (by decide) ?_
        exact mr_rz (X := 1) E hr hlk hsz hM num_1 (by omega) (show ((1 : Int32).toInt = 1 ∧ (p0.toInt < (F 39).toInt ∧ 97 ≤ (G 0 (Int32.toNatClampNeg p0)).toInt ∧ (G 0 (Int32.toNatClampNeg p0)).toInt ≤ 122)) ∨ ((1 : Int32).toInt = 0 ∧ ¬ (p0.toInt < (F 39).toInt ∧ 97 ≤ (G 0 (Int32.toNatClampNeg p0)).toInt ∧ (G 0 (Int32.toNatClampNeg p0)).toInt ≤ 122)) from by have n9 := num_1; omega) dX6_isSmall_35
def w3X6_isDigit : List Cond := .code yX6_isDigit cX6_isDigit 2 (some .boolean) :: ([.fieldLink RX6 135 "SkiShotsModel" "size" "I", .fieldLink RX6 7 "SkiShotsModel" "tape" "[I"] ++ wsX60)
set_option maxHeartbeats 4000000 in
set_option maxRecDepth 100000 in
theorem g3_X6_isDigit (l : Launch) (D : va_G) (h0 : Nat) (q : Nat → Nat) (cq : Nat → ClassId) (F : Nat → Int32) (G : Nat → Nat → Int32) (sz : Nat) (p0 : Int32) (hI : mI F G) (k0 : 0 ≤ p0.toInt) : Met l yX6_isDigit w3X6_isDigit ({ frames := 0, cells := 0, slots := 0, locals := 0 }) (mPre D h0 q cq F G sz [.ref h0, .int p0]) (mQi D h0 q cq F G sz [] [] (fun r F' G' => (r.toInt = 1 ∧ (p0.toInt < (F 39).toInt ∧ 48 ≤ (G 0 (Int32.toNatClampNeg p0)).toInt ∧ (G 0 (Int32.toNatClampNeg p0)).toInt ≤ 57)) ∨ (r.toInt = 0 ∧ ¬ (p0.toInt < (F 39).toInt ∧ 48 ≤ (G 0 (Int32.toNatClampNeg p0)).toInt ∧ (G 0 (Int32.toNatClampNeg p0)).toInt ≤ 57)))) 0 0 (va_A (mW h0 q cq F G) sz) := by
  refine mr_met (WF := []) (WG := []) (cc := cX6_isDigit) (maxL := 2) (ret := (some .boolean)) (by decide) rfl rfl (by decide +kernel) (Nat.le_of_ble_eq_true rfl) hI ?_
  intro p e s m args below meth c ls E hml hr hlk hsz hA hM hl
  have hx := E.1
  have hb := E.2.1
  have hts := E.2.2.1
  have hown := E.2.2.2.2.1
  have hl : lv_has ls 2 [(0, .ref h0), (1, .int p0)] := hl
  refine lv_iload_n hx hb dX6_isDigit_0 rfl (lv_at hl 1 rfl) ?_
  refine lv_aload_n hx hb dX6_isDigit_1 rfl (lv_at hl 0 rfl) ?_
  have b_1 : 0 ≤ (F 39).toInt ∧ (F 39).toInt ≤ 1000 := hM.fb 39 rfl
  refine mr_get (v := .int (F 39)) E hM 39 (by decide) (index := 135) (mm_at 1 rfl) rfl rfl dX6_isDigit_2 ?_
  refine mm_icmp_ge (X := p0.toInt) (Y := (F 39).toInt) (tgt := 34) hx hb dX6_isDigit_5 (by decide) rfl rfl (fun c_2 => ?_) (fun c_2 => ?_)
  · refine lv_iconst (v := 0) hx hb dX6_isDigit_34 (by decide) ?_
    exact mr_rz (X := 0) E hr hlk hsz hM num_0 (by omega) (show ((0 : Int32).toInt = 1 ∧ (p0.toInt < (F 39).toInt ∧ 48 ≤ (G 0 (Int32.toNatClampNeg p0)).toInt ∧ (G 0 (Int32.toNatClampNeg p0)).toInt ≤ 57)) ∨ ((0 : Int32).toInt = 0 ∧ ¬ (p0.toInt < (F 39).toInt ∧ 48 ≤ (G 0 (Int32.toNatClampNeg p0)).toInt ∧ (G 0 (Int32.toNatClampNeg p0)).toInt ≤ 57)) from by have n9 := num_0; omega) dX6_isDigit_35
  · refine lv_aload_n hx hb dX6_isDigit_8 rfl (lv_at hl 0 rfl) ?_
    refine mr_get (v := .ref (q 0)) E hM 0 (by decide) (index := 7) (mm_at 2 rfl) rfl rfl dX6_isDigit_9 ?_
    refine lv_iload_n hx hb dX6_isDigit_12 rfl (lv_at hl 1 rfl) ?_
    refine mr_ald (X := p0.toInt) E hM 1 0 rfl rfl rfl (by omega) dX6_isDigit_13 ?_
    refine lv_bipush (v := 48) hx hb dX6_isDigit_14 (by decide) ?_
    refine mm_icmp_lt (X := (G 0 (Int32.toNatClampNeg p0)).toInt) (Y := 48) (tgt := 34) hx hb dX6_isDigit_16 (by decide) rfl num_48 (fun c_3 => ?_) (fun c_3 => ?_)
    · refine lv_iconst (v := 0) hx hb dX6_isDigit_34 (by decide) ?_
      exact mr_rz (X := 0) E hr hlk hsz hM num_0 (by omega) (show ((0 : Int32).toInt = 1 ∧ (p0.toInt < (F 39).toInt ∧ 48 ≤ (G 0 (Int32.toNatClampNeg p0)).toInt ∧ (G 0 (Int32.toNatClampNeg p0)).toInt ≤ 57)) ∨ ((0 : Int32).toInt = 0 ∧ ¬ (p0.toInt < (F 39).toInt ∧ 48 ≤ (G 0 (Int32.toNatClampNeg p0)).toInt ∧ (G 0 (Int32.toNatClampNeg p0)).toInt ≤ 57)) from by have n9 := num_0; omega) dX6_isDigit_35
    · refine lv_aload_n hx hb dX6_isDigit_19 rfl (lv_at hl 0 rfl) ?_
      refine mr_get (v := .ref (q 0)) E hM 0 (by decide) (index := 7) (mm_at 2 rfl) rfl rfl dX6_isDigit_20 ?_
      refine lv_iload_n hx hb dX6_isDigit_23 rfl (lv_at hl 1 rfl) ?_
      refine mr_ald (X := p0.toInt) E hM 1 0 rfl rfl rfl (by omega) dX6_isDigit_24 ?_
      refine lv_bipush (v := 57) hx hb dX6_isDigit_25 (by decide) ?_
      refine mm_icmp_gt (X := (G 0 (Int32.toNatClampNeg p0)).toInt) (Y := 57) (tgt := 34) hx hb dX6_isDigit_27 (by decide) rfl num_57 (fun c_4 => ?_) (fun c_4 => ?_)
      · refine lv_iconst (v := 0) hx hb dX6_isDigit_34 (by decide) ?_
        exact mr_rz (X := 0) E hr hlk hsz hM num_0 (by omega) (show ((0 : Int32).toInt = 1 ∧ (p0.toInt < (F 39).toInt ∧ 48 ≤ (G 0 (Int32.toNatClampNeg p0)).toInt ∧ (G 0 (Int32.toNatClampNeg p0)).toInt ≤ 57)) ∨ ((0 : Int32).toInt = 0 ∧ ¬ (p0.toInt < (F 39).toInt ∧ 48 ≤ (G 0 (Int32.toNatClampNeg p0)).toInt ∧ (G 0 (Int32.toNatClampNeg p0)).toInt ≤ 57)) from by have n9 := num_0; omega) dX6_isDigit_35
      · refine lv_iconst (v := 1) hx hb dX6_isDigit_30 (by decide) ?_
        refine lv_goto (tgt := 35) hx hb dX6_isDigit_31 (by decide) ?_
        exact mr_rz (X := 1) E hr hlk hsz hM num_1 (by omega) (show ((1 : Int32).toInt = 1 ∧ (p0.toInt < (F 39).toInt ∧ 48 ≤ (G 0 (Int32.toNatClampNeg p0)).toInt ∧ (G 0 (Int32.toNatClampNeg p0)).toInt ≤ 57)) ∨ ((1 : Int32).toInt = 0 ∧ ¬ (p0.toInt < (F 39).toInt ∧ 48 ≤ (G 0 (Int32.toNatClampNeg p0)).toInt ∧ (G 0 (Int32.toNatClampNeg p0)).toInt ≤ 57)) from by have n9 := num_1; omega) dX6_isDigit_35
def w3X6_wordAt : List Cond := .code yX6_wordAt cX6_wordAt 8 (some .int) :: ([.fieldLink RX6 102 "SkiShotsModel" "words" "[I", .fieldLink RX6 7 "SkiShotsModel" "tape" "[I"] ++ wsX60)
set_option maxHeartbeats 4000000 in
set_option maxRecDepth 100000 in
theorem g3_X6_wordAt (l : Launch) (D : va_G) (h0 : Nat) (q : Nat → Nat) (cq : Nat → ClassId) (F : Nat → Int32) (G : Nat → Nat → Int32) (sz : Nat) (p0 : Int32) (p1 : Int32) (hI : mI F G) (k0 : 0 ≤ p0.toInt ∧ p0.toInt ≤ 1000) (k1 : 0 ≤ p1.toInt ∧ p1.toInt ≤ 1000) : Met l yX6_wordAt w3X6_wordAt ({ frames := 0, cells := 0, slots := 0, locals := 0 }) (mPre D h0 q cq F G sz [.ref h0, .int p0, .int p1]) (mQi D h0 q cq F G sz [] [] (fun r F' G' => True)) 0 0 (va_A (mW h0 q cq F G) sz) := by
  refine mr_met (WF := []) (WG := []) (cc := cX6_wordAt) (maxL := 8) (ret := (some .int)) (by decide) rfl rfl (by decide +kernel) (Nat.le_of_ble_eq_true rfl) hI ?_
  intro p e s m args below meth c ls E hml hr hlk hsz hA hM hl
  have hx := E.1
  have hb := E.2.1
  have hts := E.2.2.1
  have hown := E.2.2.2.2.1
  have hl : lv_has ls 8 [(0, .ref h0), (1, .int p0), (2, .int p1)] := hl
  have B_5 : ∀ n_5 : Nat, ∀ (H : Heap) (locs : List Loc) (ls : Array Slot) (F_5 : Nat → Int32) (G_5 : Nat → Nat → Int32) (k ad : Int32), (1 ≤ k.toInt ∧ k.toInt ≤ 63) → (0 ≤ ad.toInt ∧ ad.toInt ≤ 62) → k.toInt ≤ ad.toInt + 1 → (62 - ad.toInt) < (n_5 : Int) → mQ D h0 q cq (va_A (mW h0 q cq F G) sz) s.heap [] [] F G H locs F_5 G_5 → lv_has ls 8 [(0, .ref h0), (1, .int p0), (2, .int p1), (3, .int k), (4, .int ad)] → W p l e ({ frames := 0, cells := 0, slots := 0, locals := 0 }) s m args below meth c H locs 0 0 (MQ below (mQi D h0 q cq F G sz [] [] (fun r F' G' => True)) args s 0 0 (va_A (mW h0 q cq F G) sz)) (F0 m 5 ls []) := by
    intro n_5
    induction n_5 with
    | zero => intro H locs ls F_5 G_5 k ad f5_0 f5_1 f5_2 hn hM hl; exact False.elim (by have hfr_5 := hM.fr; omega)
    | succ n_5 ih_5 =>
      intro H locs ls F_5 G_5 k ad f5_0 f5_1 f5_2 hn hM hl
      have hfr_5 := hM.fr
      have B_57 : ∀ n_57 : Nat, ∀ (H : Heap) (locs : List Loc) (ls : Array Slot) (F_57 : Nat → Int32) (G_57 : Nat → Nat → Int32) (nn sa i : Int32), (0 ≤ sa.toInt ∧ sa.toInt ≤ 1) → (0 ≤ nn.toInt ∧ nn.toInt ≤ 61) → (0 ≤ i.toInt ∧ i.toInt ≤ 61) → ad.toInt + nn.toInt ≤ 61 → i.toInt ≤ nn.toInt → sa.toInt = 0 ∨ nn.toInt = p1.toInt - p0.toInt → (nn.toInt - i.toInt) < (n_57 : Int) → mQ D h0 q cq (va_A (mW h0 q cq F G) sz) s.heap [] [] F G H locs F_57 G_57 → lv_has ls 8 [(0, .ref h0), (1, .int p0), (2, .int p1), (3, .int k), (4, .int ad), (5, .int nn), (6, .int sa), (7, .int i)] → W p l e ({ frames := 0, cells := 0, slots := 0, locals := 0 }) s m args below meth c H locs 0 0 (MQ below (mQi D h0 q cq F G sz [] [] (fun r F' G' => True)) args s 0 0 (va_A (mW h0 q cq F G) sz)) (F0 m 57 ls []) := by
        intro n_57
        induction n_57 with
        | zero => intro H locs ls F_57 G_57 nn sa i f57_0 f57_1 f57_2 f57_3 f57_4 f57_5 hn hM hl; exact False.elim (by have hfr_57 := hM.fr; omega)
        | succ n_57 ih_57 =>
          intro H locs ls F_57 G_57 nn sa i f57_0 f57_1 f57_2 f57_3 f57_4 f57_5 hn hM hl
          have hfr_57 := hM.fr
          refine lv_iload hx hb dX6_wordAt_57 (lv_at hl 7 rfl) ?_
          refine lv_iload hx hb dX6_wordAt_59 (lv_at hl 5 rfl) ?_
          refine mm_icmp_ge (X := i.toInt) (Y := nn.toInt) (tgt := 104) hx hb dX6_wordAt_61 (by decide) rfl rfl (fun c_1 => ?_) (fun c_1 => ?_)
          · refine lv_iload hx hb dX6_wordAt_104 (lv_at hl 6 rfl) ?_
            refine mm_if_eq (X := sa.toInt) (tgt := 111) hx hb dX6_wordAt_106 (by decide) rfl (fun c_2 => ?_) (fun c_2 => ?_)
            · refine lv_iload hx hb dX6_wordAt_111 (lv_at hl 4 rfl) ?_
              refine lv_iload hx hb dX6_wordAt_113 (lv_at hl 5 rfl) ?_
              refine lv_iconst (v := 1) hx hb dX6_wordAt_115 (by decide) ?_
              refine mm_iadd (X := nn.toInt) (Y := 1) hx hb dX6_wordAt_116 rfl num_1 (by omega) (fun z_3 hz_3 => ?_)
              refine mm_iadd (X := ad.toInt) (Y := z_3.toInt) hx hb dX6_wordAt_117 rfl rfl (by omega) (fun z_4 hz_4 => ?_)
              refine lv_istore (lv' := [(4, .int z_4), (0, .ref h0), (1, .int p0), (2, .int p1), (3, .int k), (5, .int nn), (6, .int sa), (7, .int i)]) hx hb dX6_wordAt_118 hl (by decide) rfl (fun ls hl => ?_)
              refine mm_iinc (X := k.toInt) (v := 1) (lv2 := fun z => [(3, .int z), (4, .int z_4), (0, .ref h0), (1, .int p0), (2, .int p1), (5, .int nn), (6, .int sa), (7, .int i)]) hx hb dX6_wordAt_120 hl (k := 4) rfl rfl (by decide) num_1 (by omega) (by decide) (fun _ => rfl) (fun z_5 ls hz_5 hl => ?_)
              have hl : lv_has ls 8 [(3, .int z_5), (4, .int z_4), (0, .ref h0), (1, .int p0), (2, .int p1), (5, .int nn), (6, .int sa), (7, .int i)] := hl
              refine lv_goto (tgt := 5) hx hb dX6_wordAt_123 (by decide) ?_
              exact ih_5 _ _ _ F_57 G_57 z_5 z_4 (show (1 ≤ z_5.toInt ∧ z_5.toInt ≤ 63) from by omega) (show (0 ≤ z_4.toInt ∧ z_4.toInt ≤ 62) from by omega) (show z_5.toInt ≤ z_4.toInt + 1 from by omega) (show (62 - z_4.toInt) < ((n_5 : Nat) : Int) from by omega) hM (lv_sub hl [2, 3, 4, 0, 1] rfl)
            · refine lv_iload_n hx hb dX6_wordAt_109 rfl (lv_at hl 3 rfl) ?_
              exact mr_ri E hr hlk hsz hM trivial dX6_wordAt_110
          · refine lv_iload hx hb dX6_wordAt_64 (lv_at hl 6 rfl) ?_
            refine mm_if_eq (X := sa.toInt) (tgt := 104) hx hb dX6_wordAt_66 (by decide) rfl (fun c_6 => ?_) (fun c_6 => ?_)
            · refine lv_iload hx hb dX6_wordAt_104 (lv_at hl 6 rfl) ?_
              refine mm_if_eq (X := sa.toInt) (tgt := 111) hx hb dX6_wordAt_106 (by decide) rfl (fun c_7 => ?_) (fun c_7 => False.elim (by omega))
              refine lv_iload hx hb dX6_wordAt_111 (lv_at hl 4 rfl) ?_
              refine lv_iload hx hb dX6_wordAt_113 (lv_at hl 5 rfl) ?_
              refine lv_iconst (v := 1) hx hb dX6_wordAt_115 (by decide) ?_
              refine mm_iadd (X := nn.toInt) (Y := 1) hx hb dX6_wordAt_116 rfl num_1 (by omega) (fun z_8 hz_8 => ?_)
              refine mm_iadd (X := ad.toInt) (Y := z_8.toInt) hx hb dX6_wordAt_117 rfl rfl (by omega) (fun z_9 hz_9 => ?_)
              refine lv_istore (lv' := [(4, .int z_9), (0, .ref h0), (1, .int p0), (2, .int p1), (3, .int k), (5, .int nn), (6, .int sa), (7, .int i)]) hx hb dX6_wordAt_118 hl (by decide) rfl (fun ls hl => ?_)
              refine mm_iinc (X := k.toInt) (v := 1) (lv2 := fun z => [(3, .int z), (4, .int z_9), (0, .ref h0), (1, .int p0), (2, .int p1), (5, .int nn), (6, .int sa), (7, .int i)]) hx hb dX6_wordAt_120 hl (k := 4) rfl rfl (by decide) num_1 (by omega) (by decide) (fun _ => rfl) (fun z_10 ls hz_10 hl => ?_)
              have hl : lv_has ls 8 [(3, .int z_10), (4, .int z_9), (0, .ref h0), (1, .int p0), (2, .int p1), (5, .int nn), (6, .int sa), (7, .int i)] := hl
              refine lv_goto (tgt := 5) hx hb dX6_wordAt_123 (by decide) ?_
              exact ih_5 _ _ _ F_57 G_57 z_10 z_9 (show (1 ≤ z_10.toInt ∧ z_10.toInt ≤ 63) from by omega) (show (0 ≤ z_9.toInt ∧ z_9.toInt ≤ 62) from by omega) (show z_10.toInt ≤ z_9.toInt + 1 from by omega) (show (62 - z_9.toInt) < ((n_5 : Nat) : Int) from by omega) hM (lv_sub hl [2, 3, 4, 0, 1] rfl)
            · refine lv_aload_n hx hb dX6_wordAt_69 rfl (lv_at hl 0 rfl) ?_
              refine mr_get (v := .ref (q 38)) E hM 38 (by decide) (index := 102) (mm_at 1 rfl) rfl rfl dX6_wordAt_70 ?_
              refine lv_iload hx hb dX6_wordAt_73 (lv_at hl 4 rfl) ?_
              refine lv_iload hx hb dX6_wordAt_75 (lv_at hl 7 rfl) ?_
              refine mm_iadd (X := ad.toInt) (Y := i.toInt) hx hb dX6_wordAt_77 rfl rfl (by omega) (fun z_11 hz_11 => ?_)
              refine mr_ald (X := z_11.toInt) E hM 30 29 rfl rfl rfl (by omega) dX6_wordAt_78 ?_
              refine lv_aload_n hx hb dX6_wordAt_79 rfl (lv_at hl 0 rfl) ?_
              refine mr_get (v := .ref (q 0)) E hM 0 (by decide) (index := 7) (mm_at 2 rfl) rfl rfl dX6_wordAt_80 ?_
              refine lv_iload_n hx hb dX6_wordAt_83 rfl (lv_at hl 1 rfl) ?_
              refine lv_iload hx hb dX6_wordAt_84 (lv_at hl 7 rfl) ?_
              refine mm_iadd (X := p0.toInt) (Y := i.toInt) hx hb dX6_wordAt_86 rfl rfl (by omega) (fun z_12 hz_12 => ?_)
              refine mr_ald (X := z_12.toInt) E hM 1 0 rfl rfl rfl (by omega) dX6_wordAt_87 ?_
              refine mm_icmp_ne (X := (G_57 38 (Int32.toNatClampNeg z_11)).toInt) (Y := (G_57 0 (Int32.toNatClampNeg z_12)).toInt) (tgt := 95) hx hb dX6_wordAt_88 (by decide) rfl rfl (fun c_13 => ?_) (fun c_13 => ?_)
              · refine lv_iconst (v := 0) hx hb dX6_wordAt_95 (by decide) ?_
                refine lv_istore (lv' := [(6, .int 0), (0, .ref h0), (1, .int p0), (2, .int p1), (3, .int k), (4, .int ad), (5, .int nn), (7, .int i)]) hx hb dX6_wordAt_96 hl (by decide) rfl (fun ls hl => ?_)
                refine mm_iinc (X := i.toInt) (v := 1) (lv2 := fun z => [(7, .int z), (6, .int 0), (0, .ref h0), (1, .int p0), (2, .int p1), (3, .int k), (4, .int ad), (5, .int nn)]) hx hb dX6_wordAt_98 hl (k := 7) rfl rfl (by decide) num_1 (by omega) (by decide) (fun _ => rfl) (fun z_14 ls hz_14 hl => ?_)
                have hl : lv_has ls 8 [(7, .int z_14), (6, .int 0), (0, .ref h0), (1, .int p0), (2, .int p1), (3, .int k), (4, .int ad), (5, .int nn)] := hl
                refine lv_goto (tgt := 57) hx hb dX6_wordAt_101 (by decide) ?_
                exact ih_57 _ _ _ F_57 G_57 nn 0 z_14 (show (0 ≤ (0 : Int32).toInt ∧ (0 : Int32).toInt ≤ 1) from by have n_1 := num_0; omega) (show (0 ≤ nn.toInt ∧ nn.toInt ≤ 61) from by have n_1 := num_0; omega) (show (0 ≤ z_14.toInt ∧ z_14.toInt ≤ 61) from by have n_1 := num_0; omega) (show ad.toInt + nn.toInt ≤ 61 from by have n_1 := num_0; omega) (show z_14.toInt ≤ nn.toInt from by have n_1 := num_0; omega) (show (0 : Int32).toInt = 0 ∨ nn.toInt = p1.toInt - p0.toInt from by have n_1 := num_0; omega) (show (nn.toInt - z_14.toInt) < ((n_57 : Nat) : Int) from by have n_1 := num_0; omega) hM (lv_sub hl [2, 3, 4, 5, 6, 7, 1, 0] rfl)
              · refine lv_iconst (v := 1) hx hb dX6_wordAt_91 (by decide) ?_
                refine lv_goto (tgt := 96) hx hb dX6_wordAt_92 (by decide) ?_
                refine lv_istore (lv' := [(6, .int 1), (0, .ref h0), (1, .int p0), (2, .int p1), (3, .int k), (4, .int ad), (5, .int nn), (7, .int i)]) hx hb dX6_wordAt_96 hl (by decide) rfl (fun ls hl => ?_)
                refine mm_iinc (X := i.toInt) (v := 1) (lv2 := fun z => [(7, .int z), (6, .int 1), (0, .ref h0), (1, .int p0), (2, .int p1), (3, .int k), (4, .int ad), (5, .int nn)]) hx hb dX6_wordAt_98 hl (k := 7) rfl rfl (by decide) num_1 (by omega) (by decide) (fun _ => rfl) (fun z_15 ls hz_15 hl => ?_)
                have hl : lv_has ls 8 [(7, .int z_15), (6, .int 1), (0, .ref h0), (1, .int p0), (2, .int p1), (3, .int k), (4, .int ad), (5, .int nn)] := hl
                refine lv_goto (tgt := 57) hx hb dX6_wordAt_101 (by decide) ?_
                exact ih_57 _ _ _ F_57 G_57 nn 1 z_15 (show (0 ≤ (1 : Int32).toInt ∧ (1 : Int32).toInt ≤ 1) from by have n_1 := num_1; omega) (show (0 ≤ nn.toInt ∧ nn.toInt ≤ 61) from by have n_1 := num_1; omega) (show (0 ≤ z_15.toInt ∧ z_15.toInt ≤ 61) from by have n_1 := num_1; omega) (show ad.toInt + nn.toInt ≤ 61 from by have n_1 := num_1; omega) (show z_15.toInt ≤ nn.toInt from by have n_1 := num_1; omega) (show (1 : Int32).toInt = 0 ∨ nn.toInt = p1.toInt - p0.toInt from by have n_1 := num_1; omega) (show (nn.toInt - z_15.toInt) < ((n_57 : Nat) : Int) from by have n_1 := num_1; omega) hM (lv_sub hl [2, 3, 4, 5, 6, 7, 1, 0] rfl)
      have B_18 : ∀ n_18 : Nat, ∀ (H : Heap) (locs : List Loc) (ls : Array Slot) (F_18 : Nat → Int32) (G_18 : Nat → Nat → Int32) (nn : Int32), (0 ≤ nn.toInt ∧ nn.toInt ≤ 61) → ad.toInt + nn.toInt ≤ 61 → (62 - nn.toInt) < (n_18 : Int) → mQ D h0 q cq (va_A (mW h0 q cq F G) sz) s.heap [] [] F G H locs F_18 G_18 → lv_has ls 8 [(0, .ref h0), (1, .int p0), (2, .int p1), (3, .int k), (4, .int ad), (5, .int nn)] → W p l e ({ frames := 0, cells := 0, slots := 0, locals := 0 }) s m args below meth c H locs 0 0 (MQ below (mQi D h0 q cq F G sz [] [] (fun r F' G' => True)) args s 0 0 (va_A (mW h0 q cq F G) sz)) (F0 m 18 ls []) := by
        intro n_18
        induction n_18 with
        | zero => intro H locs ls F_18 G_18 nn f18_0 f18_1 hn hM hl; exact False.elim (by have hfr_18 := hM.fr; omega)
        | succ n_18 ih_18 =>
          intro H locs ls F_18 G_18 nn f18_0 f18_1 hn hM hl
          have hfr_18 := hM.fr
          refine lv_aload_n hx hb dX6_wordAt_18 rfl (lv_at hl 0 rfl) ?_
          refine mr_get (v := .ref (q 38)) E hM 38 (by decide) (index := 102) (mm_at 1 rfl) rfl rfl dX6_wordAt_19 ?_
          refine lv_iload hx hb dX6_wordAt_22 (lv_at hl 4 rfl) ?_
          refine lv_iload hx hb dX6_wordAt_24 (lv_at hl 5 rfl) ?_
          refine mm_iadd (X := ad.toInt) (Y := nn.toInt) hx hb dX6_wordAt_26 rfl rfl (by omega) (fun z_16 hz_16 => ?_)
          refine mr_ald (X := z_16.toInt) E hM 30 29 rfl rfl rfl (by omega) dX6_wordAt_27 ?_
          have hw_17 : ¬ z_16.toInt = 61 ∨ (G_18 38 (Int32.toNatClampNeg z_16)).toInt = 32 := by
            by_cases h : z_16.toInt = 61
            · right; rw [hM.wd, mm_nat, h]; rfl
            · left; exact h
          refine lv_bipush (v := 32) hx hb dX6_wordAt_28 (by decide) ?_
          refine mm_icmp_eq (X := (G_18 38 (Int32.toNatClampNeg z_16)).toInt) (Y := 32) (tgt := 39) hx hb dX6_wordAt_30 (by decide) rfl num_32 (fun c_18 => ?_) (fun c_18 => ?_)
          · refine lv_iload hx hb dX6_wordAt_39 (lv_at hl 5 rfl) ?_
            refine lv_iload_n hx hb dX6_wordAt_41 rfl (lv_at hl 2 rfl) ?_
            refine lv_iload_n hx hb dX6_wordAt_42 rfl (lv_at hl 1 rfl) ?_
            refine mm_isub (X := p1.toInt) (Y := p0.toInt) hx hb dX6_wordAt_43 rfl rfl (by omega) (fun z_19 hz_19 => ?_)
            refine mm_icmp_ne (X := nn.toInt) (Y := z_19.toInt) (tgt := 51) hx hb dX6_wordAt_44 (by decide) rfl rfl (fun c_20 => ?_) (fun c_20 => ?_)
            · refine lv_iconst (v := 0) hx hb dX6_wordAt_51 (by decide) ?_
              refine lv_istore (lv' := [(6, .int 0), (0, .ref h0), (1, .int p0), (2, .int p1), (3, .int k), (4, .int ad), (5, .int nn)]) hx hb dX6_wordAt_52 hl (by decide) rfl (fun ls hl => ?_)
              refine lv_iconst (v := 0) hx hb dX6_wordAt_54 (by decide) ?_
              refine lv_istore (lv' := [(7, .int 0), (6, .int 0), (0, .ref h0), (1, .int p0), (2, .int p1), (3, .int k), (4, .int ad), (5, .int nn)]) hx hb dX6_wordAt_55 hl (by decide) rfl (fun ls hl => ?_)
              exact B_57 4294967296 _ _ _ F_18 G_18 nn 0 0 (show (0 ≤ (0 : Int32).toInt ∧ (0 : Int32).toInt ≤ 1) from by have n_1 := num_0; have n_2 := num_0; omega) (show (0 ≤ nn.toInt ∧ nn.toInt ≤ 61) from by have n_1 := num_0; have n_2 := num_0; omega) (show (0 ≤ (0 : Int32).toInt ∧ (0 : Int32).toInt ≤ 61) from by have n_1 := num_0; have n_2 := num_0; omega) (show ad.toInt + nn.toInt ≤ 61 from by have n_1 := num_0; have n_2 := num_0; omega) (show (0 : Int32).toInt ≤ nn.toInt from by have n_1 := num_0; have n_2 := num_0; omega) (show (0 : Int32).toInt = 0 ∨ nn.toInt = p1.toInt - p0.toInt from by have n_1 := num_0; have n_2 := num_0; omega) (show (nn.toInt - (0 : Int32).toInt) < ((4294967296 : Nat) : Int) from by have n_1 := num_0; have n_2 := num_0; omega) hM (lv_sub hl [2, 3, 4, 5, 6, 7, 1, 0] rfl)
            · refine lv_iconst (v := 1) hx hb dX6_wordAt_47 (by decide) ?_
              refine lv_goto (tgt := 52) hx hb dX6_wordAt_48 (by decide) ?_
              refine lv_istore (lv' := [(6, .int 1), (0, .ref h0), (1, .int p0), (2, .int p1), (3, .int k), (4, .int ad), (5, .int nn)]) hx hb dX6_wordAt_52 hl (by decide) rfl (fun ls hl => ?_)
              refine lv_iconst (v := 0) hx hb dX6_wordAt_54 (by decide) ?_
              refine lv_istore (lv' := [(7, .int 0), (6, .int 1), (0, .ref h0), (1, .int p0), (2, .int p1), (3, .int k), (4, .int ad), (5, .int nn)]) hx hb dX6_wordAt_55 hl (by decide) rfl (fun ls hl => ?_)
              exact B_57 4294967296 _ _ _ F_18 G_18 nn 1 0 (show (0 ≤ (1 : Int32).toInt ∧ (1 : Int32).toInt ≤ 1) from by have n_1 := num_1; have n_2 := num_0; omega) (show (0 ≤ nn.toInt ∧ nn.toInt ≤ 61) from by have n_1 := num_1; have n_2 := num_0; omega) (show (0 ≤ (0 : Int32).toInt ∧ (0 : Int32).toInt ≤ 61) from by have n_1 := num_1; have n_2 := num_0; omega) (show ad.toInt + nn.toInt ≤ 61 from by have n_1 := num_1; have n_2 := num_0; omega) (show (0 : Int32).toInt ≤ nn.toInt from by have n_1 := num_1; have n_2 := num_0; omega) (show (1 : Int32).toInt = 0 ∨ nn.toInt = p1.toInt - p0.toInt from by have n_1 := num_1; have n_2 := num_0; omega) (show (nn.toInt - (0 : Int32).toInt) < ((4294967296 : Nat) : Int) from by have n_1 := num_1; have n_2 := num_0; omega) hM (lv_sub hl [2, 3, 4, 5, 6, 7, 1, 0] rfl)
          · refine mm_iinc (X := nn.toInt) (v := 1) (lv2 := fun z => [(5, .int z), (0, .ref h0), (1, .int p0), (2, .int p1), (3, .int k), (4, .int ad)]) hx hb dX6_wordAt_33 hl (k := 5) rfl rfl (by decide) num_1 (by omega) (by decide) (fun _ => rfl) (fun z_21 ls hz_21 hl => ?_)
            have hl : lv_has ls 8 [(5, .int z_21), (0, .ref h0), (1, .int p0), (2, .int p1), (3, .int k), (4, .int ad)] := hl
            refine lv_goto (tgt := 18) hx hb dX6_wordAt_36 (by decide) ?_
            exact ih_18 _ _ _ F_18 G_18 z_21 (show (0 ≤ z_21.toInt ∧ z_21.toInt ≤ 61) from by omega) (show ad.toInt + z_21.toInt ≤ 61 from by omega) (show (62 - z_21.toInt) < ((n_18 : Nat) : Int) from by omega) hM (lv_sub hl [1, 2, 3, 4, 5, 0] rfl)
      refine lv_iload hx hb dX6_wordAt_5 (lv_at hl 4 rfl) ?_
      refine lv_aload_n hx hb dX6_wordAt_7 rfl (lv_at hl 0 rfl) ?_
      refine mr_get (v := .ref (q 38)) E hM 38 (by decide) (index := 102) (mm_at 1 rfl) rfl rfl dX6_wordAt_8 ?_
      refine mr_alen (v := 62) E hM 30 29 rfl rfl (by decide) dX6_wordAt_11 ?_
      refine mm_icmp_ge (X := ad.toInt) (Y := 62) (tgt := 126) hx hb dX6_wordAt_12 (by decide) rfl num_62 (fun c_22 => ?_) (fun c_22 => ?_)
      · refine lv_iconst (v := (-1)) hx hb dX6_wordAt_126 (by decide) ?_
        exact mr_ri E hr hlk hsz hM trivial dX6_wordAt_127
      · refine lv_iconst (v := 0) hx hb dX6_wordAt_15 (by decide) ?_
        refine lv_istore (lv' := [(5, .int 0), (0, .ref h0), (1, .int p0), (2, .int p1), (3, .int k), (4, .int ad)]) hx hb dX6_wordAt_16 hl (by decide) rfl (fun ls hl => ?_)
        exact B_18 4294967296 _ _ _ F_5 G_5 0 (show (0 ≤ (0 : Int32).toInt ∧ (0 : Int32).toInt ≤ 61) from by have n_0 := num_0; omega) (show ad.toInt + (0 : Int32).toInt ≤ 61 from by have n_0 := num_0; omega) (show (62 - (0 : Int32).toInt) < ((4294967296 : Nat) : Int) from by have n_0 := num_0; omega) hM (lv_sub hl [1, 2, 3, 4, 5, 0] rfl)
  refine lv_iconst (v := 1) hx hb dX6_wordAt_0 (by decide) ?_
  refine lv_istore_n (lv' := [(3, .int 1), (0, .ref h0), (1, .int p0), (2, .int p1)]) hx hb dX6_wordAt_1 rfl hl (by decide) rfl (fun ls hl => ?_)
  refine lv_iconst (v := 0) hx hb dX6_wordAt_2 (by decide) ?_
  refine lv_istore (lv' := [(4, .int 0), (3, .int 1), (0, .ref h0), (1, .int p0), (2, .int p1)]) hx hb dX6_wordAt_3 hl (by decide) rfl (fun ls hl => ?_)
  exact B_5 4294967296 _ _ _ F G 1 0 (show (1 ≤ (1 : Int32).toInt ∧ (1 : Int32).toInt ≤ 63) from by have n_0 := num_1; have n_1 := num_0; omega) (show (0 ≤ (0 : Int32).toInt ∧ (0 : Int32).toInt ≤ 62) from by have n_0 := num_1; have n_1 := num_0; omega) (show (1 : Int32).toInt ≤ (0 : Int32).toInt + 1 from by have n_0 := num_1; have n_1 := num_0; omega) (show (62 - (0 : Int32).toInt) < ((4294967296 : Nat) : Int) from by have n_0 := num_1; have n_1 := num_0; omega) hM (lv_sub hl [2, 3, 4, 1, 0] rfl)
def w3X6_take : List Cond := .code yX6_take cX6_take 1 none :: ([.fieldLink RX6 138 "SkiShotsModel" "next" "I", .methodLink RX6 158 yX6_isDigit, .instanceMethod yX6_isDigit, .selects RX6 yX6_isDigit yX6_isDigit, .initialized RX6, .code yX6_isDigit cX6_isDigit 2 (some .boolean), .fieldLink RX6 135 "SkiShotsModel" "size" "I", .fieldLink RX6 7 "SkiShotsModel" "tape" "[I", .fieldLink RX6 155 "SkiShotsModel" "which" "I", .constant RX6 161 (99999), .methodLink RX6 147 yX6_isSmall, .instanceMethod yX6_isSmall, .selects RX6 yX6_isSmall yX6_isSmall, .code yX6_isSmall cX6_isSmall 2 (some .boolean), .fieldLink RX6 141 "SkiShotsModel" "place" "I", .methodLink RX6 151 yX6_wordAt, .instanceMethod yX6_wordAt, .selects RX6 yX6_wordAt yX6_wordAt, .code yX6_wordAt cX6_wordAt 8 (some .int), .fieldLink RX6 102 "SkiShotsModel" "words" "[I", .fieldLink RX6 144 "SkiShotsModel" "kind" "I"] ++ wsX60)
set_option maxRecDepth 20000 in
theorem gc_X6_take_X6_isDigit_2 : GoodIn w3X6_take (wsV RX6 158 RX6 yX6_isDigit w3X6_isDigit) := goodIn_p _ [6] rfl (by decide +kernel)
set_option maxRecDepth 20000 in
theorem gc_X6_take_X6_isSmall_18 : GoodIn w3X6_take (wsV RX6 147 RX6 yX6_isSmall w3X6_isSmall) := goodIn_p _ [14] rfl (by decide +kernel)
set_option maxRecDepth 20000 in
theorem gc_X6_take_X6_wordAt_25 : GoodIn w3X6_take (wsV RX6 151 RX6 yX6_wordAt w3X6_wordAt) := goodIn_p _ [19] rfl (by decide +kernel)
set_option maxRecDepth 20000 in
theorem gc_X6_take_X6_isSmall_36 : GoodIn w3X6_take (wsV RX6 147 RX6 yX6_isSmall w3X6_isSmall) := goodIn_p _ [14] rfl (by decide +kernel)
set_option maxRecDepth 20000 in
theorem gc_X6_take_X6_isDigit_40 : GoodIn w3X6_take (wsV RX6 158 RX6 yX6_isDigit w3X6_isDigit) := goodIn_p _ [6] rfl (by decide +kernel)
set_option maxRecDepth 20000 in
theorem gc_X6_take_X6_isSmall_57 : GoodIn w3X6_take (wsV RX6 147 RX6 yX6_isSmall w3X6_isSmall) := goodIn_p _ [14] rfl (by decide +kernel)
set_option maxRecDepth 20000 in
theorem gc_X6_take_X6_isDigit_61 : GoodIn w3X6_take (wsV RX6 158 RX6 yX6_isDigit w3X6_isDigit) := goodIn_p _ [6] rfl (by decide +kernel)
set_option maxHeartbeats 4000000 in
set_option maxRecDepth 100000 in
theorem g3_X6_take (l : Launch) (D : va_G) (h0 : Nat) (q : Nat → Nat) (cq : Nat → ClassId) (F : Nat → Int32) (G : Nat → Nat → Int32) (sz : Nat)  (hI : mI F G) (hns : (F 40).toInt ≤ (F 39).toInt) : Met l yX6_take w3X6_take ({ frames := 1, cells := 0, slots := 0, locals := 27 }) (mPre D h0 q cq F G sz [.ref h0]) (mQv D h0 q cq F G sz [40, 41, 42, 43] [] (fun F' G' => (F' 40).toInt ≤ (F 39).toInt ∧ (F 40).toInt ≤ (F' 40).toInt ∧ ((F' 41).toInt = 0 ∨ (F 40).toInt < (F' 40).toInt) ∧ (¬ (F' 41).toInt = 2 ∨ (65 ≤ (F' 42).toInt ∧ (F' 42).toInt ≤ 72)))) 0 0 (va_A (mW h0 q cq F G) sz) := by
  refine mr_met (WF := [40, 41, 42, 43]) (WG := []) (cc := cX6_take) (maxL := 1) (ret := none) (by decide) rfl rfl (by decide +kernel) (Nat.le_of_ble_eq_true rfl) hI ?_
  intro p e s m args below meth c ls E hml hr hlk hsz hA hM hl
  have hx := E.1
  have hb := E.2.1
  have hts := E.2.2.1
  have hown := E.2.2.2.2.1
  have hl : lv_has ls 1 [(0, .ref h0)] := hl
  have B_170 : ∀ n_170 : Nat, ∀ (H : Heap) (locs : List Loc) (ls : Array Slot) (F_170 : Nat → Int32) (G_170 : Nat → Nat → Int32), (F_170 40).toInt ≤ (F 39).toInt → (F 40).toInt ≤ (F_170 40).toInt → (F_170 41).toInt = 3 → (F 40).toInt < (F_170 40).toInt ∨ ((F_170 40).toInt < (F 39).toInt ∧ 48 ≤ (G_170 0 (Int32.toNatClampNeg (F_170 40))).toInt ∧ (G_170 0 (Int32.toNatClampNeg (F_170 40))).toInt ≤ 57) → ((F 39).toInt - (F_170 40).toInt) < (n_170 : Int) → mQ D h0 q cq (va_A (mW h0 q cq F G) sz) s.heap [40, 41, 42, 43] [] F G H locs F_170 G_170 → lv_has ls 1 [(0, .ref h0)] → W p l e ({ frames := 1, cells := 0, slots := 0, locals := 27 }) s m args below meth c H locs 0 0 (MQ below (mQv D h0 q cq F G sz [40, 41, 42, 43] [] (fun F' G' => (F' 40).toInt ≤ (F 39).toInt ∧ (F 40).toInt ≤ (F' 40).toInt ∧ ((F' 41).toInt = 0 ∨ (F 40).toInt < (F' 40).toInt) ∧ (¬ (F' 41).toInt = 2 ∨ (65 ≤ (F' 42).toInt ∧ (F' 42).toInt ≤ 72)))) args s 0 0 (va_A (mW h0 q cq F G) sz)) (F0 m 170 ls []) := by
    intro n_170
    induction n_170 with
    | zero => intro H locs ls F_170 G_170  f170_0 f170_1 f170_2 f170_3 hn hM hl; exact False.elim (by have hfr_170 := hM.fr; omega)
    | succ n_170 ih_170 =>
      intro H locs ls F_170 G_170  f170_0 f170_1 f170_2 f170_3 hn hM hl
      have hfr_170 := hM.fr
      refine lv_aload_n hx hb dX6_take_170 rfl (lv_at hl 0 rfl) ?_
      refine lv_aload_n hx hb dX6_take_171 rfl (lv_at hl 0 rfl) ?_
      have b_1 : 0 ≤ (F_170 40).toInt ∧ (F_170 40).toInt ≤ 1000 := hM.fb 40 rfl
      refine mr_get (v := .int (F_170 40)) E hM 40 (by decide) (index := 138) (mm_at 1 rfl) rfl rfl dX6_take_172 ?_
      have b_3 : 0 ≤ (F_170 39).toInt ∧ (F_170 39).toInt ≤ 1000 := hM.fb 39 rfl
      have e_4 : (F_170 39).toInt = (F 39).toInt := (congrArg Int32.toInt (hfr_170.1 39 (by decide))).trans rfl
      refine mr_callp (av := [.int (F_170 40)]) (rest := []) E hA hml hM (g3_X6_isDigit l D h0 q cq F_170 G_170 _ (F_170 40) hM.2.2.2.1 (show 0 ≤ (F_170 40).toInt from by omega)) (cwV 1 hts gc_X6_take_X6_isDigit_2 rfl rfl rfl (by decide +kernel) ⟨Nat.le_of_ble_eq_true rfl, Nat.le_of_ble_eq_true rfl⟩) rfl hl.1 rfl (Nat.le_of_ble_eq_true rfl) dX6_take_175 ⟨Nat.le_of_ble_eq_true rfl, Nat.le_of_ble_eq_true rfl⟩ (fun r_5 H locs p_6 hM => ?_)
      replace p_6 : (r_5.toInt = 1 ∧ ((F_170 40).toInt < (F_170 39).toInt ∧ 48 ≤ (G_170 0 (Int32.toNatClampNeg (F_170 40))).toInt ∧ (G_170 0 (Int32.toNatClampNeg (F_170 40))).toInt ≤ 57)) ∨ (r_5.toInt = 0 ∧ ¬ ((F_170 40).toInt < (F_170 39).toInt ∧ 48 ≤ (G_170 0 (Int32.toNatClampNeg (F_170 40))).toInt ∧ (G_170 0 (Int32.toNatClampNeg (F_170 40))).toInt ≤ 57)) := p_6
      refine mm_if_eq (X := r_5.toInt) (tgt := 315) hx hb dX6_take_178 (by decide) rfl (fun c_7 => ?_) (fun c_7 => ?_)
      · have b_8 : 0 ≤ (F_170 41).toInt ∧ (F_170 41).toInt ≤ 5 := hM.fb 41 rfl
        exact mr_rv E hr hlk hsz hM (show (F_170 40).toInt ≤ (F 39).toInt ∧ (F 40).toInt ≤ (F_170 40).toInt ∧ ((F_170 41).toInt = 0 ∨ (F 40).toInt < (F_170 40).toInt) ∧ (¬ (F_170 41).toInt = 2 ∨ (65 ≤ (F_170 42).toInt ∧ (F_170 42).toInt ≤ 72)) from by omega) dX6_take_315
      · refine lv_aload_n hx hb dX6_take_181 rfl (lv_at hl 0 rfl) ?_
        refine lv_aload_n hx hb dX6_take_182 rfl (lv_at hl 0 rfl) ?_
        refine mr_get (v := .int (F_170 42)) E hM 42 (by decide) (index := 155) (mm_at 9 rfl) rfl rfl dX6_take_183 ?_
        refine lv_ldc (v := 99999) hx hb hown (hts _ (mm_at 10 rfl)) dX6_take_186 ?_
        refine mm_icmp_le (X := (F_170 42).toInt) (Y := 99999) (tgt := 198) hx hb dX6_take_188 (by decide) rfl num_99999 (fun c_9 => ?_) (fun c_9 => ?_)
        · refine lv_bipush (v := 10) hx hb dX6_take_198 (by decide) ?_
          refine lv_aload_n hx hb dX6_take_200 rfl (lv_at hl 0 rfl) ?_
          refine mr_get (v := .int (F_170 42)) E hM 42 (by decide) (index := 155) (mm_at 9 rfl) rfl rfl dX6_take_201 ?_
          refine mm_imulU hx hb dX6_take_204 (fun z_10 => ?_)
          refine lv_aload_n hx hb dX6_take_205 rfl (lv_at hl 0 rfl) ?_
          refine mr_get (v := .ref (q 0)) E hM 0 (by decide) (index := 7) (mm_at 8 rfl) rfl rfl dX6_take_206 ?_
          refine lv_aload_n hx hb dX6_take_209 rfl (lv_at hl 0 rfl) ?_
          refine mr_get (v := .int (F_170 40)) E hM 40 (by decide) (index := 138) (mm_at 1 rfl) rfl rfl dX6_take_210 ?_
          refine mr_ald (X := (F_170 40).toInt) E hM 1 0 rfl rfl rfl (by omega) dX6_take_213 ?_
          refine mm_iaddU hx hb dX6_take_214 (fun z_11 => ?_)
          refine lv_bipush (v := 48) hx hb dX6_take_215 (by decide) ?_
          refine mm_isubU hx hb dX6_take_217 (fun z_12 => ?_)
          refine mr_put (v := z_12) E hM 42 (by decide) (index := 155) (mm_at 9 rfl) rfl rfl (by decide +kernel) ms_42 (mm_nb rfl) (by decide) dX6_take_218 (fun H locs hM => ?_)
          refine lv_aload_n hx hb dX6_take_221 rfl (lv_at hl 0 rfl) ?_
          refine lv_dup hx hb dX6_take_222 rfl ?_
          refine mr_get (v := .int (F_170 40)) E hM 40 (by decide) (index := 138) (mm_at 1 rfl) rfl rfl dX6_take_223 ?_
          refine lv_iconst (v := 1) hx hb dX6_take_226 (by decide) ?_
          refine mm_iadd (X := (F_170 40).toInt) (Y := 1) hx hb dX6_take_227 rfl num_1 (by omega) (fun z_13 hz_13 => ?_)
          refine mr_put (v := z_13) E hM 40 (by decide) (index := 138) (mm_at 1 rfl) rfl rfl (by decide +kernel) ms_40 (mm_bd (X := z_13.toInt) (a := 0) (b := 1000) rfl rfl (by omega)) (by decide) dX6_take_228 (fun H locs hM => ?_)
          refine lv_goto (tgt := 170) hx hb dX6_take_231 (by decide) ?_
          have b_14 : 0 ≤ (F_170 41).toInt ∧ (F_170 41).toInt ≤ 5 := hM.fb 41 rfl
          exact ih_170 _ _ _ (upd (upd F_170 42 z_12) 40 z_13) G_170  (show z_13.toInt ≤ (F 39).toInt from by omega) (show (F 40).toInt ≤ z_13.toInt from by omega) (show (F_170 41).toInt = 3 from by omega) (show (F 40).toInt < z_13.toInt ∨ (z_13.toInt < (F 39).toInt ∧ 48 ≤ (G_170 0 (Int32.toNatClampNeg z_13)).toInt ∧ (G_170 0 (Int32.toNatClampNeg z_13)).toInt ≤ 57) from by omega) (show ((F 39).toInt - z_13.toInt) < ((n_170 : Nat) : Int) from by omega) hM (lv_sub hl [0] rfl)
        · refine lv_aload_n hx hb dX6_take_191 rfl (lv_at hl 0 rfl) ?_
          refine mr_get (v := .int (F_170 42)) E hM 42 (by decide) (index := 155) (mm_at 9 rfl) rfl rfl dX6_take_192 ?_
          refine lv_goto (tgt := 218) hx hb dX6_take_195 (by decide) ?_
          refine mr_put (v := (F_170 42)) E hM 42 (by decide) (index := 155) (mm_at 9 rfl) rfl rfl (by decide +kernel) ms_42 (mm_nb rfl) (by decide) dX6_take_218 (fun H locs hM => ?_)
          refine lv_aload_n hx hb dX6_take_221 rfl (lv_at hl 0 rfl) ?_
          refine lv_dup hx hb dX6_take_222 rfl ?_
          refine mr_get (v := .int (F_170 40)) E hM 40 (by decide) (index := 138) (mm_at 1 rfl) rfl rfl dX6_take_223 ?_
          refine lv_iconst (v := 1) hx hb dX6_take_226 (by decide) ?_
          refine mm_iadd (X := (F_170 40).toInt) (Y := 1) hx hb dX6_take_227 rfl num_1 (by omega) (fun z_15 hz_15 => ?_)
          refine mr_put (v := z_15) E hM 40 (by decide) (index := 138) (mm_at 1 rfl) rfl rfl (by decide +kernel) ms_40 (mm_bd (X := z_15.toInt) (a := 0) (b := 1000) rfl rfl (by omega)) (by decide) dX6_take_228 (fun H locs hM => ?_)
          refine lv_goto (tgt := 170) hx hb dX6_take_231 (by decide) ?_
          have b_16 : 0 ≤ (F_170 41).toInt ∧ (F_170 41).toInt ≤ 5 := hM.fb 41 rfl
          exact ih_170 _ _ _ (upd (upd F_170 42 (F_170 42)) 40 z_15) G_170  (show z_15.toInt ≤ (F 39).toInt from by omega) (show (F 40).toInt ≤ z_15.toInt from by omega) (show (F_170 41).toInt = 3 from by omega) (show (F 40).toInt < z_15.toInt ∨ (z_15.toInt < (F 39).toInt ∧ 48 ≤ (G_170 0 (Int32.toNatClampNeg z_15)).toInt ∧ (G_170 0 (Int32.toNatClampNeg z_15)).toInt ≤ 57) from by omega) (show ((F 39).toInt - z_15.toInt) < ((n_170 : Nat) : Int) from by omega) hM (lv_sub hl [0] rfl)
  have B_90 : ∀ n_90 : Nat, ∀ (H : Heap) (locs : List Loc) (ls : Array Slot) (F_90 : Nat → Int32) (G_90 : Nat → Nat → Int32), (F_90 40).toInt ≤ (F 39).toInt → (F 40).toInt ≤ (F_90 40).toInt → (F_90 43).toInt ≤ (F_90 40).toInt → (F 40).toInt < (F_90 40).toInt ∨ ((F_90 40).toInt < (F 39).toInt ∧ 97 ≤ (G_90 0 (Int32.toNatClampNeg (F_90 40))).toInt ∧ (G_90 0 (Int32.toNatClampNeg (F_90 40))).toInt ≤ 122) → ((F 39).toInt - (F_90 40).toInt) < (n_90 : Int) → mQ D h0 q cq (va_A (mW h0 q cq F G) sz) s.heap [40, 41, 42, 43] [] F G H locs F_90 G_90 → lv_has ls 1 [(0, .ref h0)] → W p l e ({ frames := 1, cells := 0, slots := 0, locals := 27 }) s m args below meth c H locs 0 0 (MQ below (mQv D h0 q cq F G sz [40, 41, 42, 43] [] (fun F' G' => (F' 40).toInt ≤ (F 39).toInt ∧ (F 40).toInt ≤ (F' 40).toInt ∧ ((F' 41).toInt = 0 ∨ (F 40).toInt < (F' 40).toInt) ∧ (¬ (F' 41).toInt = 2 ∨ (65 ≤ (F' 42).toInt ∧ (F' 42).toInt ≤ 72)))) args s 0 0 (va_A (mW h0 q cq F G) sz)) (F0 m 90 ls []) := by
    intro n_90
    induction n_90 with
    | zero => intro H locs ls F_90 G_90  f90_0 f90_1 f90_2 f90_3 hn hM hl; exact False.elim (by have hfr_90 := hM.fr; omega)
    | succ n_90 ih_90 =>
      intro H locs ls F_90 G_90  f90_0 f90_1 f90_2 f90_3 hn hM hl
      have hfr_90 := hM.fr
      refine lv_aload_n hx hb dX6_take_90 rfl (lv_at hl 0 rfl) ?_
      refine lv_aload_n hx hb dX6_take_91 rfl (lv_at hl 0 rfl) ?_
      have b_17 : 0 ≤ (F_90 40).toInt ∧ (F_90 40).toInt ≤ 1000 := hM.fb 40 rfl
      refine mr_get (v := .int (F_90 40)) E hM 40 (by decide) (index := 138) (mm_at 1 rfl) rfl rfl dX6_take_92 ?_
      have b_19 : 0 ≤ (F_90 39).toInt ∧ (F_90 39).toInt ≤ 1000 := hM.fb 39 rfl
      have e_20 : (F_90 39).toInt = (F 39).toInt := (congrArg Int32.toInt (hfr_90.1 39 (by decide))).trans rfl
      refine mr_callp (av := [.int (F_90 40)]) (rest := []) E hA hml hM (g3_X6_isSmall l D h0 q cq F_90 G_90 _ (F_90 40) hM.2.2.2.1 (show 0 ≤ (F_90 40).toInt from by omega)) (cwV 1 hts gc_X6_take_X6_isSmall_18 rfl rfl rfl (by decide +kernel) ⟨Nat.le_of_ble_eq_true rfl, Nat.le_of_ble_eq_true rfl⟩) rfl hl.1 rfl (Nat.le_of_ble_eq_true rfl) dX6_take_95 ⟨Nat.le_of_ble_eq_true rfl, Nat.le_of_ble_eq_true rfl⟩ (fun r_21 H locs p_22 hM => ?_)
      replace p_22 : (r_21.toInt = 1 ∧ ((F_90 40).toInt < (F_90 39).toInt ∧ 97 ≤ (G_90 0 (Int32.toNatClampNeg (F_90 40))).toInt ∧ (G_90 0 (Int32.toNatClampNeg (F_90 40))).toInt ≤ 122)) ∨ (r_21.toInt = 0 ∧ ¬ ((F_90 40).toInt < (F_90 39).toInt ∧ 97 ≤ (G_90 0 (Int32.toNatClampNeg (F_90 40))).toInt ∧ (G_90 0 (Int32.toNatClampNeg (F_90 40))).toInt ≤ 122)) := p_22
      refine mm_if_eq (X := r_21.toInt) (tgt := 114) hx hb dX6_take_98 (by decide) rfl (fun c_23 => ?_) (fun c_23 => ?_)
      · refine lv_aload_n hx hb dX6_take_114 rfl (lv_at hl 0 rfl) ?_
        refine lv_aload_n hx hb dX6_take_115 rfl (lv_at hl 0 rfl) ?_
        refine lv_aload_n hx hb dX6_take_116 rfl (lv_at hl 0 rfl) ?_
        have b_24 : 0 ≤ (F_90 43).toInt ∧ (F_90 43).toInt ≤ 1000 := hM.fb 43 rfl
        refine mr_get (v := .int (F_90 43)) E hM 43 (by decide) (index := 141) (mm_at 15 rfl) rfl rfl dX6_take_117 ?_
        refine lv_aload_n hx hb dX6_take_120 rfl (lv_at hl 0 rfl) ?_
        refine mr_get (v := .int (F_90 40)) E hM 40 (by decide) (index := 138) (mm_at 1 rfl) rfl rfl dX6_take_121 ?_
        refine mr_callp (av := [.int (F_90 43), .int (F_90 40)]) (rest := [.ref h0]) E hA hml hM (g3_X6_wordAt l D h0 q cq F_90 G_90 _ (F_90 43) (F_90 40) hM.2.2.2.1 (show 0 ≤ (F_90 43).toInt ∧ (F_90 43).toInt ≤ 1000 from by omega) (show 0 ≤ (F_90 40).toInt ∧ (F_90 40).toInt ≤ 1000 from by omega)) (cwV 2 hts gc_X6_take_X6_wordAt_25 rfl rfl rfl (by decide +kernel) ⟨Nat.le_of_ble_eq_true rfl, Nat.le_of_ble_eq_true rfl⟩) rfl hl.1 rfl (Nat.le_of_ble_eq_true rfl) dX6_take_124 ⟨Nat.le_of_ble_eq_true rfl, Nat.le_of_ble_eq_true rfl⟩ (fun r_26 H locs p_27 hM => ?_)
        refine mr_put (v := r_26) E hM 42 (by decide) (index := 155) (mm_at 9 rfl) rfl rfl (by decide +kernel) ms_42 (mm_nb rfl) (by decide) dX6_take_127 (fun H locs hM => ?_)
        refine lv_aload_n hx hb dX6_take_130 rfl (lv_at hl 0 rfl) ?_
        refine lv_aload_n hx hb dX6_take_131 rfl (lv_at hl 0 rfl) ?_
        refine mr_get (v := .int r_26) E hM 42 (by decide) (index := 155) (mm_at 9 rfl) rfl rfl dX6_take_132 ?_
        refine mm_if_ge (X := r_26.toInt) (tgt := 142) hx hb dX6_take_135 (by decide) rfl (fun c_28 => ?_) (fun c_28 => ?_)
        · refine lv_iconst (v := 1) hx hb dX6_take_142 (by decide) ?_
          refine mr_put (v := 1) E hM 41 (by decide) (index := 144) (mm_at 21 rfl) rfl rfl (by decide +kernel) ms_41 (mm_bd (X := 1) (a := 0) (b := 5) rfl num_1 (by omega)) (by decide) dX6_take_143 (fun H locs hM => ?_)
          refine lv_goto (tgt := 315) hx hb dX6_take_146 (by decide) ?_
          exact mr_rv E hr hlk hsz hM (show (F_90 40).toInt ≤ (F 39).toInt ∧ (F 40).toInt ≤ (F_90 40).toInt ∧ ((1 : Int32).toInt = 0 ∨ (F 40).toInt < (F_90 40).toInt) ∧ (¬ (1 : Int32).toInt = 2 ∨ (65 ≤ r_26.toInt ∧ r_26.toInt ≤ 72)) from by have n9_41 := num_1; omega) dX6_take_315
        · refine lv_iconst (v := 5) hx hb dX6_take_138 (by decide) ?_
          refine lv_goto (tgt := 143) hx hb dX6_take_139 (by decide) ?_
          refine mr_put (v := 5) E hM 41 (by decide) (index := 144) (mm_at 21 rfl) rfl rfl (by decide +kernel) ms_41 (mm_bd (X := 5) (a := 0) (b := 5) rfl num_5 (by omega)) (by decide) dX6_take_143 (fun H locs hM => ?_)
          refine lv_goto (tgt := 315) hx hb dX6_take_146 (by decide) ?_
          exact mr_rv E hr hlk hsz hM (show (F_90 40).toInt ≤ (F 39).toInt ∧ (F 40).toInt ≤ (F_90 40).toInt ∧ ((5 : Int32).toInt = 0 ∨ (F 40).toInt < (F_90 40).toInt) ∧ (¬ (5 : Int32).toInt = 2 ∨ (65 ≤ r_26.toInt ∧ r_26.toInt ≤ 72)) from by have n9_41 := num_5; omega) dX6_take_315
      · refine lv_aload_n hx hb dX6_take_101 rfl (lv_at hl 0 rfl) ?_
        refine lv_dup hx hb dX6_take_102 rfl ?_
        refine mr_get (v := .int (F_90 40)) E hM 40 (by decide) (index := 138) (mm_at 1 rfl) rfl rfl dX6_take_103 ?_
        refine lv_iconst (v := 1) hx hb dX6_take_106 (by decide) ?_
        refine mm_iadd (X := (F_90 40).toInt) (Y := 1) hx hb dX6_take_107 rfl num_1 (by omega) (fun z_29 hz_29 => ?_)
        refine mr_put (v := z_29) E hM 40 (by decide) (index := 138) (mm_at 1 rfl) rfl rfl (by decide +kernel) ms_40 (mm_bd (X := z_29.toInt) (a := 0) (b := 1000) rfl rfl (by omega)) (by decide) dX6_take_108 (fun H locs hM => ?_)
        refine lv_goto (tgt := 90) hx hb dX6_take_111 (by decide) ?_
        have b_30 : 0 ≤ (F_90 43).toInt ∧ (F_90 43).toInt ≤ 1000 := hM.fb 43 rfl
        exact ih_90 _ _ _ (upd F_90 40 z_29) G_90  (show z_29.toInt ≤ (F 39).toInt from by omega) (show (F 40).toInt ≤ z_29.toInt from by omega) (show (F_90 43).toInt ≤ z_29.toInt from by omega) (show (F 40).toInt < z_29.toInt ∨ (z_29.toInt < (F 39).toInt ∧ 97 ≤ (G_90 0 (Int32.toNatClampNeg z_29)).toInt ∧ (G_90 0 (Int32.toNatClampNeg z_29)).toInt ≤ 122) from by omega) (show ((F 39).toInt - z_29.toInt) < ((n_90 : Nat) : Int) from by omega) hM (lv_sub hl [0] rfl)
  have B_0 : ∀ n_0 : Nat, ∀ (H : Heap) (locs : List Loc) (ls : Array Slot) (F_0 : Nat → Int32) (G_0 : Nat → Nat → Int32), (F_0 40).toInt ≤ (F 39).toInt → (F 40).toInt ≤ (F_0 40).toInt → ((F 39).toInt - (F_0 40).toInt) < (n_0 : Int) → mQ D h0 q cq (va_A (mW h0 q cq F G) sz) s.heap [40, 41, 42, 43] [] F G H locs F_0 G_0 → lv_has ls 1 [(0, .ref h0)] → W p l e ({ frames := 1, cells := 0, slots := 0, locals := 27 }) s m args below meth c H locs 0 0 (MQ below (mQv D h0 q cq F G sz [40, 41, 42, 43] [] (fun F' G' => (F' 40).toInt ≤ (F 39).toInt ∧ (F 40).toInt ≤ (F' 40).toInt ∧ ((F' 41).toInt = 0 ∨ (F 40).toInt < (F' 40).toInt) ∧ (¬ (F' 41).toInt = 2 ∨ (65 ≤ (F' 42).toInt ∧ (F' 42).toInt ≤ 72)))) args s 0 0 (va_A (mW h0 q cq F G) sz)) (F0 m 0 ls []) := by
    intro n_0
    induction n_0 with
    | zero => intro H locs ls F_0 G_0  f0_0 f0_1 hn hM hl; exact False.elim (by have hfr_0 := hM.fr; omega)
    | succ n_0 ih_0 =>
      intro H locs ls F_0 G_0  f0_0 f0_1 hn hM hl
      have hfr_0 := hM.fr
      refine lv_aload_n hx hb dX6_take_0 rfl (lv_at hl 0 rfl) ?_
      have b_31 : 0 ≤ (F_0 40).toInt ∧ (F_0 40).toInt ≤ 1000 := hM.fb 40 rfl
      refine mr_get (v := .int (F_0 40)) E hM 40 (by decide) (index := 138) (mm_at 1 rfl) rfl rfl dX6_take_1 ?_
      refine lv_aload_n hx hb dX6_take_4 rfl (lv_at hl 0 rfl) ?_
      have b_32 : 0 ≤ (F_0 39).toInt ∧ (F_0 39).toInt ≤ 1000 := hM.fb 39 rfl
      have e_33 : (F_0 39).toInt = (F 39).toInt := (congrArg Int32.toInt (hfr_0.1 39 (by decide))).trans rfl
      refine mr_get (v := .int (F_0 39)) E hM 39 (by decide) (index := 135) (mm_at 7 rfl) rfl rfl dX6_take_5 ?_
      refine mm_icmp_ge (X := (F_0 40).toInt) (Y := (F_0 39).toInt) (tgt := 52) hx hb dX6_take_8 (by decide) rfl rfl (fun c_34 => ?_) (fun c_34 => ?_)
      · refine lv_aload_n hx hb dX6_take_52 rfl (lv_at hl 0 rfl) ?_
        refine lv_aload_n hx hb dX6_take_53 rfl (lv_at hl 0 rfl) ?_
        refine mr_get (v := .int (F_0 40)) E hM 40 (by decide) (index := 138) (mm_at 1 rfl) rfl rfl dX6_take_54 ?_
        refine mr_put (v := (F_0 40)) E hM 43 (by decide) (index := 141) (mm_at 15 rfl) rfl rfl (by decide +kernel) ms_43 (mm_bd (X := (F_0 40).toInt) (a := 0) (b := 1000) rfl rfl (by omega)) (by decide) dX6_take_57 (fun H locs hM => ?_)
        refine lv_aload_n hx hb dX6_take_60 rfl (lv_at hl 0 rfl) ?_
        refine mr_get (v := .int (F_0 40)) E hM 40 (by decide) (index := 138) (mm_at 1 rfl) rfl rfl dX6_take_61 ?_
        refine lv_aload_n hx hb dX6_take_64 rfl (lv_at hl 0 rfl) ?_
        refine mr_get (v := .int (F_0 39)) E hM 39 (by decide) (index := 135) (mm_at 7 rfl) rfl rfl dX6_take_65 ?_
        refine mm_icmp_ne (X := (F_0 40).toInt) (Y := (F_0 39).toInt) (tgt := 79) hx hb dX6_take_68 (by decide) rfl rfl (fun c_35 => ?_) (fun c_35 => ?_)
        · refine lv_aload_n hx hb dX6_take_79 rfl (lv_at hl 0 rfl) ?_
          refine lv_aload_n hx hb dX6_take_80 rfl (lv_at hl 0 rfl) ?_
          refine mr_get (v := .int (F_0 40)) E hM 40 (by decide) (index := 138) (mm_at 1 rfl) rfl rfl dX6_take_81 ?_
          refine mr_callp (av := [.int (F_0 40)]) (rest := []) E hA hml hM (g3_X6_isSmall l D h0 q cq (upd F_0 43 (F_0 40)) G_0 _ (F_0 40) hM.2.2.2.1 (show 0 ≤ (F_0 40).toInt from by omega)) (cwV 1 hts gc_X6_take_X6_isSmall_36 rfl rfl rfl (by decide +kernel) ⟨Nat.le_of_ble_eq_true rfl, Nat.le_of_ble_eq_true rfl⟩) rfl hl.1 rfl (Nat.le_of_ble_eq_true rfl) dX6_take_84 ⟨Nat.le_of_ble_eq_true rfl, Nat.le_of_ble_eq_true rfl⟩ (fun r_37 H locs p_38 hM => ?_)
          replace p_38 : (r_37.toInt = 1 ∧ ((F_0 40).toInt < (F_0 39).toInt ∧ 97 ≤ (G_0 0 (Int32.toNatClampNeg (F_0 40))).toInt ∧ (G_0 0 (Int32.toNatClampNeg (F_0 40))).toInt ≤ 122)) ∨ (r_37.toInt = 0 ∧ ¬ ((F_0 40).toInt < (F_0 39).toInt ∧ 97 ≤ (G_0 0 (Int32.toNatClampNeg (F_0 40))).toInt ∧ (G_0 0 (Int32.toNatClampNeg (F_0 40))).toInt ≤ 122)) := p_38
          refine mm_if_eq (X := r_37.toInt) (tgt := 149) hx hb dX6_take_87 (by decide) rfl (fun c_39 => ?_) (fun c_39 => ?_)
          · refine lv_aload_n hx hb dX6_take_149 rfl (lv_at hl 0 rfl) ?_
            refine lv_aload_n hx hb dX6_take_150 rfl (lv_at hl 0 rfl) ?_
            refine mr_get (v := .int (F_0 40)) E hM 40 (by decide) (index := 138) (mm_at 1 rfl) rfl rfl dX6_take_151 ?_
            refine mr_callp (av := [.int (F_0 40)]) (rest := []) E hA hml hM (g3_X6_isDigit l D h0 q cq (upd F_0 43 (F_0 40)) G_0 _ (F_0 40) hM.2.2.2.1 (show 0 ≤ (F_0 40).toInt from by omega)) (cwV 1 hts gc_X6_take_X6_isDigit_40 rfl rfl rfl (by decide +kernel) ⟨Nat.le_of_ble_eq_true rfl, Nat.le_of_ble_eq_true rfl⟩) rfl hl.1 rfl (Nat.le_of_ble_eq_true rfl) dX6_take_154 ⟨Nat.le_of_ble_eq_true rfl, Nat.le_of_ble_eq_true rfl⟩ (fun r_41 H locs p_42 hM => ?_)
            replace p_42 : (r_41.toInt = 1 ∧ ((F_0 40).toInt < (F_0 39).toInt ∧ 48 ≤ (G_0 0 (Int32.toNatClampNeg (F_0 40))).toInt ∧ (G_0 0 (Int32.toNatClampNeg (F_0 40))).toInt ≤ 57)) ∨ (r_41.toInt = 0 ∧ ¬ ((F_0 40).toInt < (F_0 39).toInt ∧ 48 ≤ (G_0 0 (Int32.toNatClampNeg (F_0 40))).toInt ∧ (G_0 0 (Int32.toNatClampNeg (F_0 40))).toInt ≤ 57)) := p_42
            refine mm_if_eq (X := r_41.toInt) (tgt := 234) hx hb dX6_take_157 (by decide) rfl (fun c_43 => ?_) (fun c_43 => ?_)
            · refine lv_aload_n hx hb dX6_take_234 rfl (lv_at hl 0 rfl) ?_
              refine lv_aload_n hx hb dX6_take_235 rfl (lv_at hl 0 rfl) ?_
              refine mr_get (v := .ref (q 0)) E hM 0 (by decide) (index := 7) (mm_at 8 rfl) rfl rfl dX6_take_236 ?_
              refine lv_aload_n hx hb dX6_take_239 rfl (lv_at hl 0 rfl) ?_
              refine mr_get (v := .int (F_0 40)) E hM 40 (by decide) (index := 138) (mm_at 1 rfl) rfl rfl dX6_take_240 ?_
              refine mr_ald (X := (F_0 40).toInt) E hM 1 0 rfl rfl rfl (by omega) dX6_take_243 ?_
              refine mr_put (v := (G_0 0 (Int32.toNatClampNeg (F_0 40)))) E hM 42 (by decide) (index := 155) (mm_at 9 rfl) rfl rfl (by decide +kernel) ms_42 (mm_nb rfl) (by decide) dX6_take_244 (fun H locs hM => ?_)
              refine lv_aload_n hx hb dX6_take_247 rfl (lv_at hl 0 rfl) ?_
              refine lv_dup hx hb dX6_take_248 rfl ?_
              refine mr_get (v := .int (F_0 40)) E hM 40 (by decide) (index := 138) (mm_at 1 rfl) rfl rfl dX6_take_249 ?_
              refine lv_iconst (v := 1) hx hb dX6_take_252 (by decide) ?_
              refine mm_iadd (X := (F_0 40).toInt) (Y := 1) hx hb dX6_take_253 rfl num_1 (by omega) (fun z_44 hz_44 => ?_)
              refine mr_put (v := z_44) E hM 40 (by decide) (index := 138) (mm_at 1 rfl) rfl rfl (by decide +kernel) ms_40 (mm_bd (X := z_44.toInt) (a := 0) (b := 1000) rfl rfl (by omega)) (by decide) dX6_take_254 (fun H locs hM => ?_)
              refine lv_aload_n hx hb dX6_take_257 rfl (lv_at hl 0 rfl) ?_
              refine lv_aload_n hx hb dX6_take_258 rfl (lv_at hl 0 rfl) ?_
              refine mr_get (v := .int (G_0 0 (Int32.toNatClampNeg (F_0 40)))) E hM 42 (by decide) (index := 155) (mm_at 9 rfl) rfl rfl dX6_take_259 ?_
              refine lv_bipush (v := 65) hx hb dX6_take_262 (by decide) ?_
              refine mm_icmp_lt (X := (G_0 0 (Int32.toNatClampNeg (F_0 40))).toInt) (Y := 65) (tgt := 280) hx hb dX6_take_264 (by decide) rfl num_65 (fun c_45 => ?_) (fun c_45 => ?_)
              · refine lv_aload_n hx hb dX6_take_280 rfl (lv_at hl 0 rfl) ?_
                refine mr_get (v := .int (G_0 0 (Int32.toNatClampNeg (F_0 40)))) E hM 42 (by decide) (index := 155) (mm_at 9 rfl) rfl rfl dX6_take_281 ?_
                refine lv_bipush (v := 123) hx hb dX6_take_284 (by decide) ?_
                refine mm_icmp_eq (X := (G_0 0 (Int32.toNatClampNeg (F_0 40))).toInt) (Y := 123) (tgt := 307) hx hb dX6_take_286 (by decide) rfl num_123 (fun c_46 => False.elim (by omega)) (fun c_46 => ?_)
                refine lv_aload_n hx hb dX6_take_289 rfl (lv_at hl 0 rfl) ?_
                refine mr_get (v := .int (G_0 0 (Int32.toNatClampNeg (F_0 40)))) E hM 42 (by decide) (index := 155) (mm_at 9 rfl) rfl rfl dX6_take_290 ?_
                refine lv_bipush (v := 125) hx hb dX6_take_293 (by decide) ?_
                refine mm_icmp_eq (X := (G_0 0 (Int32.toNatClampNeg (F_0 40))).toInt) (Y := 125) (tgt := 307) hx hb dX6_take_295 (by decide) rfl num_125 (fun c_47 => False.elim (by omega)) (fun c_47 => ?_)
                refine lv_aload_n hx hb dX6_take_298 rfl (lv_at hl 0 rfl) ?_
                refine mr_get (v := .int (G_0 0 (Int32.toNatClampNeg (F_0 40)))) E hM 42 (by decide) (index := 155) (mm_at 9 rfl) rfl rfl dX6_take_299 ?_
                refine lv_bipush (v := 59) hx hb dX6_take_302 (by decide) ?_
                refine mm_icmp_ne (X := (G_0 0 (Int32.toNatClampNeg (F_0 40))).toInt) (Y := 59) (tgt := 311) hx hb dX6_take_304 (by decide) rfl num_59 (fun c_48 => ?_) (fun c_48 => ?_)
                · refine lv_iconst (v := 5) hx hb dX6_take_311 (by decide) ?_
                  refine mr_put (v := 5) E hM 41 (by decide) (index := 144) (mm_at 21 rfl) rfl rfl (by decide +kernel) ms_41 (mm_bd (X := 5) (a := 0) (b := 5) rfl num_5 (by omega)) (by decide) dX6_take_312 (fun H locs hM => ?_)
                  exact mr_rv E hr hlk hsz hM (show z_44.toInt ≤ (F 39).toInt ∧ (F 40).toInt ≤ z_44.toInt ∧ ((5 : Int32).toInt = 0 ∨ (F 40).toInt < z_44.toInt) ∧ (¬ (5 : Int32).toInt = 2 ∨ (65 ≤ (G_0 0 (Int32.toNatClampNeg (F_0 40))).toInt ∧ (G_0 0 (Int32.toNatClampNeg (F_0 40))).toInt ≤ 72)) from by have n9_41 := num_5; omega) dX6_take_315
                · refine lv_iconst (v := 4) hx hb dX6_take_307 (by decide) ?_
                  refine lv_goto (tgt := 312) hx hb dX6_take_308 (by decide) ?_
                  refine mr_put (v := 4) E hM 41 (by decide) (index := 144) (mm_at 21 rfl) rfl rfl (by decide +kernel) ms_41 (mm_bd (X := 4) (a := 0) (b := 5) rfl num_4 (by omega)) (by decide) dX6_take_312 (fun H locs hM => ?_)
                  exact mr_rv E hr hlk hsz hM (show z_44.toInt ≤ (F 39).toInt ∧ (F 40).toInt ≤ z_44.toInt ∧ ((4 : Int32).toInt = 0 ∨ (F 40).toInt < z_44.toInt) ∧ (¬ (4 : Int32).toInt = 2 ∨ (65 ≤ (G_0 0 (Int32.toNatClampNeg (F_0 40))).toInt ∧ (G_0 0 (Int32.toNatClampNeg (F_0 40))).toInt ≤ 72)) from by have n9_41 := num_4; omega) dX6_take_315
              · refine lv_aload_n hx hb dX6_take_267 rfl (lv_at hl 0 rfl) ?_
                refine mr_get (v := .int (G_0 0 (Int32.toNatClampNeg (F_0 40)))) E hM 42 (by decide) (index := 155) (mm_at 9 rfl) rfl rfl dX6_take_268 ?_
                refine lv_bipush (v := 72) hx hb dX6_take_271 (by decide) ?_
                refine mm_icmp_gt (X := (G_0 0 (Int32.toNatClampNeg (F_0 40))).toInt) (Y := 72) (tgt := 280) hx hb dX6_take_273 (by decide) rfl num_72 (fun c_49 => ?_) (fun c_49 => ?_)
                · refine lv_aload_n hx hb dX6_take_280 rfl (lv_at hl 0 rfl) ?_
                  refine mr_get (v := .int (G_0 0 (Int32.toNatClampNeg (F_0 40)))) E hM 42 (by decide) (index := 155) (mm_at 9 rfl) rfl rfl dX6_take_281 ?_
                  refine lv_bipush (v := 123) hx hb dX6_take_284 (by decide) ?_
                  refine mm_icmp_eq (X := (G_0 0 (Int32.toNatClampNeg (F_0 40))).toInt) (Y := 123) (tgt := 307) hx hb dX6_take_286 (by decide) rfl num_123 (fun c_50 => ?_) (fun c_50 => ?_)
                  · refine lv_iconst (v := 4) hx hb dX6_take_307 (by decide) ?_
                    refine lv_goto (tgt := 312) hx hb dX6_take_308 (by decide) ?_
                    refine mr_put (v := 4) E hM 41 (by decide) (index := 144) (mm_at 21 rfl) rfl rfl (by decide +kernel) ms_41 (mm_bd (X := 4) (a := 0) (b := 5) rfl num_4 (by omega)) (by decide) dX6_take_312 (fun H locs hM => ?_)
                    exact mr_rv E hr hlk hsz hM (show z_44.toInt ≤ (F 39).toInt ∧ (F 40).toInt ≤ z_44.toInt ∧ ((4 : Int32).toInt = 0 ∨ (F 40).toInt < z_44.toInt) ∧ (¬ (4 : Int32).toInt = 2 ∨ (65 ≤ (G_0 0 (Int32.toNatClampNeg (F_0 40))).toInt ∧ (G_0 0 (Int32.toNatClampNeg (F_0 40))).toInt ≤ 72)) from by have n9_41 := num_4; omega) dX6_take_315
                  · refine lv_aload_n hx hb dX6_take_289 rfl (lv_at hl 0 rfl) ?_
                    refine mr_get (v := .int (G_0 0 (Int32.toNatClampNeg (F_0 40)))) E hM 42 (by decide) (index := 155) (mm_at 9 rfl) rfl rfl dX6_take_290 ?_
                    refine lv_bipush (v := 125) hx hb dX6_take_293 (by decide) ?_
                    refine mm_icmp_eq (X := (G_0 0 (Int32.toNatClampNeg (F_0 40))).toInt) (Y := 125) (tgt := 307) hx hb dX6_take_295 (by decide) rfl num_125 (fun c_51 => ?_) (fun c_51 => ?_)
                    · refine lv_iconst (v := 4) hx hb dX6_take_307 (by decide) ?_
                      refine lv_goto (tgt := 312) hx hb dX6_take_308 (by decide) ?_
                      refine mr_put (v := 4) E hM 41 (by decide) (index := 144) (mm_at 21 rfl) rfl rfl (by decide +kernel) ms_41 (mm_bd (X := 4) (a := 0) (b := 5) rfl num_4 (by omega)) (by decide) dX6_take_312 (fun H locs hM => ?_)
                      exact mr_rv E hr hlk hsz hM (show z_44.toInt ≤ (F 39).toInt ∧ (F 40).toInt ≤ z_44.toInt ∧ ((4 : Int32).toInt = 0 ∨ (F 40).toInt < z_44.toInt) ∧ (¬ (4 : Int32).toInt = 2 ∨ (65 ≤ (G_0 0 (Int32.toNatClampNeg (F_0 40))).toInt ∧ (G_0 0 (Int32.toNatClampNeg (F_0 40))).toInt ≤ 72)) from by have n9_41 := num_4; omega) dX6_take_315
                    · refine lv_aload_n hx hb dX6_take_298 rfl (lv_at hl 0 rfl) ?_
                      refine mr_get (v := .int (G_0 0 (Int32.toNatClampNeg (F_0 40)))) E hM 42 (by decide) (index := 155) (mm_at 9 rfl) rfl rfl dX6_take_299 ?_
                      refine lv_bipush (v := 59) hx hb dX6_take_302 (by decide) ?_
                      refine mm_icmp_ne (X := (G_0 0 (Int32.toNatClampNeg (F_0 40))).toInt) (Y := 59) (tgt := 311) hx hb dX6_take_304 (by decide) rfl num_59 (fun c_52 => ?_) (fun c_52 => False.elim (by omega))
                      refine lv_iconst (v := 5) hx hb dX6_take_311 (by decide) ?_
                      refine mr_put (v := 5) E hM 41 (by decide) (index := 144) (mm_at 21 rfl) rfl rfl (by decide +kernel) ms_41 (mm_bd (X := 5) (a := 0) (b := 5) rfl num_5 (by omega)) (by decide) dX6_take_312 (fun H locs hM => ?_)
                      exact mr_rv E hr hlk hsz hM (show z_44.toInt ≤ (F 39).toInt ∧ (F 40).toInt ≤ z_44.toInt ∧ ((5 : Int32).toInt = 0 ∨ (F 40).toInt < z_44.toInt) ∧ (¬ (5 : Int32).toInt = 2 ∨ (65 ≤ (G_0 0 (Int32.toNatClampNeg (F_0 40))).toInt ∧ (G_0 0 (Int32.toNatClampNeg (F_0 40))).toInt ≤ 72)) from by have n9_41 := num_5; omega) dX6_take_315
                · refine lv_iconst (v := 2) hx hb dX6_take_276 (by decide) ?_
                  refine lv_goto (tgt := 312) hx hb dX6_take_277 (by decide) ?_
                  refine mr_put (v := 2) E hM 41 (by decide) (index := 144) (mm_at 21 rfl) rfl rfl (by decide +kernel) ms_41 (mm_bd (X := 2) (a := 0) (b := 5) rfl num_2 (by omega)) (by decide) dX6_take_312 (fun H locs hM => ?_)
                  exact mr_rv E hr hlk hsz hM (show z_44.toInt ≤ (F 39).toInt ∧ (F 40).toInt ≤ z_44.toInt ∧ ((2 : Int32).toInt = 0 ∨ (F 40).toInt < z_44.toInt) ∧ (¬ (2 : Int32).toInt = 2 ∨ (65 ≤ (G_0 0 (Int32.toNatClampNeg (F_0 40))).toInt ∧ (G_0 0 (Int32.toNatClampNeg (F_0 40))).toInt ≤ 72)) from by have n9_41 := num_2; omega) dX6_take_315
            · refine lv_aload_n hx hb dX6_take_160 rfl (lv_at hl 0 rfl) ?_
              refine lv_iconst (v := 3) hx hb dX6_take_161 (by decide) ?_
              refine mr_put (v := 3) E hM 41 (by decide) (index := 144) (mm_at 21 rfl) rfl rfl (by decide +kernel) ms_41 (mm_bd (X := 3) (a := 0) (b := 5) rfl num_3 (by omega)) (by decide) dX6_take_162 (fun H locs hM => ?_)
              refine lv_aload_n hx hb dX6_take_165 rfl (lv_at hl 0 rfl) ?_
              refine lv_iconst (v := 0) hx hb dX6_take_166 (by decide) ?_
              refine mr_put (v := 0) E hM 42 (by decide) (index := 155) (mm_at 9 rfl) rfl rfl (by decide +kernel) ms_42 (mm_nb rfl) (by decide) dX6_take_167 (fun H locs hM => ?_)
              exact B_170 4294967296 _ _ _ (upd (upd (upd F_0 43 (F_0 40)) 41 3) 42 0) G_0  (show (F_0 40).toInt ≤ (F 39).toInt from by have n9_41 := num_3; have n9_42 := num_0; omega) (show (F 40).toInt ≤ (F_0 40).toInt from by have n9_41 := num_3; have n9_42 := num_0; omega) (show (3 : Int32).toInt = 3 from by have n9_41 := num_3; have n9_42 := num_0; omega) (show (F 40).toInt < (F_0 40).toInt ∨ ((F_0 40).toInt < (F 39).toInt ∧ 48 ≤ (G_0 0 (Int32.toNatClampNeg (F_0 40))).toInt ∧ (G_0 0 (Int32.toNatClampNeg (F_0 40))).toInt ≤ 57) from by have n9_41 := num_3; have n9_42 := num_0; omega) (show ((F 39).toInt - (F_0 40).toInt) < ((4294967296 : Nat) : Int) from by have n9_41 := num_3; have n9_42 := num_0; omega) hM (lv_sub hl [0] rfl)
          · exact B_90 4294967296 _ _ _ (upd F_0 43 (F_0 40)) G_0  (show (F_0 40).toInt ≤ (F 39).toInt from by omega) (show (F 40).toInt ≤ (F_0 40).toInt from by omega) (show (F_0 40).toInt ≤ (F_0 40).toInt from by omega) (show (F 40).toInt < (F_0 40).toInt ∨ ((F_0 40).toInt < (F 39).toInt ∧ 97 ≤ (G_0 0 (Int32.toNatClampNeg (F_0 40))).toInt ∧ (G_0 0 (Int32.toNatClampNeg (F_0 40))).toInt ≤ 122) from by omega) (show ((F 39).toInt - (F_0 40).toInt) < ((4294967296 : Nat) : Int) from by omega) hM (lv_sub hl [0] rfl)
        · refine lv_aload_n hx hb dX6_take_71 rfl (lv_at hl 0 rfl) ?_
          refine lv_iconst (v := 0) hx hb dX6_take_72 (by decide) ?_
          refine mr_put (v := 0) E hM 41 (by decide) (index := 144) (mm_at 21 rfl) rfl rfl (by decide +kernel) ms_41 (mm_bd (X := 0) (a := 0) (b := 5) rfl num_0 (by omega)) (by decide) dX6_take_73 (fun H locs hM => ?_)
          refine lv_goto (tgt := 315) hx hb dX6_take_76 (by decide) ?_
          exact mr_rv E hr hlk hsz hM (show (F_0 40).toInt ≤ (F 39).toInt ∧ (F 40).toInt ≤ (F_0 40).toInt ∧ ((0 : Int32).toInt = 0 ∨ (F 40).toInt < (F_0 40).toInt) ∧ (¬ (0 : Int32).toInt = 2 ∨ (65 ≤ (F_0 42).toInt ∧ (F_0 42).toInt ≤ 72)) from by have n9_41 := num_0; omega) dX6_take_315
      · refine lv_aload_n hx hb dX6_take_11 rfl (lv_at hl 0 rfl) ?_
        refine mr_get (v := .ref (q 0)) E hM 0 (by decide) (index := 7) (mm_at 8 rfl) rfl rfl dX6_take_12 ?_
        refine lv_aload_n hx hb dX6_take_15 rfl (lv_at hl 0 rfl) ?_
        refine mr_get (v := .int (F_0 40)) E hM 40 (by decide) (index := 138) (mm_at 1 rfl) rfl rfl dX6_take_16 ?_
        refine mr_ald (X := (F_0 40).toInt) E hM 1 0 rfl rfl rfl (by omega) dX6_take_19 ?_
        refine lv_bipush (v := 10) hx hb dX6_take_20 (by decide) ?_
        refine mm_icmp_eq (X := (G_0 0 (Int32.toNatClampNeg (F_0 40))).toInt) (Y := 10) (tgt := 39) hx hb dX6_take_22 (by decide) rfl num_10 (fun c_53 => ?_) (fun c_53 => ?_)
        · refine lv_aload_n hx hb dX6_take_39 rfl (lv_at hl 0 rfl) ?_
          refine lv_dup hx hb dX6_take_40 rfl ?_
          refine mr_get (v := .int (F_0 40)) E hM 40 (by decide) (index := 138) (mm_at 1 rfl) rfl rfl dX6_take_41 ?_
          refine lv_iconst (v := 1) hx hb dX6_take_44 (by decide) ?_
          refine mm_iadd (X := (F_0 40).toInt) (Y := 1) hx hb dX6_take_45 rfl num_1 (by omega) (fun z_54 hz_54 => ?_)
          refine mr_put (v := z_54) E hM 40 (by decide) (index := 138) (mm_at 1 rfl) rfl rfl (by decide +kernel) ms_40 (mm_bd (X := z_54.toInt) (a := 0) (b := 1000) rfl rfl (by omega)) (by decide) dX6_take_46 (fun H locs hM => ?_)
          refine lv_goto (tgt := 0) hx hb dX6_take_49 (by decide) ?_
          exact ih_0 _ _ _ (upd F_0 40 z_54) G_0  (show z_54.toInt ≤ (F 39).toInt from by omega) (show (F 40).toInt ≤ z_54.toInt from by omega) (show ((F 39).toInt - z_54.toInt) < ((n_0 : Nat) : Int) from by omega) hM (lv_sub hl [0] rfl)
        · refine lv_aload_n hx hb dX6_take_25 rfl (lv_at hl 0 rfl) ?_
          refine mr_get (v := .ref (q 0)) E hM 0 (by decide) (index := 7) (mm_at 8 rfl) rfl rfl dX6_take_26 ?_
          refine lv_aload_n hx hb dX6_take_29 rfl (lv_at hl 0 rfl) ?_
          refine mr_get (v := .int (F_0 40)) E hM 40 (by decide) (index := 138) (mm_at 1 rfl) rfl rfl dX6_take_30 ?_
          refine mr_ald (X := (F_0 40).toInt) E hM 1 0 rfl rfl rfl (by omega) dX6_take_33 ?_
          refine lv_bipush (v := 32) hx hb dX6_take_34 (by decide) ?_
          refine mm_icmp_ne (X := (G_0 0 (Int32.toNatClampNeg (F_0 40))).toInt) (Y := 32) (tgt := 52) hx hb dX6_take_36 (by decide) rfl num_32 (fun c_55 => ?_) (fun c_55 => ?_)
          · refine lv_aload_n hx hb dX6_take_52 rfl (lv_at hl 0 rfl) ?_
            refine lv_aload_n hx hb dX6_take_53 rfl (lv_at hl 0 rfl) ?_
            refine mr_get (v := .int (F_0 40)) E hM 40 (by decide) (index := 138) (mm_at 1 rfl) rfl rfl dX6_take_54 ?_
            refine mr_put (v := (F_0 40)) E hM 43 (by decide) (index := 141) (mm_at 15 rfl) rfl rfl (by decide +kernel) ms_43 (mm_bd (X := (F_0 40).toInt) (a := 0) (b := 1000) rfl rfl (by omega)) (by decide) dX6_take_57 (fun H locs hM => ?_)
            refine lv_aload_n hx hb dX6_take_60 rfl (lv_at hl 0 rfl) ?_
            refine mr_get (v := .int (F_0 40)) E hM 40 (by decide) (index := 138) (mm_at 1 rfl) rfl rfl dX6_take_61 ?_
            refine lv_aload_n hx hb dX6_take_64 rfl (lv_at hl 0 rfl) ?_
            refine mr_get (v := .int (F_0 39)) E hM 39 (by decide) (index := 135) (mm_at 7 rfl) rfl rfl dX6_take_65 ?_
            refine mm_icmp_ne (X := (F_0 40).toInt) (Y := (F_0 39).toInt) (tgt := 79) hx hb dX6_take_68 (by decide) rfl rfl (fun c_56 => ?_) (fun c_56 => ?_)
            · refine lv_aload_n hx hb dX6_take_79 rfl (lv_at hl 0 rfl) ?_
              refine lv_aload_n hx hb dX6_take_80 rfl (lv_at hl 0 rfl) ?_
              refine mr_get (v := .int (F_0 40)) E hM 40 (by decide) (index := 138) (mm_at 1 rfl) rfl rfl dX6_take_81 ?_
              refine mr_callp (av := [.int (F_0 40)]) (rest := []) E hA hml hM (g3_X6_isSmall l D h0 q cq (upd F_0 43 (F_0 40)) G_0 _ (F_0 40) hM.2.2.2.1 (show 0 ≤ (F_0 40).toInt from by omega)) (cwV 1 hts gc_X6_take_X6_isSmall_57 rfl rfl rfl (by decide +kernel) ⟨Nat.le_of_ble_eq_true rfl, Nat.le_of_ble_eq_true rfl⟩) rfl hl.1 rfl (Nat.le_of_ble_eq_true rfl) dX6_take_84 ⟨Nat.le_of_ble_eq_true rfl, Nat.le_of_ble_eq_true rfl⟩ (fun r_58 H locs p_59 hM => ?_)
              replace p_59 : (r_58.toInt = 1 ∧ ((F_0 40).toInt < (F_0 39).toInt ∧ 97 ≤ (G_0 0 (Int32.toNatClampNeg (F_0 40))).toInt ∧ (G_0 0 (Int32.toNatClampNeg (F_0 40))).toInt ≤ 122)) ∨ (r_58.toInt = 0 ∧ ¬ ((F_0 40).toInt < (F_0 39).toInt ∧ 97 ≤ (G_0 0 (Int32.toNatClampNeg (F_0 40))).toInt ∧ (G_0 0 (Int32.toNatClampNeg (F_0 40))).toInt ≤ 122)) := p_59
              refine mm_if_eq (X := r_58.toInt) (tgt := 149) hx hb dX6_take_87 (by decide) rfl (fun c_60 => ?_) (fun c_60 => ?_)
              · refine lv_aload_n hx hb dX6_take_149 rfl (lv_at hl 0 rfl) ?_
                refine lv_aload_n hx hb dX6_take_150 rfl (lv_at hl 0 rfl) ?_
                refine mr_get (v := .int (F_0 40)) E hM 40 (by decide) (index := 138) (mm_at 1 rfl) rfl rfl dX6_take_151 ?_
                refine mr_callp (av := [.int (F_0 40)]) (rest := []) E hA hml hM (g3_X6_isDigit l D h0 q cq (upd F_0 43 (F_0 40)) G_0 _ (F_0 40) hM.2.2.2.1 (show 0 ≤ (F_0 40).toInt from by omega)) (cwV 1 hts gc_X6_take_X6_isDigit_61 rfl rfl rfl (by decide +kernel) ⟨Nat.le_of_ble_eq_true rfl, Nat.le_of_ble_eq_true rfl⟩) rfl hl.1 rfl (Nat.le_of_ble_eq_true rfl) dX6_take_154 ⟨Nat.le_of_ble_eq_true rfl, Nat.le_of_ble_eq_true rfl⟩ (fun r_62 H locs p_63 hM => ?_)
                replace p_63 : (r_62.toInt = 1 ∧ ((F_0 40).toInt < (F_0 39).toInt ∧ 48 ≤ (G_0 0 (Int32.toNatClampNeg (F_0 40))).toInt ∧ (G_0 0 (Int32.toNatClampNeg (F_0 40))).toInt ≤ 57)) ∨ (r_62.toInt = 0 ∧ ¬ ((F_0 40).toInt < (F_0 39).toInt ∧ 48 ≤ (G_0 0 (Int32.toNatClampNeg (F_0 40))).toInt ∧ (G_0 0 (Int32.toNatClampNeg (F_0 40))).toInt ≤ 57)) := p_63
                refine mm_if_eq (X := r_62.toInt) (tgt := 234) hx hb dX6_take_157 (by decide) rfl (fun c_64 => ?_) (fun c_64 => ?_)
                · refine lv_aload_n hx hb dX6_take_234 rfl (lv_at hl 0 rfl) ?_
                  refine lv_aload_n hx hb dX6_take_235 rfl (lv_at hl 0 rfl) ?_
                  refine mr_get (v := .ref (q 0)) E hM 0 (by decide) (index := 7) (mm_at 8 rfl) rfl rfl dX6_take_236 ?_
                  refine lv_aload_n hx hb dX6_take_239 rfl (lv_at hl 0 rfl) ?_
                  refine mr_get (v := .int (F_0 40)) E hM 40 (by decide) (index := 138) (mm_at 1 rfl) rfl rfl dX6_take_240 ?_
                  refine mr_ald (X := (F_0 40).toInt) E hM 1 0 rfl rfl rfl (by omega) dX6_take_243 ?_
                  refine mr_put (v := (G_0 0 (Int32.toNatClampNeg (F_0 40)))) E hM 42 (by decide) (index := 155) (mm_at 9 rfl) rfl rfl (by decide +kernel) ms_42 (mm_nb rfl) (by decide) dX6_take_244 (fun H locs hM => ?_)
                  refine lv_aload_n hx hb dX6_take_247 rfl (lv_at hl 0 rfl) ?_
                  refine lv_dup hx hb dX6_take_248 rfl ?_
                  refine mr_get (v := .int (F_0 40)) E hM 40 (by decide) (index := 138) (mm_at 1 rfl) rfl rfl dX6_take_249 ?_
                  refine lv_iconst (v := 1) hx hb dX6_take_252 (by decide) ?_
                  refine mm_iadd (X := (F_0 40).toInt) (Y := 1) hx hb dX6_take_253 rfl num_1 (by omega) (fun z_65 hz_65 => ?_)
                  refine mr_put (v := z_65) E hM 40 (by decide) (index := 138) (mm_at 1 rfl) rfl rfl (by decide +kernel) ms_40 (mm_bd (X := z_65.toInt) (a := 0) (b := 1000) rfl rfl (by omega)) (by decide) dX6_take_254 (fun H locs hM => ?_)
                  refine lv_aload_n hx hb dX6_take_257 rfl (lv_at hl 0 rfl) ?_
                  refine lv_aload_n hx hb dX6_take_258 rfl (lv_at hl 0 rfl) ?_
                  refine mr_get (v := .int (G_0 0 (Int32.toNatClampNeg (F_0 40)))) E hM 42 (by decide) (index := 155) (mm_at 9 rfl) rfl rfl dX6_take_259 ?_
                  refine lv_bipush (v := 65) hx hb dX6_take_262 (by decide) ?_
                  refine mm_icmp_lt (X := (G_0 0 (Int32.toNatClampNeg (F_0 40))).toInt) (Y := 65) (tgt := 280) hx hb dX6_take_264 (by decide) rfl num_65 (fun c_66 => ?_) (fun c_66 => ?_)
                  · refine lv_aload_n hx hb dX6_take_280 rfl (lv_at hl 0 rfl) ?_
                    refine mr_get (v := .int (G_0 0 (Int32.toNatClampNeg (F_0 40)))) E hM 42 (by decide) (index := 155) (mm_at 9 rfl) rfl rfl dX6_take_281 ?_
                    refine lv_bipush (v := 123) hx hb dX6_take_284 (by decide) ?_
                    refine mm_icmp_eq (X := (G_0 0 (Int32.toNatClampNeg (F_0 40))).toInt) (Y := 123) (tgt := 307) hx hb dX6_take_286 (by decide) rfl num_123 (fun c_67 => False.elim (by omega)) (fun c_67 => ?_)
                    refine lv_aload_n hx hb dX6_take_289 rfl (lv_at hl 0 rfl) ?_
                    refine mr_get (v := .int (G_0 0 (Int32.toNatClampNeg (F_0 40)))) E hM 42 (by decide) (index := 155) (mm_at 9 rfl) rfl rfl dX6_take_290 ?_
                    refine lv_bipush (v := 125) hx hb dX6_take_293 (by decide) ?_
                    refine mm_icmp_eq (X := (G_0 0 (Int32.toNatClampNeg (F_0 40))).toInt) (Y := 125) (tgt := 307) hx hb dX6_take_295 (by decide) rfl num_125 (fun c_68 => False.elim (by omega)) (fun c_68 => ?_)
                    refine lv_aload_n hx hb dX6_take_298 rfl (lv_at hl 0 rfl) ?_
                    refine mr_get (v := .int (G_0 0 (Int32.toNatClampNeg (F_0 40)))) E hM 42 (by decide) (index := 155) (mm_at 9 rfl) rfl rfl dX6_take_299 ?_
                    refine lv_bipush (v := 59) hx hb dX6_take_302 (by decide) ?_
                    refine mm_icmp_ne (X := (G_0 0 (Int32.toNatClampNeg (F_0 40))).toInt) (Y := 59) (tgt := 311) hx hb dX6_take_304 (by decide) rfl num_59 (fun c_69 => ?_) (fun c_69 => ?_)
                    · refine lv_iconst (v := 5) hx hb dX6_take_311 (by decide) ?_
                      refine mr_put (v := 5) E hM 41 (by decide) (index := 144) (mm_at 21 rfl) rfl rfl (by decide +kernel) ms_41 (mm_bd (X := 5) (a := 0) (b := 5) rfl num_5 (by omega)) (by decide) dX6_take_312 (fun H locs hM => ?_)
                      exact mr_rv E hr hlk hsz hM (show z_65.toInt ≤ (F 39).toInt ∧ (F 40).toInt ≤ z_65.toInt ∧ ((5 : Int32).toInt = 0 ∨ (F 40).toInt < z_65.toInt) ∧ (¬ (5 : Int32).toInt = 2 ∨ (65 ≤ (G_0 0 (Int32.toNatClampNeg (F_0 40))).toInt ∧ (G_0 0 (Int32.toNatClampNeg (F_0 40))).toInt ≤ 72)) from by have n9_41 := num_5; omega) dX6_take_315
                    · refine lv_iconst (v := 4) hx hb dX6_take_307 (by decide) ?_
                      refine lv_goto (tgt := 312) hx hb dX6_take_308 (by decide) ?_
                      refine mr_put (v := 4) E hM 41 (by decide) (index := 144) (mm_at 21 rfl) rfl rfl (by decide +kernel) ms_41 (mm_bd (X := 4) (a := 0) (b := 5) rfl num_4 (by omega)) (by decide) dX6_take_312 (fun H locs hM => ?_)
                      exact mr_rv E hr hlk hsz hM (show z_65.toInt ≤ (F 39).toInt ∧ (F 40).toInt ≤ z_65.toInt ∧ ((4 : Int32).toInt = 0 ∨ (F 40).toInt < z_65.toInt) ∧ (¬ (4 : Int32).toInt = 2 ∨ (65 ≤ (G_0 0 (Int32.toNatClampNeg (F_0 40))).toInt ∧ (G_0 0 (Int32.toNatClampNeg (F_0 40))).toInt ≤ 72)) from by have n9_41 := num_4; omega) dX6_take_315
                  · refine lv_aload_n hx hb dX6_take_267 rfl (lv_at hl 0 rfl) ?_
                    refine mr_get (v := .int (G_0 0 (Int32.toNatClampNeg (F_0 40)))) E hM 42 (by decide) (index := 155) (mm_at 9 rfl) rfl rfl dX6_take_268 ?_
                    refine lv_bipush (v := 72) hx hb dX6_take_271 (by decide) ?_
                    refine mm_icmp_gt (X := (G_0 0 (Int32.toNatClampNeg (F_0 40))).toInt) (Y := 72) (tgt := 280) hx hb dX6_take_273 (by decide) rfl num_72 (fun c_70 => ?_) (fun c_70 => ?_)
                    · refine lv_aload_n hx hb dX6_take_280 rfl (lv_at hl 0 rfl) ?_
                      refine mr_get (v := .int (G_0 0 (Int32.toNatClampNeg (F_0 40)))) E hM 42 (by decide) (index := 155) (mm_at 9 rfl) rfl rfl dX6_take_281 ?_
                      refine lv_bipush (v := 123) hx hb dX6_take_284 (by decide) ?_
                      refine mm_icmp_eq (X := (G_0 0 (Int32.toNatClampNeg (F_0 40))).toInt) (Y := 123) (tgt := 307) hx hb dX6_take_286 (by decide) rfl num_123 (fun c_71 => ?_) (fun c_71 => ?_)
                      · refine lv_iconst (v := 4) hx hb dX6_take_307 (by decide) ?_
                        refine lv_goto (tgt := 312) hx hb dX6_take_308 (by decide) ?_
                        refine mr_put (v := 4) E hM 41 (by decide) (index := 144) (mm_at 21 rfl) rfl rfl (by decide +kernel) ms_41 (mm_bd (X := 4) (a := 0) (b := 5) rfl num_4 (by omega)) (by decide) dX6_take_312 (fun H locs hM => ?_)
                        exact mr_rv E hr hlk hsz hM (show z_65.toInt ≤ (F 39).toInt ∧ (F 40).toInt ≤ z_65.toInt ∧ ((4 : Int32).toInt = 0 ∨ (F 40).toInt < z_65.toInt) ∧ (¬ (4 : Int32).toInt = 2 ∨ (65 ≤ (G_0 0 (Int32.toNatClampNeg (F_0 40))).toInt ∧ (G_0 0 (Int32.toNatClampNeg (F_0 40))).toInt ≤ 72)) from by have n9_41 := num_4; omega) dX6_take_315
                      · refine lv_aload_n hx hb dX6_take_289 rfl (lv_at hl 0 rfl) ?_
                        refine mr_get (v := .int (G_0 0 (Int32.toNatClampNeg (F_0 40)))) E hM 42 (by decide) (index := 155) (mm_at 9 rfl) rfl rfl dX6_take_290 ?_
                        refine lv_bipush (v := 125) hx hb dX6_take_293 (by decide) ?_
                        refine mm_icmp_eq (X := (G_0 0 (Int32.toNatClampNeg (F_0 40))).toInt) (Y := 125) (tgt := 307) hx hb dX6_take_295 (by decide) rfl num_125 (fun c_72 => ?_) (fun c_72 => ?_)
                        · refine lv_iconst (v := 4) hx hb dX6_take_307 (by decide) ?_
                          refine lv_goto (tgt := 312) hx hb dX6_take_308 (by decide) ?_
                          refine mr_put (v := 4) E hM 41 (by decide) (index := 144) (mm_at 21 rfl) rfl rfl (by decide +kernel) ms_41 (mm_bd (X := 4) (a := 0) (b := 5) rfl num_4 (by omega)) (by decide) dX6_take_312 (fun H locs hM => ?_)
                          exact mr_rv E hr hlk hsz hM (show z_65.toInt ≤ (F 39).toInt ∧ (F 40).toInt ≤ z_65.toInt ∧ ((4 : Int32).toInt = 0 ∨ (F 40).toInt < z_65.toInt) ∧ (¬ (4 : Int32).toInt = 2 ∨ (65 ≤ (G_0 0 (Int32.toNatClampNeg (F_0 40))).toInt ∧ (G_0 0 (Int32.toNatClampNeg (F_0 40))).toInt ≤ 72)) from by have n9_41 := num_4; omega) dX6_take_315
                        · refine lv_aload_n hx hb dX6_take_298 rfl (lv_at hl 0 rfl) ?_
                          refine mr_get (v := .int (G_0 0 (Int32.toNatClampNeg (F_0 40)))) E hM 42 (by decide) (index := 155) (mm_at 9 rfl) rfl rfl dX6_take_299 ?_
                          refine lv_bipush (v := 59) hx hb dX6_take_302 (by decide) ?_
                          refine mm_icmp_ne (X := (G_0 0 (Int32.toNatClampNeg (F_0 40))).toInt) (Y := 59) (tgt := 311) hx hb dX6_take_304 (by decide) rfl num_59 (fun c_73 => ?_) (fun c_73 => False.elim (by omega))
                          refine lv_iconst (v := 5) hx hb dX6_take_311 (by decide) ?_
                          refine mr_put (v := 5) E hM 41 (by decide) (index := 144) (mm_at 21 rfl) rfl rfl (by decide +kernel) ms_41 (mm_bd (X := 5) (a := 0) (b := 5) rfl num_5 (by omega)) (by decide) dX6_take_312 (fun H locs hM => ?_)
                          exact mr_rv E hr hlk hsz hM (show z_65.toInt ≤ (F 39).toInt ∧ (F 40).toInt ≤ z_65.toInt ∧ ((5 : Int32).toInt = 0 ∨ (F 40).toInt < z_65.toInt) ∧ (¬ (5 : Int32).toInt = 2 ∨ (65 ≤ (G_0 0 (Int32.toNatClampNeg (F_0 40))).toInt ∧ (G_0 0 (Int32.toNatClampNeg (F_0 40))).toInt ≤ 72)) from by have n9_41 := num_5; omega) dX6_take_315
                    · refine lv_iconst (v := 2) hx hb dX6_take_276 (by decide) ?_
                      refine lv_goto (tgt := 312) hx hb dX6_take_277 (by decide) ?_
                      refine mr_put (v := 2) E hM 41 (by decide) (index := 144) (mm_at 21 rfl) rfl rfl (by decide +kernel) ms_41 (mm_bd (X := 2) (a := 0) (b := 5) rfl num_2 (by omega)) (by decide) dX6_take_312 (fun H locs hM => ?_)
                      exact mr_rv E hr hlk hsz hM (show z_65.toInt ≤ (F 39).toInt ∧ (F 40).toInt ≤ z_65.toInt ∧ ((2 : Int32).toInt = 0 ∨ (F 40).toInt < z_65.toInt) ∧ (¬ (2 : Int32).toInt = 2 ∨ (65 ≤ (G_0 0 (Int32.toNatClampNeg (F_0 40))).toInt ∧ (G_0 0 (Int32.toNatClampNeg (F_0 40))).toInt ≤ 72)) from by have n9_41 := num_2; omega) dX6_take_315
                · refine lv_aload_n hx hb dX6_take_160 rfl (lv_at hl 0 rfl) ?_
                  refine lv_iconst (v := 3) hx hb dX6_take_161 (by decide) ?_
                  refine mr_put (v := 3) E hM 41 (by decide) (index := 144) (mm_at 21 rfl) rfl rfl (by decide +kernel) ms_41 (mm_bd (X := 3) (a := 0) (b := 5) rfl num_3 (by omega)) (by decide) dX6_take_162 (fun H locs hM => ?_)
                  refine lv_aload_n hx hb dX6_take_165 rfl (lv_at hl 0 rfl) ?_
                  refine lv_iconst (v := 0) hx hb dX6_take_166 (by decide) ?_
                  refine mr_put (v := 0) E hM 42 (by decide) (index := 155) (mm_at 9 rfl) rfl rfl (by decide +kernel) ms_42 (mm_nb rfl) (by decide) dX6_take_167 (fun H locs hM => ?_)
                  exact B_170 4294967296 _ _ _ (upd (upd (upd F_0 43 (F_0 40)) 41 3) 42 0) G_0  (show (F_0 40).toInt ≤ (F 39).toInt from by have n9_41 := num_3; have n9_42 := num_0; omega) (show (F 40).toInt ≤ (F_0 40).toInt from by have n9_41 := num_3; have n9_42 := num_0; omega) (show (3 : Int32).toInt = 3 from by have n9_41 := num_3; have n9_42 := num_0; omega) (show (F 40).toInt < (F_0 40).toInt ∨ ((F_0 40).toInt < (F 39).toInt ∧ 48 ≤ (G_0 0 (Int32.toNatClampNeg (F_0 40))).toInt ∧ (G_0 0 (Int32.toNatClampNeg (F_0 40))).toInt ≤ 57) from by have n9_41 := num_3; have n9_42 := num_0; omega) (show ((F 39).toInt - (F_0 40).toInt) < ((4294967296 : Nat) : Int) from by have n9_41 := num_3; have n9_42 := num_0; omega) hM (lv_sub hl [0] rfl)
              · exact B_90 4294967296 _ _ _ (upd F_0 43 (F_0 40)) G_0  (show (F_0 40).toInt ≤ (F 39).toInt from by omega) (show (F 40).toInt ≤ (F_0 40).toInt from by omega) (show (F_0 40).toInt ≤ (F_0 40).toInt from by omega) (show (F 40).toInt < (F_0 40).toInt ∨ ((F_0 40).toInt < (F 39).toInt ∧ 97 ≤ (G_0 0 (Int32.toNatClampNeg (F_0 40))).toInt ∧ (G_0 0 (Int32.toNatClampNeg (F_0 40))).toInt ≤ 122) from by omega) (show ((F 39).toInt - (F_0 40).toInt) < ((4294967296 : Nat) : Int) from by omega) hM (lv_sub hl [0] rfl)
            · refine lv_aload_n hx hb dX6_take_71 rfl (lv_at hl 0 rfl) ?_
              refine lv_iconst (v := 0) hx hb dX6_take_72 (by decide) ?_
              refine mr_put (v := 0) E hM 41 (by decide) (index := 144) (mm_at 21 rfl) rfl rfl (by decide +kernel) ms_41 (mm_bd (X := 0) (a := 0) (b := 5) rfl num_0 (by omega)) (by decide) dX6_take_73 (fun H locs hM => ?_)
              refine lv_goto (tgt := 315) hx hb dX6_take_76 (by decide) ?_
              exact mr_rv E hr hlk hsz hM (show (F_0 40).toInt ≤ (F 39).toInt ∧ (F 40).toInt ≤ (F_0 40).toInt ∧ ((0 : Int32).toInt = 0 ∨ (F 40).toInt < (F_0 40).toInt) ∧ (¬ (0 : Int32).toInt = 2 ∨ (65 ≤ (F_0 42).toInt ∧ (F_0 42).toInt ≤ 72)) from by have n9_41 := num_0; omega) dX6_take_315
          · refine lv_aload_n hx hb dX6_take_39 rfl (lv_at hl 0 rfl) ?_
            refine lv_dup hx hb dX6_take_40 rfl ?_
            refine mr_get (v := .int (F_0 40)) E hM 40 (by decide) (index := 138) (mm_at 1 rfl) rfl rfl dX6_take_41 ?_
            refine lv_iconst (v := 1) hx hb dX6_take_44 (by decide) ?_
            refine mm_iadd (X := (F_0 40).toInt) (Y := 1) hx hb dX6_take_45 rfl num_1 (by omega) (fun z_74 hz_74 => ?_)
            refine mr_put (v := z_74) E hM 40 (by decide) (index := 138) (mm_at 1 rfl) rfl rfl (by decide +kernel) ms_40 (mm_bd (X := z_74.toInt) (a := 0) (b := 1000) rfl rfl (by omega)) (by decide) dX6_take_46 (fun H locs hM => ?_)
            refine lv_goto (tgt := 0) hx hb dX6_take_49 (by decide) ?_
            exact ih_0 _ _ _ (upd F_0 40 z_74) G_0  (show z_74.toInt ≤ (F 39).toInt from by omega) (show (F 40).toInt ≤ z_74.toInt from by omega) (show ((F 39).toInt - z_74.toInt) < ((n_0 : Nat) : Int) from by omega) hM (lv_sub hl [0] rfl)
  have b_75 : 0 ≤ (F 40).toInt ∧ (F 40).toInt ≤ 1000 := hM.fb 40 rfl
  have b_76 : 0 ≤ (F 39).toInt ∧ (F 39).toInt ≤ 1000 := hM.fb 39 rfl
  exact B_0 4294967296 _ _ _ F G  (show (F 40).toInt ≤ (F 39).toInt from by omega) (show (F 40).toInt ≤ (F 40).toInt from by omega) (show ((F 39).toInt - (F 40).toInt) < ((4294967296 : Nat) : Int) from by omega) hM (lv_sub hl [0] rfl)
