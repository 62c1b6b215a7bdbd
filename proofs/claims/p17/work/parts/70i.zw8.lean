def w7X6_stands : List Cond := .code yX6_stands cX6_stands 4 (some .int) :: ([.fieldLink RX6 197 "SkiShotsModel" "racers" "I", .fieldLink RX6 123 "SkiShotsModel" "sums" "[I"] ++ wsX60)
set_option maxHeartbeats 4000000 in
set_option maxRecDepth 100000 in
theorem g7_X6_stands (l : Launch) (D : va_G) (h0 : Nat) (q : Nat → Nat) (cq : Nat → ClassId) (F : Nat → Int32) (G : Nat → Nat → Int32) (sz : Nat) (p0 : Int32) (hI : mI F G) (k0 : 0 ≤ p0.toInt ∧ p0.toInt < 16) : Met l yX6_stands w7X6_stands ({ frames := 0, cells := 0, slots := 0, locals := 0 }) (mPre D h0 q cq F G sz [.ref h0, .int p0]) (mQi D h0 q cq F G sz [] [] (fun r F' G' => r.toInt = stF (fun j => (G 51 j).toInt) (G 51 (Int32.toNatClampNeg p0)).toInt (Int32.toNatClampNeg (F 15)))) 0 0 (va_A (mW h0 q cq F G) sz) := by
  refine mr_met (WF := []) (WG := []) (cc := cX6_stands) (maxL := 4) (ret := (some .int)) (by decide) rfl rfl (by decide +kernel) (Nat.le_of_ble_eq_true rfl) hI ?_
  intro p e s m args below meth c ls E hml hr hlk hsz hA hM hl
  have hx := E.1
  have hb := E.2.1
  have hts := E.2.2.1
  have hown := E.2.2.2.2.1
  have hl : lv_has ls 4 [(0, .ref h0), (1, .int p0)] := hl
  have b15 : 0 ≤ (F 15).toInt ∧ (F 15).toInt ≤ 16 := hI.1 15 (0, 16) rfl
  have B_4 : ∀ n_4 : Nat, ∀ (H : Heap) (locs : List Loc) (ls : Array Slot) (Fc_4 : Nat → Int32) (Gc_4 : Nat → Nat → Int32) (nn w : Int32), (0 ≤ w.toInt ∧ w.toInt ≤ 16) → (1 ≤ nn.toInt ∧ nn.toInt ≤ 17) → w.toInt ≤ (F 15).toInt → nn.toInt ≤ w.toInt + 1 → nn.toInt = stF (fun j => (G 51 j).toInt) (G 51 (Int32.toNatClampNeg p0)).toInt (Int32.toNatClampNeg w) → (16 - w.toInt) < (n_4 : Int) → mQ D h0 q cq (va_A (mW h0 q cq F G) sz) s.heap [] [] F G H locs Fc_4 Gc_4 → lv_has ls 4 [(0, .ref h0), (1, .int p0), (2, .int nn), (3, .int w)] → W p l e ({ frames := 0, cells := 0, slots := 0, locals := 0 }) s m args below meth c H locs 0 0 (MQ below (mQi D h0 q cq F G sz [] [] (fun r F' G' => r.toInt = stF (fun j => (G 51 j).toInt) (G 51 (Int32.toNatClampNeg p0)).toInt (Int32.toNatClampNeg (F 15)))) args s 0 0 (va_A (mW h0 q cq F G) sz)) (F0 m 4 ls []) := by
    intro n_4
    induction n_4 with
    | zero => intro H locs ls Fc_4 Gc_4 nn w f4_0 f4_1 f4_2 f4_3 f4_4 hn hM hl; exact False.elim (by have hfr_4 := hM.fr; omega)
    | succ n_4 ih_4 =>
      intro H locs ls Fc_4 Gc_4 nn w f4_0 f4_1 f4_2 f4_3 f4_4 hn hM hl
      have hfr_4 := hM.fr
      refine lv_iload_n hx hb dX6_stands_4 rfl (lv_at hl 3 rfl) ?_
      refine lv_aload_n hx hb dX6_stands_5 rfl (lv_at hl 0 rfl) ?_
      have b_1 : 0 ≤ (Fc_4 15).toInt ∧ (Fc_4 15).toInt ≤ 16 := hM.fb 15 rfl
      have e_2 : (Fc_4 15).toInt = (F 15).toInt := (congrArg Int32.toInt (hfr_4.1 15 (by decide))).trans rfl
      refine mr_get (v := .int (Fc_4 15)) E hM 15 (by decide) (index := 197) (mm_at 1 rfl) rfl rfl dX6_stands_6 ?_
      refine mm_icmp_ge (X := w.toInt) (Y := (Fc_4 15).toInt) (tgt := 41) hx hb dX6_stands_9 (by decide) rfl rfl (fun c_3 => ?_) (fun c_3 => ?_)
      · refine lv_iload_n hx hb dX6_stands_41 rfl (lv_at hl 2 rfl) ?_
        exact mr_ri E hr hlk hsz hM (show nn.toInt = stF (fun j => (G 51 j).toInt) (G 51 (Int32.toNatClampNeg p0)).toInt (Int32.toNatClampNeg (F 15)) from by rw [show Int32.toNatClampNeg (F 15) = Int32.toNatClampNeg w from by have h1 := mm_nat (F 15); have h2 := mm_nat w; omega]; exact f4_4) dX6_stands_42
      · refine lv_iload_n hx hb dX6_stands_12 rfl (lv_at hl 2 rfl) ?_
        refine lv_aload_n hx hb dX6_stands_13 rfl (lv_at hl 0 rfl) ?_
        refine mr_get (v := .ref (q 51)) E hM 51 (by decide) (index := 123) (mm_at 2 rfl) rfl rfl dX6_stands_14 ?_
        refine lv_iload_n hx hb dX6_stands_17 rfl (lv_at hl 3 rfl) ?_
        refine mr_ald (X := w.toInt) E hM 37 36 rfl rfl rfl (by omega) dX6_stands_18 ?_
        have gq_4 : (Gc_4 51 (Int32.toNatClampNeg w)).toInt = (G 51 (Int32.toNatClampNeg w)).toInt := congrArg Int32.toInt (congrFun ((hfr_4.2 51 (by decide)).trans rfl) _)
        refine lv_aload_n hx hb dX6_stands_19 rfl (lv_at hl 0 rfl) ?_
        refine mr_get (v := .ref (q 51)) E hM 51 (by decide) (index := 123) (mm_at 2 rfl) rfl rfl dX6_stands_20 ?_
        refine lv_iload_n hx hb dX6_stands_23 rfl (lv_at hl 1 rfl) ?_
        refine mr_ald (X := p0.toInt) E hM 37 36 rfl rfl rfl (by omega) dX6_stands_24 ?_
        have gq_5 : (Gc_4 51 (Int32.toNatClampNeg p0)).toInt = (G 51 (Int32.toNatClampNeg p0)).toInt := congrArg Int32.toInt (congrFun ((hfr_4.2 51 (by decide)).trans rfl) _)
        refine mm_icmp_le (X := (Gc_4 51 (Int32.toNatClampNeg w)).toInt) (Y := (Gc_4 51 (Int32.toNatClampNeg p0)).toInt) (tgt := 32) hx hb dX6_stands_25 (by decide) rfl rfl (fun c_6 => ?_) (fun c_6 => ?_)
        · refine lv_iconst (v := 0) hx hb dX6_stands_32 (by decide) ?_
          refine mm_iadd (X := nn.toInt) (Y := 0) hx hb dX6_stands_33 rfl num_0 (by omega) (fun z_7 hz_7 => ?_)
          refine lv_istore_n (lv' := [(2, .int z_7), (0, .ref h0), (1, .int p0), (3, .int w)]) hx hb dX6_stands_34 rfl hl (by decide) rfl (fun ls hl => ?_)
          refine mm_iinc (X := w.toInt) (v := 1) (lv2 := fun z => [(3, .int z), (2, .int z_7), (0, .ref h0), (1, .int p0)]) hx hb dX6_stands_35 hl (k := 3) rfl rfl (by decide) num_1 (by omega) (by decide) (fun _ => rfl) (fun z_8 ls hz_8 hl => ?_)
          have hl : lv_has ls 4 [(3, .int z_8), (2, .int z_7), (0, .ref h0), (1, .int p0)] := hl
          refine lv_goto (tgt := 4) hx hb dX6_stands_38 (by decide) ?_
          exact ih_4 _ _ _ Fc_4 Gc_4 z_7 z_8 (show (0 ≤ z_8.toInt ∧ z_8.toInt ≤ 16) from by omega) (show (1 ≤ z_7.toInt ∧ z_7.toInt ≤ 17) from by omega) (show z_8.toInt ≤ (F 15).toInt from by omega) (show z_7.toInt ≤ z_8.toInt + 1 from by omega) (show z_7.toInt = stF (fun j => (G 51 j).toInt) (G 51 (Int32.toNatClampNeg p0)).toInt (Int32.toNatClampNeg z_8) from by rw [show Int32.toNatClampNeg z_8 = Int32.toNatClampNeg w + 1 from by have h1 := mm_nat z_8; have h2 := mm_nat w; omega]; show _ = stF _ _ (Int32.toNatClampNeg w) + (if (G 51 (Int32.toNatClampNeg w)).toInt > (G 51 (Int32.toNatClampNeg p0)).toInt then 1 else 0); rw [← f4_4]; split <;> omega) (show (16 - z_8.toInt) < ((n_4 : Nat) : Int) from by omega) hM (lv_sub hl [2, 3, 1, 0] rfl)
        · refine lv_iconst (v := 1) hx hb dX6_stands_28 (by decide) ?_
          refine lv_goto (tgt := 33) hx hb dX6_stands_29 (by decide) ?_
          refine mm_iadd (X := nn.toInt) (Y := 1) hx hb dX6_stands_33 rfl num_1 (by omega) (fun z_9 hz_9 => ?_)
          refine lv_istore_n (lv' := [(2, .int z_9), (0, .ref h0), (1, .int p0), (3, .int w)]) hx hb dX6_stands_34 rfl hl (by decide) rfl (fun ls hl => ?_)
          refine mm_iinc (X := w.toInt) (v := 1) (lv2 := fun z => [(3, .int z), (2, .int z_9), (0, .ref h0), (1, .int p0)]) hx hb dX6_stands_35 hl (k := 3) rfl rfl (by decide) num_1 (by omega) (by decide) (fun _ => rfl) (fun z_10 ls hz_10 hl => ?_)
          have hl : lv_has ls 4 [(3, .int z_10), (2, .int z_9), (0, .ref h0), (1, .int p0)] := hl
          refine lv_goto (tgt := 4) hx hb dX6_stands_38 (by decide) ?_
          exact ih_4 _ _ _ Fc_4 Gc_4 z_9 z_10 (show (0 ≤ z_10.toInt ∧ z_10.toInt ≤ 16) from by omega) (show (1 ≤ z_9.toInt ∧ z_9.toInt ≤ 17) from by omega) (show z_10.toInt ≤ (F 15).toInt from by omega) (show z_9.toInt ≤ z_10.toInt + 1 from by omega) (show z_9.toInt = stF (fun j => (G 51 j).toInt) (G 51 (Int32.toNatClampNeg p0)).toInt (Int32.toNatClampNeg z_10) from by rw [show Int32.toNatClampNeg z_10 = Int32.toNatClampNeg w + 1 from by have h1 := mm_nat z_10; have h2 := mm_nat w; omega]; show _ = stF _ _ (Int32.toNatClampNeg w) + (if (G 51 (Int32.toNatClampNeg w)).toInt > (G 51 (Int32.toNatClampNeg p0)).toInt then 1 else 0); rw [← f4_4]; split <;> omega) (show (16 - z_10.toInt) < ((n_4 : Nat) : Int) from by omega) hM (lv_sub hl [2, 3, 1, 0] rfl)
  refine lv_iconst (v := 1) hx hb dX6_stands_0 (by decide) ?_
  refine lv_istore_n (lv' := [(2, .int 1), (0, .ref h0), (1, .int p0)]) hx hb dX6_stands_1 rfl hl (by decide) rfl (fun ls hl => ?_)
  refine lv_iconst (v := 0) hx hb dX6_stands_2 (by decide) ?_
  refine lv_istore_n (lv' := [(3, .int 0), (2, .int 1), (0, .ref h0), (1, .int p0)]) hx hb dX6_stands_3 rfl hl (by decide) rfl (fun ls hl => ?_)
  have b_11 : 0 ≤ (F 15).toInt ∧ (F 15).toInt ≤ 16 := hM.fb 15 rfl
  exact B_4 4294967296 _ _ _ F G 1 0 (show (0 ≤ (0 : Int32).toInt ∧ (0 : Int32).toInt ≤ 16) from by have n_0 := num_1; have n_1 := num_0; omega) (show (1 ≤ (1 : Int32).toInt ∧ (1 : Int32).toInt ≤ 17) from by have n_0 := num_1; have n_1 := num_0; omega) (show (0 : Int32).toInt ≤ (F 15).toInt from by have n_0 := num_1; have n_1 := num_0; omega) (show (1 : Int32).toInt ≤ (0 : Int32).toInt + 1 from by have n_0 := num_1; have n_1 := num_0; omega) (show (1 : Int32).toInt = stF (fun j => (G 51 j).toInt) (G 51 (Int32.toNatClampNeg p0)).toInt (Int32.toNatClampNeg (0 : Int32)) from by have n_0 := num_1; have n_1 := num_0; rw [show Int32.toNatClampNeg (0 : Int32) = 0 from by decide]; exact num_1) (show (16 - (0 : Int32).toInt) < ((4294967296 : Nat) : Int) from by have n_0 := num_1; have n_1 := num_0; omega) hM (lv_sub hl [2, 3, 1, 0] rfl)
