def w5X5_standingInCup : List Cond := .code yX5_standingInCup cX5_standingInCup 4 (some .int) :: ([.fieldLink RX5 77 "SkiShots" "racerCount" "I", .fieldLink RX5 33 "SkiShots" "cup" "[I"] ++ wsX50)
set_option maxHeartbeats 4000000 in
set_option maxRecDepth 100000 in
theorem h5_X5_standingInCup (l : Launch) (D : va_G) (cA : Nat → ClassId) (ad av : Nat → Nat) (L : List Nat) (K : Nat → Nat) (I : Nat → Nat → Int32) (O : Nat → Nat → Option Nat) (sz : Nat) (x0 : Nat) (p0 : Int32) (hI : cI L K I O) (mx0 : x0 ∈ L) (kx0 : K x0 = 5) (cu : Nat) (hcu : O x0 12 = some cu) (k0 : 0 ≤ p0.toInt ∧ p0.toInt < 16) : Met l yX5_standingInCup w5X5_standingInCup ({ frames := 0, cells := 0, slots := 0, locals := 0 }) (cPre D cA ad av L K I O sz [.ref x0, .int p0]) (cQi D cA L K I O sz [] [] [] (fun r L' K' I' O' => (L' = L ∧ K' = K ∧ I' = I ∧ O' = O) ∧ (r.toInt = stF (fun j => (I cu j).toInt) (I cu (Int32.toNatClampNeg p0)).toInt (Int32.toNatClampNeg (I x0 8))))) 0 0 (va_A (cW cA L K I O) sz) := by
  refine cr_met (own := RX5) (xs := []) (WI := []) (WO := []) (cc := cX5_standingInCup) (maxL := 4) (ret := (some .int)) (by decide) rfl rfl (Nat.le_of_ble_eq_true rfl) hI ?_
  intro p e s m args below meth c ls E hV hml hr hlk hname hsz hA hM hl
  have hx := E.1
  have hb := E.2.1
  have hts := E.2.2.1
  have hown := E.2.2.2.1
  have hl : lv_has ls 4 [(0, .ref x0), (1, .int p0)] := hl
  have hin5 : ∀ w ∈ wsX50, w ∈ w5X5_standingInCup := by decide +kernel
  have B_4 : ∀ n_4 : Nat, ∀ (H : Heap) (locs : List Loc) (ls : Array Slot) (nn i : Int32), (0 ≤ i.toInt ∧ i.toInt ≤ 16) → (1 ≤ nn.toInt ∧ nn.toInt ≤ 17) → nn.toInt ≤ i.toInt + 1 → i.toInt ≤ (I x0 8).toInt → nn.toInt = stF (fun j => (I cu j).toInt) (I cu (Int32.toNatClampNeg p0)).toInt (Int32.toNatClampNeg i) → (16 - i.toInt) < (n_4 : Int) → cQ D cA (va_A (cW cA L K I O) sz) s.heap [] [] [] L K I O H locs L K I O → lv_has ls 4 [(0, .ref x0), (1, .int p0), (2, .int nn), (3, .int i)] → W p l e ({ frames := 0, cells := 0, slots := 0, locals := 0 }) s m args below meth c H locs 0 0 (MQ below (cQi D cA L K I O sz [] [] [] (fun r L' K' I' O' => (L' = L ∧ K' = K ∧ I' = I ∧ O' = O) ∧ (r.toInt = stF (fun j => (I cu j).toInt) (I cu (Int32.toNatClampNeg p0)).toInt (Int32.toNatClampNeg (I x0 8))))) args s 0 0 (va_A (cW cA L K I O) sz)) (F0 m 4 ls []) := by
    intro n_4
    induction n_4 with
    | zero => intro H locs ls nn i f4_0 f4_1 f4_2 f4_3 f4_4 hn hM hl; exact False.elim (by omega)
    | succ n_4 ih_4 =>
      intro H locs ls nn i f4_0 f4_1 f4_2 f4_3 f4_4 hn hM hl
      obtain ⟨mcu, kcu⟩ := hM.rt mx0 kx0 12 (κ' := 13) rfl hcu
      refine lv_iload_n hx hb dX5_standingInCup_4 rfl (lv_at hl 3 rfl) ?_
      refine lv_aload_n hx hb dX5_standingInCup_5 rfl (lv_at hl 0 rfl) ?_
      have b_1 : 0 ≤ (I x0 8).toInt ∧ (I x0 8).toInt ≤ 16 := hM.ib mx0 kx0 8 rfl
      refine cr_get (κ := 5) (ci := 5) (k := 8) (C := RX5) (T := TX5) (N := 13) (fs := cfs 5) (v := .int (I x0 8)) E hM mx0 kx0 (fun _ _ => rfl) rfl hin5 (by decide) (index := 77) (mm_at 1 rfl) rfl rfl dX5_standingInCup_6 ?_
      refine mm_icmp_ge (X := i.toInt) (Y := (I x0 8).toInt) (tgt := 36) hx hb dX5_standingInCup_9 (by decide) rfl rfl (fun c_2 => ?_) (fun c_2 => ?_)
      · refine lv_iload_n hx hb dX5_standingInCup_36 rfl (lv_at hl 2 rfl) ?_
        exact cr_ri (mc := 0) (ms := 0) E hr hlk hsz hM ⟨show (0 : Nat) ≤ 0 from by omega, show (0 : Nat) ≤ 0 from by omega⟩ ⟨⟨rfl, rfl, rfl, rfl⟩, (show nn.toInt = stF (fun j => (I cu j).toInt) (I cu (Int32.toNatClampNeg p0)).toInt (Int32.toNatClampNeg (I x0 8)) from by rw [show Int32.toNatClampNeg (I x0 8) = Int32.toNatClampNeg i from by have h1 := mm_nat (I x0 8); have h2 := mm_nat i; omega]; exact f4_4)⟩ dX5_standingInCup_37
      · refine lv_aload_n hx hb dX5_standingInCup_12 rfl (lv_at hl 0 rfl) ?_
        refine cr_get (κ := 5) (ci := 5) (k := 12) (C := RX5) (T := TX5) (N := 13) (fs := cfs 5) (v := .ref cu) E hM mx0 kx0 (fun _ _ => rfl) rfl hin5 (by decide) (index := 33) (mm_at 2 rfl) rfl (by show some (va_rf (O x0 12)) = some (.ref cu); rw [hcu]; rfl) dX5_standingInCup_13 ?_
        refine lv_iload_n hx hb dX5_standingInCup_16 rfl (lv_at hl 3 rfl) ?_
        refine cr_iald (κ := 13) (t0 := 1) (X := i.toInt) E hM mcu kcu (fun _ _ => rfl) rfl rfl (by omega) dX5_standingInCup_17 ?_
        refine lv_aload_n hx hb dX5_standingInCup_18 rfl (lv_at hl 0 rfl) ?_
        refine cr_get (κ := 5) (ci := 5) (k := 12) (C := RX5) (T := TX5) (N := 13) (fs := cfs 5) (v := .ref cu) E hM mx0 kx0 (fun _ _ => rfl) rfl hin5 (by decide) (index := 33) (mm_at 2 rfl) rfl (by show some (va_rf (O x0 12)) = some (.ref cu); rw [hcu]; rfl) dX5_standingInCup_19 ?_
        refine lv_iload_n hx hb dX5_standingInCup_22 rfl (lv_at hl 1 rfl) ?_
        refine cr_iald (κ := 13) (t0 := 1) (X := p0.toInt) E hM mcu kcu (fun _ _ => rfl) rfl rfl (by omega) dX5_standingInCup_23 ?_
        refine mm_icmp_le (X := (I cu (Int32.toNatClampNeg i)).toInt) (Y := (I cu (Int32.toNatClampNeg p0)).toInt) (tgt := 30) hx hb dX5_standingInCup_24 (by decide) rfl rfl (fun c_3 => ?_) (fun c_3 => ?_)
        · refine mm_iinc (X := i.toInt) (v := 1) (lv2 := fun z => [(3, .int z), (0, .ref x0), (1, .int p0), (2, .int nn)]) hx hb dX5_standingInCup_30 hl (k := 3) rfl rfl (by decide) num_1 (by omega) (by decide) (fun _ => rfl) (fun z_4 ls hz_4 hl => ?_)
          have hl : lv_has ls 4 [(3, .int z_4), (0, .ref x0), (1, .int p0), (2, .int nn)] := hl
          refine lv_goto (tgt := 4) hx hb dX5_standingInCup_33 (by decide) ?_
          exact ih_4 _ _ _  nn z_4    (show (0 ≤ z_4.toInt ∧ z_4.toInt ≤ 16) from by omega) (show (1 ≤ nn.toInt ∧ nn.toInt ≤ 17) from by omega) (show nn.toInt ≤ z_4.toInt + 1 from by omega) (show z_4.toInt ≤ (I x0 8).toInt from by omega) (show nn.toInt = stF (fun j => (I cu j).toInt) (I cu (Int32.toNatClampNeg p0)).toInt (Int32.toNatClampNeg z_4) from by rw [show Int32.toNatClampNeg z_4 = Int32.toNatClampNeg i + 1 from by have h1 := mm_nat z_4; have h2 := mm_nat i; omega]; show _ = stF _ _ (Int32.toNatClampNeg i) + (if (I cu (Int32.toNatClampNeg i)).toInt > (I cu (Int32.toNatClampNeg p0)).toInt then 1 else 0); rw [← f4_4]; split <;> omega) (show (16 - z_4.toInt) < ((n_4 : Nat) : Int) from by omega) hM (lv_sub hl [1, 2, 3, 0] rfl)
        · refine mm_iinc (X := nn.toInt) (v := 1) (lv2 := fun z => [(2, .int z), (0, .ref x0), (1, .int p0), (3, .int i)]) hx hb dX5_standingInCup_27 hl (k := 2) rfl rfl (by decide) num_1 (by omega) (by decide) (fun _ => rfl) (fun z_5 ls hz_5 hl => ?_)
          have hl : lv_has ls 4 [(2, .int z_5), (0, .ref x0), (1, .int p0), (3, .int i)] := hl
          refine mm_iinc (X := i.toInt) (v := 1) (lv2 := fun z => [(3, .int z), (2, .int z_5), (0, .ref x0), (1, .int p0)]) hx hb dX5_standingInCup_30 hl (k := 3) rfl rfl (by decide) num_1 (by omega) (by decide) (fun _ => rfl) (fun z_6 ls hz_6 hl => ?_)
          have hl : lv_has ls 4 [(3, .int z_6), (2, .int z_5), (0, .ref x0), (1, .int p0)] := hl
          refine lv_goto (tgt := 4) hx hb dX5_standingInCup_33 (by decide) ?_
          exact ih_4 _ _ _  z_5 z_6    (show (0 ≤ z_6.toInt ∧ z_6.toInt ≤ 16) from by omega) (show (1 ≤ z_5.toInt ∧ z_5.toInt ≤ 17) from by omega) (show z_5.toInt ≤ z_6.toInt + 1 from by omega) (show z_6.toInt ≤ (I x0 8).toInt from by omega) (show z_5.toInt = stF (fun j => (I cu j).toInt) (I cu (Int32.toNatClampNeg p0)).toInt (Int32.toNatClampNeg z_6) from by rw [show Int32.toNatClampNeg z_6 = Int32.toNatClampNeg i + 1 from by have h1 := mm_nat z_6; have h2 := mm_nat i; omega]; show _ = stF _ _ (Int32.toNatClampNeg i) + (if (I cu (Int32.toNatClampNeg i)).toInt > (I cu (Int32.toNatClampNeg p0)).toInt then 1 else 0); rw [← f4_4]; split <;> omega) (show (16 - z_6.toInt) < ((n_4 : Nat) : Int) from by omega) hM (lv_sub hl [2, 3, 1, 0] rfl)
  obtain ⟨mcu, kcu⟩ := hM.rt mx0 kx0 12 (κ' := 13) rfl hcu
  have b_7 : 0 ≤ (I x0 8).toInt ∧ (I x0 8).toInt ≤ 16 := hM.ib mx0 kx0 8 rfl
  refine lv_iconst (v := 1) hx hb dX5_standingInCup_0 (by decide) ?_
  refine lv_istore_n (lv' := [(2, .int 1), (0, .ref x0), (1, .int p0)]) hx hb dX5_standingInCup_1 rfl hl (by decide) rfl (fun ls hl => ?_)
  refine lv_iconst (v := 0) hx hb dX5_standingInCup_2 (by decide) ?_
  refine lv_istore_n (lv' := [(3, .int 0), (2, .int 1), (0, .ref x0), (1, .int p0)]) hx hb dX5_standingInCup_3 rfl hl (by decide) rfl (fun ls hl => ?_)
  exact B_4 4294967296 _ _ _  1 0    (show (0 ≤ (0 : Int32).toInt ∧ (0 : Int32).toInt ≤ 16) from by have n_0 := num_1; have n_1 := num_0; omega) (show (1 ≤ (1 : Int32).toInt ∧ (1 : Int32).toInt ≤ 17) from by have n_0 := num_1; have n_1 := num_0; omega) (show (1 : Int32).toInt ≤ (0 : Int32).toInt + 1 from by have n_0 := num_1; have n_1 := num_0; omega) (show (0 : Int32).toInt ≤ (I x0 8).toInt from by have n_0 := num_1; have n_1 := num_0; omega) (show (1 : Int32).toInt = stF (fun j => (I cu j).toInt) (I cu (Int32.toNatClampNeg p0)).toInt (Int32.toNatClampNeg (0 : Int32)) from by have n_0 := num_1; have n_1 := num_0; rw [show Int32.toNatClampNeg (0 : Int32) = 0 from by decide]; exact num_1) (show (16 - (0 : Int32).toInt) < ((4294967296 : Nat) : Int) from by have n_0 := num_1; have n_1 := num_0; omega) hM (lv_sub hl [2, 3, 1, 0] rfl)
