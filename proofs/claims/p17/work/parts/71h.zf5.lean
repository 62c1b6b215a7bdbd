def w5X3_lastPlace : List Cond := .code yX3_lastPlace cX3_lastPlace 5 (some .int) :: ([.fieldLink RX3 29 "SkiShots$Race" "entryCount" "I", .fieldLink RX3 25 "SkiShots$Race" "entries" "[LSkiShots$Entry;", .methodLink RX3 49 yX0_hasTime, .instanceMethod yX0_hasTime, .selects RX0 yX0_hasTime yX0_hasTime, .initialized RX0, .code yX0_hasTime cX0_hasTime 1 (some .boolean), .fieldLink RX0 39 "SkiShots$Entry" "low" "I", .fieldLink RX3 53 "SkiShots$Entry" "low" "I", .fieldLink RX3 77 "SkiShots$Entry" "high" "I"] ++ wsX00 ++ wsX30)
set_option maxRecDepth 20000 in
theorem gz_X3_lastPlace_X0_hasTime_5 : GoodIn w5X3_lastPlace (wsV RX3 49 RX0 yX0_hasTime w5X0_hasTime) := goodIn_p _ [7] rfl (by decide +kernel)
set_option maxRecDepth 20000 in
theorem gz_X3_lastPlace_X0_hasTime_16 : GoodIn w5X3_lastPlace (wsV RX3 49 RX0 yX0_hasTime w5X0_hasTime) := goodIn_p _ [7] rfl (by decide +kernel)
set_option maxHeartbeats 4000000 in
set_option maxRecDepth 100000 in
theorem h5_X3_lastPlace (l : Launch) (D : va_G) (cA : Nat → ClassId) (ad av : Nat → Nat) (L : List Nat) (K : Nat → Nat) (I : Nat → Nat → Int32) (O : Nat → Nat → Option Nat) (sz : Nat) (x0 : Nat) (p0 : Nat) (hI : cI L K I O) (mx0 : x0 ∈ L) (kx0 : K x0 = 3) (mp0 : p0 ∈ L) (kp0 : K p0 = 0) (yz : Nat) (rz : Nat) (bz : Nat → Nat) (fz : Nat → Nat) (ez : Nat → Nat) (wz : Nat → Nat → Nat) (Fz : Nat → Int32) (Gz : Nat → Nat → Int32) (hwx : lWx yz rz bz fz ez wz L K I O Fz Gz) (myz : yz ∈ L) (kyz : K yz = 5) (ri : Nat) (hri : (ri : Int) < (Fz 17).toInt) (hxr : x0 = bz ri) (ti : Nat) (htt : (ti : Int) < (Gz 27 ri).toInt) (hpt : p0 = wz ri ti) (hlo : ∀ t : Nat, (t : Int) < (Gz 27 ri).toInt → -1 ≤ (I (wz ri t) 3).toInt) : Met l yX3_lastPlace w5X3_lastPlace ({ frames := 1, cells := 0, slots := 0, locals := 20 }) (cPre D cA ad av L K I O sz [.ref x0, .ref p0]) (cQi D cA L K I O sz [] [] [] (fun r L' K' I' O' => (L' = L ∧ K' = K ∧ I' = I ∧ O' = O) ∧ (((I p0 3).toInt = -1 ∧ r.toInt = -1) ∨ (¬ (I p0 3).toInt = -1 ∧ r.toInt = plN (cGv wz I Gz) 0 ri (Gz 29 (16 * ri + ti)).toInt.toNat (Gz 27 ri).toInt.toNat)))) 0 0 (va_A (cW cA L K I O) sz) := by
  refine cr_met (own := RX3) (xs := []) (WI := []) (WO := []) (cc := cX3_lastPlace) (maxL := 5) (ret := (some .int)) (by decide) rfl rfl (Nat.le_of_ble_eq_true rfl) hI ?_
  intro p e s m args below meth c ls E hV hml hr hlk hname hsz hA hM hl
  have hx := E.1
  have hb := E.2.1
  have hts := E.2.2.1
  have hown := E.2.2.2.1
  have hl : lv_has ls 5 [(0, .ref x0), (1, .ref p0)] := hl
  have hin0 : ∀ w ∈ wsX00, w ∈ w5X3_lastPlace := by decide +kernel
  have hin3 : ∀ w ∈ wsX30, w ∈ w5X3_lastPlace := by decide +kernel
  have B_13 : ∀ n_13 : Nat, ∀ (H : Heap) (locs : List Loc) (ls : Array Slot) (nn i : Int32), (0 ≤ i.toInt ∧ i.toInt ≤ 16) → (1 ≤ nn.toInt ∧ nn.toInt ≤ 17) → nn.toInt ≤ i.toInt + 1 → i.toInt ≤ (I x0 4).toInt → ¬ (I p0 3).toInt = -1 → nn.toInt = plN (cGv wz I Gz) 0 ri (Gz 29 (16 * ri + ti)).toInt.toNat (Int32.toNatClampNeg i) → (16 - i.toInt) < (n_13 : Int) → cQ D cA (va_A (cW cA L K I O) sz) s.heap [] [] [] L K I O H locs L K I O → lv_has ls 5 [(0, .ref x0), (1, .ref p0), (2, .int nn), (3, .int i)] → W p l e ({ frames := 1, cells := 0, slots := 0, locals := 20 }) s m args below meth c H locs 0 0 (MQ below (cQi D cA L K I O sz [] [] [] (fun r L' K' I' O' => (L' = L ∧ K' = K ∧ I' = I ∧ O' = O) ∧ (((I p0 3).toInt = -1 ∧ r.toInt = -1) ∨ (¬ (I p0 3).toInt = -1 ∧ r.toInt = plN (cGv wz I Gz) 0 ri (Gz 29 (16 * ri + ti)).toInt.toNat (Gz 27 ri).toInt.toNat)))) args s 0 0 (va_A (cW cA L K I O) sz)) (F0 m 13 ls []) := by
    intro n_13
    induction n_13 with
    | zero => intro H locs ls nn i f13_0 f13_1 f13_2 f13_3 f13_4 f13_5 hn hM hl; exact False.elim (by omega)
    | succ n_13 ih_13 =>
      intro H locs ls nn i f13_0 f13_1 f13_2 f13_3 f13_4 f13_5 hn hM hl
      obtain ⟨hR, hWr, -, -, hmz⟩ := id hwx
      obtain ⟨-, -, ⟨af3, mez, kez⟩, -, ⟨-, a4, -⟩, -⟩ := id (hR.2.2.1 ri hri)
      rw [← hxr] at af3 a4
      have b_1 : 0 ≤ (I x0 4).toInt ∧ (I x0 4).toInt ≤ 16 := hM.ib mx0 kx0 4 rfl
      refine lv_iload_n hx hb dX3_lastPlace_13 rfl (lv_at hl 3 rfl) ?_
      refine lv_aload_n hx hb dX3_lastPlace_14 rfl (lv_at hl 0 rfl) ?_
      refine cr_get (κ := 3) (ci := 3) (k := 4) (C := RX3) (T := TX3) (N := 7) (fs := cfs 3) (v := .int (I x0 4)) E hM mx0 kx0 (fun _ _ => rfl) rfl hin3 (by decide) (index := 29) (mm_at 1 rfl) rfl rfl dX3_lastPlace_15 ?_
      refine mm_icmp_ge (X := i.toInt) (Y := (I x0 4).toInt) (tgt := 64) hx hb dX3_lastPlace_18 (by decide) rfl rfl (fun c_2 => ?_) (fun c_2 => ?_)
      · refine lv_iload_n hx hb dX3_lastPlace_64 rfl (lv_at hl 2 rfl) ?_
        exact cr_ri (mc := 0) (ms := 0) E hr hlk hsz hM ⟨show (0 : Nat) ≤ 0 from by omega, show (0 : Nat) ≤ 0 from by omega⟩ ⟨⟨rfl, rfl, rfl, rfl⟩, (show ((I p0 3).toInt = -1 ∧ nn.toInt = -1) ∨ (¬ (I p0 3).toInt = -1 ∧ nn.toInt = plN (cGv wz I Gz) 0 ri (Gz 29 (16 * ri + ti)).toInt.toNat (Gz 27 ri).toInt.toNat) from by exact Or.inr ⟨f13_4, by rw [show (Gz 27 ri).toInt.toNat = Int32.toNatClampNeg i from by have h2 := mm_nat i; omega]; exact f13_5⟩)⟩ dX3_lastPlace_65
      · have hti : (((Int32.toNatClampNeg i) : Nat) : Int) = i.toInt := by rw [mm_nat]; omega
        have htl : (((Int32.toNatClampNeg i) : Nat) : Int) < (Gz 27 ri).toInt := by omega
        obtain ⟨⟨ow0, mwz, kwz⟩, -⟩ := id (hR.2.2.2.1 ri (Int32.toNatClampNeg i) hri htl)
        have lo9 := hlo (Int32.toNatClampNeg i) htl
        refine lv_aload_n hx hb dX3_lastPlace_21 rfl (lv_at hl 0 rfl) ?_
        refine cr_get (κ := 3) (ci := 3) (k := 3) (C := RX3) (T := TX3) (N := 7) (fs := cfs 3) (v := .ref (ez ri)) E hM mx0 kx0 (fun _ _ => rfl) rfl hin3 (by decide) (index := 25) (mm_at 2 rfl) rfl (by show some (va_rf (O x0 3)) = some (.ref (ez ri)); rw [af3]; rfl) dX3_lastPlace_22 ?_
        refine lv_iload_n hx hb dX3_lastPlace_25 rfl (lv_at hl 3 rfl) ?_
        refine cr_aalds (κ := 15) (t0 := 4) (X := i.toInt) E hM mez kez (fun _ _ => rfl) rfl rfl (by omega) ow0 dX3_lastPlace_26 ?_
        refine lv_astore (lv' := [(4, .ref (wz ri (Int32.toNatClampNeg i))), (0, .ref x0), (1, .ref p0), (2, .int nn), (3, .int i)]) hx hb dX3_lastPlace_27 hl (by decide) rfl (fun ls hl => ?_)
        refine lv_aload hx hb dX3_lastPlace_29 (lv_at hl 0 rfl) ?_
        refine lv_aload_n hx hb dX3_lastPlace_31 rfl (lv_at hl 2 rfl) ?_
        refine lv_acmp_eq (rx := some (wz ri (Int32.toNatClampNeg i))) (ry := some p0) (tgt := 58) hx hb dX3_lastPlace_32 (by decide) (fun c_3 => ?_) (fun c_3 => ?_)
        · refine mm_iinc (X := i.toInt) (v := 1) (lv2 := fun z => [(3, .int z), (4, .ref (wz ri (Int32.toNatClampNeg i))), (0, .ref x0), (1, .ref p0), (2, .int nn)]) hx hb dX3_lastPlace_58 hl (k := 4) rfl rfl (by decide) num_1 (by omega) (by decide) (fun _ => rfl) (fun z_4 ls hz_4 hl => ?_)
          have hl : lv_has ls 5 [(3, .int z_4), (4, .ref (wz ri (Int32.toNatClampNeg i))), (0, .ref x0), (1, .ref p0), (2, .int nn)] := hl
          refine lv_goto (tgt := 13) hx hb dX3_lastPlace_61 (by decide) ?_
          exact ih_13 _ _ _  nn z_4    (show (0 ≤ z_4.toInt ∧ z_4.toInt ≤ 16) from by omega) (show (1 ≤ nn.toInt ∧ nn.toInt ≤ 17) from by omega) (show nn.toInt ≤ z_4.toInt + 1 from by omega) (show z_4.toInt ≤ (I x0 4).toInt from by omega) (show ¬ (I p0 3).toInt = -1 from by omega) (show nn.toInt = plN (cGv wz I Gz) 0 ri (Gz 29 (16 * ri + ti)).toInt.toNat (Int32.toNatClampNeg z_4) from by have ca9 : (wz ri (Int32.toNatClampNeg i)) = p0 := Option.some.inj c_3; rw [show Int32.toNatClampNeg z_4 = Int32.toNatClampNeg i + 1 from by have h1 := mm_nat z_4; have h2 := mm_nat i; omega, plN_s hR hWr hri htt htl, ← f13_5, ← hpt]; split <;> omega) (show (16 - z_4.toInt) < ((n_13 : Nat) : Int) from by omega) hM (lv_sub hl [2, 3, 4, 0] rfl)
        · have ca9 : ¬ (wz ri (Int32.toNatClampNeg i)) = p0 := fun z => c_3 (by rw [z])
          refine lv_aload hx hb dX3_lastPlace_35 (lv_at hl 0 rfl) ?_
          refine cc_Vip (vs := []) (rest := []) (b := (wz ri (Int32.toNatClampNeg i))) (κ := 0) E hV rfl hA hml hM mwz kwz rfl rfl (h5_X0_hasTime l D cA ad av L K I O _ (wz ri (Int32.toNatClampNeg i)) hM.2.2.2.1 mwz kwz) (cwV 0 hts gz_X3_lastPlace_X0_hasTime_5 rfl rfl rfl (by decide +kernel) ⟨Nat.le_of_ble_eq_true rfl, Nat.le_of_ble_eq_true rfl⟩) rfl hl.1 rfl (Nat.le_of_ble_eq_true rfl) dX3_lastPlace_37 ⟨show (0 : Nat) ≤ 0 from by omega, show (0 : Nat) ≤ 0 from by omega⟩ (fun r_6 H locs p_7 hM => ?_)
          replace p_7 : (r_6.toInt = 1 ∧ ¬ (I (wz ri (Int32.toNatClampNeg i)) 3).toInt = -1) ∨ (r_6.toInt = 0 ∧ (I (wz ri (Int32.toNatClampNeg i)) 3).toInt = -1) := p_7
          refine mm_if_eq (X := r_6.toInt) (tgt := 58) hx hb dX3_lastPlace_40 (by decide) rfl (fun c_9 => ?_) (fun c_9 => ?_)
          · refine mm_iinc (X := i.toInt) (v := 1) (lv2 := fun z => [(3, .int z), (4, .ref (wz ri (Int32.toNatClampNeg i))), (0, .ref x0), (1, .ref p0), (2, .int nn)]) hx hb dX3_lastPlace_58 hl (k := 4) rfl rfl (by decide) num_1 (by omega) (by decide) (fun _ => rfl) (fun z_10 ls hz_10 hl => ?_)
            have hl : lv_has ls 5 [(3, .int z_10), (4, .ref (wz ri (Int32.toNatClampNeg i))), (0, .ref x0), (1, .ref p0), (2, .int nn)] := hl
            refine lv_goto (tgt := 13) hx hb dX3_lastPlace_61 (by decide) ?_
            exact ih_13 _ _ _  nn z_10    (show (0 ≤ z_10.toInt ∧ z_10.toInt ≤ 16) from by omega) (show (1 ≤ nn.toInt ∧ nn.toInt ≤ 17) from by omega) (show nn.toInt ≤ z_10.toInt + 1 from by omega) (show z_10.toInt ≤ (I x0 4).toInt from by omega) (show ¬ (I p0 3).toInt = -1 from by omega) (show nn.toInt = plN (cGv wz I Gz) 0 ri (Gz 29 (16 * ri + ti)).toInt.toNat (Int32.toNatClampNeg z_10) from by rw [show Int32.toNatClampNeg z_10 = Int32.toNatClampNeg i + 1 from by have h1 := mm_nat z_10; have h2 := mm_nat i; omega, plN_s hR hWr hri htt htl, ← f13_5, ← hpt]; split <;> omega) (show (16 - z_10.toInt) < ((n_13 : Nat) : Int) from by omega) hM (lv_sub hl [2, 3, 4, 0] rfl)
          · refine lv_aload hx hb dX3_lastPlace_43 (lv_at hl 0 rfl) ?_
            refine cr_get (κ := 0) (ci := 0) (k := 3) (C := RX0) (T := TX0) (N := 10) (fs := cfs 0) (v := .int (I (wz ri (Int32.toNatClampNeg i)) 3)) E hM mwz kwz (fun _ _ => rfl) rfl hin0 (by decide) (index := 53) (mm_at 9 rfl) rfl rfl dX3_lastPlace_45 ?_
            refine lv_aload_n hx hb dX3_lastPlace_48 rfl (lv_at hl 2 rfl) ?_
            refine cr_get (κ := 0) (ci := 0) (k := 4) (C := RX0) (T := TX0) (N := 10) (fs := cfs 0) (v := .int (I p0 4)) E hM mp0 kp0 (fun _ _ => rfl) rfl hin0 (by decide) (index := 77) (mm_at 10 rfl) rfl rfl dX3_lastPlace_49 ?_
            refine mm_icmp_ge (X := (I (wz ri (Int32.toNatClampNeg i)) 3).toInt) (Y := (I p0 4).toInt) (tgt := 58) hx hb dX3_lastPlace_52 (by decide) rfl rfl (fun c_11 => ?_) (fun c_11 => ?_)
            · refine mm_iinc (X := i.toInt) (v := 1) (lv2 := fun z => [(3, .int z), (4, .ref (wz ri (Int32.toNatClampNeg i))), (0, .ref x0), (1, .ref p0), (2, .int nn)]) hx hb dX3_lastPlace_58 hl (k := 4) rfl rfl (by decide) num_1 (by omega) (by decide) (fun _ => rfl) (fun z_12 ls hz_12 hl => ?_)
              have hl : lv_has ls 5 [(3, .int z_12), (4, .ref (wz ri (Int32.toNatClampNeg i))), (0, .ref x0), (1, .ref p0), (2, .int nn)] := hl
              refine lv_goto (tgt := 13) hx hb dX3_lastPlace_61 (by decide) ?_
              exact ih_13 _ _ _  nn z_12    (show (0 ≤ z_12.toInt ∧ z_12.toInt ≤ 16) from by omega) (show (1 ≤ nn.toInt ∧ nn.toInt ≤ 17) from by omega) (show nn.toInt ≤ z_12.toInt + 1 from by omega) (show z_12.toInt ≤ (I x0 4).toInt from by omega) (show ¬ (I p0 3).toInt = -1 from by omega) (show nn.toInt = plN (cGv wz I Gz) 0 ri (Gz 29 (16 * ri + ti)).toInt.toNat (Int32.toNatClampNeg z_12) from by rw [show Int32.toNatClampNeg z_12 = Int32.toNatClampNeg i + 1 from by have h1 := mm_nat z_12; have h2 := mm_nat i; omega, plN_s hR hWr hri htt htl, ← f13_5, ← hpt]; split <;> omega) (show (16 - z_12.toInt) < ((n_13 : Nat) : Int) from by omega) hM (lv_sub hl [2, 3, 4, 0] rfl)
            · refine mm_iinc (X := nn.toInt) (v := 1) (lv2 := fun z => [(2, .int z), (4, .ref (wz ri (Int32.toNatClampNeg i))), (0, .ref x0), (1, .ref p0), (3, .int i)]) hx hb dX3_lastPlace_55 hl (k := 3) rfl rfl (by decide) num_1 (by omega) (by decide) (fun _ => rfl) (fun z_13 ls hz_13 hl => ?_)
              have hl : lv_has ls 5 [(2, .int z_13), (4, .ref (wz ri (Int32.toNatClampNeg i))), (0, .ref x0), (1, .ref p0), (3, .int i)] := hl
              refine mm_iinc (X := i.toInt) (v := 1) (lv2 := fun z => [(3, .int z), (2, .int z_13), (4, .ref (wz ri (Int32.toNatClampNeg i))), (0, .ref x0), (1, .ref p0)]) hx hb dX3_lastPlace_58 hl (k := 4) rfl rfl (by decide) num_1 (by omega) (by decide) (fun _ => rfl) (fun z_14 ls hz_14 hl => ?_)
              have hl : lv_has ls 5 [(3, .int z_14), (2, .int z_13), (4, .ref (wz ri (Int32.toNatClampNeg i))), (0, .ref x0), (1, .ref p0)] := hl
              refine lv_goto (tgt := 13) hx hb dX3_lastPlace_61 (by decide) ?_
              exact ih_13 _ _ _  z_13 z_14    (show (0 ≤ z_14.toInt ∧ z_14.toInt ≤ 16) from by omega) (show (1 ≤ z_13.toInt ∧ z_13.toInt ≤ 17) from by omega) (show z_13.toInt ≤ z_14.toInt + 1 from by omega) (show z_14.toInt ≤ (I x0 4).toInt from by omega) (show ¬ (I p0 3).toInt = -1 from by omega) (show z_13.toInt = plN (cGv wz I Gz) 0 ri (Gz 29 (16 * ri + ti)).toInt.toNat (Int32.toNatClampNeg z_14) from by rw [show Int32.toNatClampNeg z_14 = Int32.toNatClampNeg i + 1 from by have h1 := mm_nat z_14; have h2 := mm_nat i; omega, plN_s hR hWr hri htt htl, ← f13_5, ← hpt]; split <;> omega) (show (16 - z_14.toInt) < ((n_13 : Nat) : Int) from by omega) hM (lv_sub hl [3, 4, 1, 0] rfl)
  have b_15 : 0 ≤ (I x0 4).toInt ∧ (I x0 4).toInt ≤ 16 := hM.ib mx0 kx0 4 rfl
  refine lv_aload_n hx hb dX3_lastPlace_0 rfl (lv_at hl 1 rfl) ?_
  refine cc_Vip (vs := []) (rest := []) (b := p0) (κ := 0) E hV rfl hA hml hM mp0 kp0 rfl rfl (h5_X0_hasTime l D cA ad av L K I O _ p0 hM.2.2.2.1 mp0 kp0) (cwV 0 hts gz_X3_lastPlace_X0_hasTime_16 rfl rfl rfl (by decide +kernel) ⟨Nat.le_of_ble_eq_true rfl, Nat.le_of_ble_eq_true rfl⟩) rfl hl.1 rfl (Nat.le_of_ble_eq_true rfl) dX3_lastPlace_1 ⟨show (0 : Nat) ≤ 0 from by omega, show (0 : Nat) ≤ 0 from by omega⟩ (fun r_17 H locs p_18 hM => ?_)
  replace p_18 : (r_17.toInt = 1 ∧ ¬ (I p0 3).toInt = -1) ∨ (r_17.toInt = 0 ∧ (I p0 3).toInt = -1) := p_18
  refine mm_if_ne (X := r_17.toInt) (tgt := 9) hx hb dX3_lastPlace_4 (by decide) rfl (fun c_20 => ?_) (fun c_20 => ?_)
  · refine lv_iconst (v := 1) hx hb dX3_lastPlace_9 (by decide) ?_
    refine lv_istore_n (lv' := [(2, .int 1), (0, .ref x0), (1, .ref p0)]) hx hb dX3_lastPlace_10 rfl hl (by decide) rfl (fun ls hl => ?_)
    refine lv_iconst (v := 0) hx hb dX3_lastPlace_11 (by decide) ?_
    refine lv_istore_n (lv' := [(3, .int 0), (2, .int 1), (0, .ref x0), (1, .ref p0)]) hx hb dX3_lastPlace_12 rfl hl (by decide) rfl (fun ls hl => ?_)
    exact B_13 4294967296 _ _ _  1 0    (show (0 ≤ (0 : Int32).toInt ∧ (0 : Int32).toInt ≤ 16) from by have n_0 := num_1; have n_1 := num_0; omega) (show (1 ≤ (1 : Int32).toInt ∧ (1 : Int32).toInt ≤ 17) from by have n_0 := num_1; have n_1 := num_0; omega) (show (1 : Int32).toInt ≤ (0 : Int32).toInt + 1 from by have n_0 := num_1; have n_1 := num_0; omega) (show (0 : Int32).toInt ≤ (I x0 4).toInt from by have n_0 := num_1; have n_1 := num_0; omega) (show ¬ (I p0 3).toInt = -1 from by have n_0 := num_1; have n_1 := num_0; omega) (show (1 : Int32).toInt = plN (cGv wz I Gz) 0 ri (Gz 29 (16 * ri + ti)).toInt.toNat (Int32.toNatClampNeg (0 : Int32)) from by have n_0 := num_1; have n_1 := num_0; rw [show Int32.toNatClampNeg (0 : Int32) = 0 from by decide]; exact num_1) (show (16 - (0 : Int32).toInt) < ((4294967296 : Nat) : Int) from by have n_0 := num_1; have n_1 := num_0; omega) hM (lv_sub hl [2, 3, 1, 0] rfl)
  · refine lv_iconst (v := (-1)) hx hb dX3_lastPlace_7 (by decide) ?_
    exact cr_ri (mc := 0) (ms := 0) E hr hlk hsz hM ⟨show (0 : Nat) ≤ 0 from by omega, show (0 : Nat) ≤ 0 from by omega⟩ ⟨⟨rfl, rfl, rfl, rfl⟩, (show ((I p0 3).toInt = -1 ∧ ((-1) : Int32).toInt = -1) ∨ (¬ (I p0 3).toInt = -1 ∧ ((-1) : Int32).toInt = plN (cGv wz I Gz) 0 ri (Gz 29 (16 * ri + ti)).toInt.toNat (Gz 27 ri).toInt.toNat) from by have n9 := num_m1; exact Or.inl ⟨by omega, by omega⟩)⟩ dX3_lastPlace_8
