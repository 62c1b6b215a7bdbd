def w5X3_startOf : List Cond := .code yX3_startOf cX3_startOf 2 (some .int) :: ([.fieldLink RX3 9 "SkiShots$Race" "format" "LSkiShots$Format;", .fieldLink RX3 56 "SkiShots$Format" "startSort" "I", .fieldLink RX3 61 "SkiShots$Format" "startSeconds" "I", .fieldLink RX3 25 "SkiShots$Race" "entries" "[LSkiShots$Entry;", .fieldLink RX3 35 "SkiShots$Entry" "racer" "I", .methodLink RX3 64 yX3_chaseStart, .instanceMethod yX3_chaseStart, .selects RX3 yX3_chaseStart yX3_chaseStart, .initialized RX3, .code yX3_chaseStart cX3_chaseStart 4 (some .int), .fieldLink RX3 15 "SkiShots$Race" "by" "LSkiShots$Race;", .methodLink RX3 67 yX3_entryOf, .instanceMethod yX3_entryOf, .selects RX3 yX3_entryOf yX3_entryOf, .code yX3_entryOf cX3_entryOf 3 (some (.object "SkiShots$Entry")), .fieldLink RX3 29 "SkiShots$Race" "entryCount" "I", .methodLink RX3 49 yX0_hasTime, .instanceMethod yX0_hasTime, .selects RX0 yX0_hasTime yX0_hasTime, .initialized RX0, .code yX0_hasTime cX0_hasTime 1 (some .boolean), .fieldLink RX0 39 "SkiShots$Entry" "low" "I", .fieldLink RX3 53 "SkiShots$Entry" "low" "I", .fieldLink RX3 38 "SkiShots$Race" "leastLow" "I", .methodLink RX3 71 Lib.Math.min.name, .static Lib.Math.min.name, .initialized "java/lang/Math", .code Lib.Math.min.name Lib.Math.min.code 2 (some .int)] ++ wsX00 ++ wsX20 ++ wsX30)
set_option maxRecDepth 20000 in
theorem gz_X3_startOf_X3_chaseStart_8 : GoodIn w5X3_startOf (wsV RX3 64 RX3 yX3_chaseStart w5X3_chaseStart) := goodIn_p _ [10, 15, 21, 28] rfl (by decide +kernel)
set_option maxHeartbeats 4000000 in
set_option maxRecDepth 100000 in
theorem h5_X3_startOf (l : Launch) (D : va_G) (cA : Nat → ClassId) (ad av : Nat → Nat) (L : List Nat) (K : Nat → Nat) (I : Nat → Nat → Int32) (O : Nat → Nat → Option Nat) (sz : Nat) (x0 : Nat) (p0 : Int32) (hI : cI L K I O) (mx0 : x0 ∈ L) (kx0 : K x0 = 3) (yz : Nat) (rz : Nat) (bz : Nat → Nat) (fz : Nat → Nat) (ez : Nat → Nat) (wz : Nat → Nat → Nat) (Fz : Nat → Int32) (Gz : Nat → Nat → Int32) (hwx : lWx yz rz bz fz ez wz L K I O Fz Gz) (myz : yz ∈ L) (kyz : K yz = 5) (ri : Nat) (hri : (ri : Int) < (Fz 17).toInt) (hxr : x0 = bz ri) (k0 : 0 ≤ p0.toInt ∧ p0.toInt < (I x0 4).toInt) (hle : (Gz 24 ri).toInt = 11 → (lMn (cGv wz I Gz) (Gz 26 ri).toInt.toNat (Int32.toNatClampNeg (Fz 15)) (I (bz (Gz 26 ri).toInt.toNat) 6).toInt ∧ ∀ j : Nat, (j : Int) < (Gz 27 (Gz 26 ri).toInt.toNat).toInt → -1 ≤ (I (wz (Gz 26 ri).toInt.toNat j) 3).toInt)) : Met l yX3_startOf w5X3_startOf ({ frames := 2, cells := 0, slots := 0, locals := 47 }) (cPre D cA ad av L K I O sz [.ref x0, .int p0]) (cQi D cA L K I O sz [] [] [] (fun r L' K' I' O' => (L' = L ∧ K' = K ∧ I' = I ∧ O' = O) ∧ (wkS (cGv wz I Gz) (Int32.toNatClampNeg (Fz 15)) ri (Gz 29 (16 * ri + Int32.toNatClampNeg p0)).toInt.toNat r.toInt))) 0 0 (va_A (cW cA L K I O) sz) := by
  refine cr_met (own := RX3) (xs := []) (WI := []) (WO := []) (cc := cX3_startOf) (maxL := 2) (ret := (some .int)) (by decide) rfl rfl (Nat.le_of_ble_eq_true rfl) hI ?_
  intro p e s m args below meth c ls E hV hml hr hlk hname hsz hA hM hl
  have hx := E.1
  have hb := E.2.1
  have hts := E.2.2.1
  have hown := E.2.2.2.1
  have hl : lv_has ls 2 [(0, .ref x0), (1, .int p0)] := hl
  have hin0 : ∀ w ∈ wsX00, w ∈ w5X3_startOf := by decide +kernel
  have hin2 : ∀ w ∈ wsX20, w ∈ w5X3_startOf := by decide +kernel
  have hin3 : ∀ w ∈ wsX30, w ∈ w5X3_startOf := by decide +kernel
  obtain ⟨hR, hWr, -, -, hmz⟩ := id hwx
  obtain ⟨-, ⟨af0, mfz, kfz⟩, ⟨af3, mez, kez⟩, ⟨-, -, -, -, -, af6, af7⟩, ⟨-, a4, -⟩, -⟩ := id (hR.2.2.1 ri hri)
  rw [← hxr] at af0 af3 a4
  have hti : ((Int32.toNatClampNeg p0 : Nat) : Int) = p0.toInt := by rw [mm_nat]; omega
  have htl : ((Int32.toNatClampNeg p0 : Nat) : Int) < (Gz 27 ri).toInt := by omega
  obtain ⟨⟨ow0, mwz, kwz⟩, g0, g1, g2, g3⟩ := id (hR.2.2.2.1 ri (Int32.toNatClampNeg p0) hri htl)
  have how := (hWr.2.1 ri hri).1
  have hnu := (hWr.2.1 ri hri).2.2
  have h15 := hWr.2.2.2.1
  have b_1 : 0 ≤ (I x0 4).toInt ∧ (I x0 4).toInt ≤ 16 := hM.ib mx0 kx0 4 rfl
  refine lv_aload_n hx hb dX3_startOf_0 rfl (lv_at hl 0 rfl) ?_
  refine cr_get (κ := 3) (ci := 3) (k := 0) (C := RX3) (T := TX3) (N := 7) (fs := cfs 3) (v := .ref (fz ri)) E hM mx0 kx0 (fun _ _ => rfl) rfl hin3 (by decide) (index := 9) (mm_at 1 rfl) rfl (by show some (va_rf (O x0 0)) = some (.ref (fz ri)); rw [af0]; rfl) dX3_startOf_1 ?_
  refine cr_get (κ := 2) (ci := 2) (k := 6) (C := RX2) (T := TX2) (N := 8) (fs := cfs 2) (v := .int (I (fz ri) 6)) E hM mfz kfz (fun _ _ => rfl) rfl hin2 (by decide) (index := 56) (mm_at 2 rfl) rfl rfl dX3_startOf_4 ?_
  by_cases s_2 : (I (fz ri) 6).toInt = 0
  · refine lv_lookup (tgt := 32) hx hb dX3_startOf_7 (by decide) (off := 25) (by rw [s_2]; rfl) (by decide) ?_
    refine lv_iconst (v := 0) hx hb dX3_startOf_32 (by decide) ?_
    exact cr_ri (mc := 0) (ms := 0) E hr hlk hsz hM ⟨show (0 : Nat) ≤ 0 from by omega, show (0 : Nat) ≤ 0 from by omega⟩ ⟨⟨rfl, rfl, rfl, rfl⟩, (show wkS (cGv wz I Gz) (Int32.toNatClampNeg (Fz 15)) ri (Gz 29 (16 * ri + Int32.toNatClampNeg p0)).toInt.toNat (0 : Int32).toInt from by have n9 := num_0; exact wkSv_to (Or.inl ⟨by omega, by omega⟩))⟩ dX3_startOf_33
  by_cases s_3 : (I (fz ri) 6).toInt = 1
  · refine lv_lookup (tgt := 34) hx hb dX3_startOf_7 (by decide) (off := 27) (by rw [s_3]; rfl) (by decide) ?_
    refine lv_aload_n hx hb dX3_startOf_34 rfl (lv_at hl 0 rfl) ?_
    refine cr_get (κ := 3) (ci := 3) (k := 0) (C := RX3) (T := TX3) (N := 7) (fs := cfs 3) (v := .ref (fz ri)) E hM mx0 kx0 (fun _ _ => rfl) rfl hin3 (by decide) (index := 9) (mm_at 1 rfl) rfl (by show some (va_rf (O x0 0)) = some (.ref (fz ri)); rw [af0]; rfl) dX3_startOf_35 ?_
    refine cr_get (κ := 2) (ci := 2) (k := 7) (C := RX2) (T := TX2) (N := 8) (fs := cfs 2) (v := .int (I (fz ri) 7)) E hM mfz kfz (fun _ _ => rfl) rfl hin2 (by decide) (index := 61) (mm_at 3 rfl) rfl rfl dX3_startOf_38 ?_
    refine lv_bipush (v := 10) hx hb dX3_startOf_41 (by decide) ?_
    refine mm_imul (X := (I (fz ri) 7).toInt) (Y := 10) hx hb dX3_startOf_43 rfl num_10 (by omega) (fun z_4 hz_4 => ?_)
    refine lv_iload_n hx hb dX3_startOf_44 rfl (lv_at hl 1 rfl) ?_
    have hm_5 := wk_mul (a := z_4.toInt) (b := p0.toInt) (by omega) (by omega)
    refine mm_imul (X := z_4.toInt) (Y := p0.toInt) hx hb dX3_startOf_45 rfl rfl (by omega) (fun z_6 hz_6 => ?_)
    exact cr_ri (mc := 0) (ms := 0) E hr hlk hsz hM ⟨show (0 : Nat) ≤ 0 from by omega, show (0 : Nat) ≤ 0 from by omega⟩ ⟨⟨rfl, rfl, rfl, rfl⟩, (show wkS (cGv wz I Gz) (Int32.toNatClampNeg (Fz 15)) ri (Gz 29 (16 * ri + Int32.toNatClampNeg p0)).toInt.toNat z_6.toInt from by exact wkSv_to (Or.inr (Or.inl ⟨by omega, by rw [hz_6, hz_4, g3, hti, af7, Int.mul_comm (Gz 25 ri).toInt 10]⟩)))⟩ dX3_startOf_46
  · refine lv_lookup (tgt := 47) hx hb dX3_startOf_7 (by decide) (off := 40) (by simp only [Op.lookupswitch.offset]; (repeat rw [if_neg (by omega)])) (by decide) ?_
    refine lv_aload_n hx hb dX3_startOf_47 rfl (lv_at hl 0 rfl) ?_
    refine lv_aload_n hx hb dX3_startOf_48 rfl (lv_at hl 0 rfl) ?_
    refine cr_get (κ := 3) (ci := 3) (k := 3) (C := RX3) (T := TX3) (N := 7) (fs := cfs 3) (v := .ref (ez ri)) E hM mx0 kx0 (fun _ _ => rfl) rfl hin3 (by decide) (index := 25) (mm_at 4 rfl) rfl (by show some (va_rf (O x0 3)) = some (.ref (ez ri)); rw [af3]; rfl) dX3_startOf_49 ?_
    refine lv_iload_n hx hb dX3_startOf_52 rfl (lv_at hl 1 rfl) ?_
    refine cr_aalds (κ := 15) (t0 := 4) (X := p0.toInt) E hM mez kez (fun _ _ => rfl) rfl rfl (by omega) ow0 dX3_startOf_53 ?_
    have b_7 : 0 ≤ (I (wz ri (Int32.toNatClampNeg p0)) 0).toInt ∧ (I (wz ri (Int32.toNatClampNeg p0)) 0).toInt ≤ 15 := hM.ib mwz kwz 0 rfl
    refine cr_get (κ := 0) (ci := 0) (k := 0) (C := RX0) (T := TX0) (N := 10) (fs := cfs 0) (v := .int (I (wz ri (Int32.toNatClampNeg p0)) 0)) E hM mwz kwz (fun _ _ => rfl) rfl hin0 (by decide) (index := 35) (mm_at 5 rfl) rfl rfl dX3_startOf_54 ?_
    refine cc_Vip (vs := [.int (I (wz ri (Int32.toNatClampNeg p0)) 0)]) (rest := []) (b := x0) (κ := 3) E hV rfl hA hml hM mx0 kx0 rfl rfl (h5_X3_chaseStart l D cA ad av L K I O _ x0 (I (wz ri (Int32.toNatClampNeg p0)) 0) hM.2.2.2.1 mx0 kx0 yz rz bz fz ez wz Fz Gz hwx myz kyz ri hri hxr (by omega) (show 0 ≤ (I (wz ri (Int32.toNatClampNeg p0)) 0).toInt ∧ (I (wz ri (Int32.toNatClampNeg p0)) 0).toInt < 16 from by omega) (by omega) (hle (by omega))) (cwV 1 hts gz_X3_startOf_X3_chaseStart_8 rfl rfl rfl (by decide +kernel) ⟨Nat.le_of_ble_eq_true rfl, Nat.le_of_ble_eq_true rfl⟩) rfl hl.1 rfl (Nat.le_of_ble_eq_true rfl) dX3_startOf_57 ⟨show (0 : Nat) ≤ 0 from by omega, show (0 : Nat) ≤ 0 from by omega⟩ (fun r_9 H locs p_10 hM => ?_)
    replace p_10 : wkS (cGv wz I Gz) (Int32.toNatClampNeg (Fz 15)) ri (I (wz ri (Int32.toNatClampNeg p0)) 0).toInt.toNat r_9.toInt := p_10
    exact cr_ri (mc := 0) (ms := 0) E hr hlk hsz hM ⟨show (0 : Nat) ≤ 0 from by omega, show (0 : Nat) ≤ 0 from by omega⟩ ⟨⟨rfl, rfl, rfl, rfl⟩, (show wkS (cGv wz I Gz) (Int32.toNatClampNeg (Fz 15)) ri (Gz 29 (16 * ri + Int32.toNatClampNeg p0)).toInt.toNat r_9.toInt from by have h9 := p_10; rw [g0] at h9; exact h9)⟩ dX3_startOf_60
