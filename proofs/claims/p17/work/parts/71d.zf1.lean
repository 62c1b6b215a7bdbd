def w5X3_chaseStart : List Cond := .code yX3_chaseStart cX3_chaseStart 4 (some .int) :: ([.fieldLink RX3 15 "SkiShots$Race" "by" "LSkiShots$Race;", .methodLink RX3 67 yX3_entryOf, .instanceMethod yX3_entryOf, .selects RX3 yX3_entryOf yX3_entryOf, .initialized RX3, .code yX3_entryOf cX3_entryOf 3 (some (.object "SkiShots$Entry")), .fieldLink RX3 29 "SkiShots$Race" "entryCount" "I", .fieldLink RX3 25 "SkiShots$Race" "entries" "[LSkiShots$Entry;", .fieldLink RX3 35 "SkiShots$Entry" "racer" "I", .methodLink RX3 49 yX0_hasTime, .instanceMethod yX0_hasTime, .selects RX0 yX0_hasTime yX0_hasTime, .initialized RX0, .code yX0_hasTime cX0_hasTime 1 (some .boolean), .fieldLink RX0 39 "SkiShots$Entry" "low" "I", .fieldLink RX3 53 "SkiShots$Entry" "low" "I", .fieldLink RX3 38 "SkiShots$Race" "leastLow" "I", .fieldLink RX3 9 "SkiShots$Race" "format" "LSkiShots$Format;", .fieldLink RX3 61 "SkiShots$Format" "startSeconds" "I", .methodLink RX3 71 Lib.Math.min.name, .static Lib.Math.min.name, .initialized "java/lang/Math", .code Lib.Math.min.name Lib.Math.min.code 2 (some .int)] ++ wsX00 ++ wsX20 ++ wsX30)
set_option maxRecDepth 20000 in
theorem gz_X3_chaseStart_X3_entryOf_1 : GoodIn w5X3_chaseStart (wsV RX3 67 RX3 yX3_entryOf w5X3_entryOf) := goodIn_p _ [6] rfl (by decide +kernel)
set_option maxRecDepth 20000 in
theorem gz_X3_chaseStart_X0_hasTime_6 : GoodIn w5X3_chaseStart (wsV RX3 49 RX0 yX0_hasTime w5X0_hasTime) := goodIn_p _ [14] rfl (by decide +kernel)
set_option maxHeartbeats 4000000 in
set_option maxRecDepth 100000 in
theorem h5_X3_chaseStart (l : Launch) (D : va_G) (cA : Nat → ClassId) (ad av : Nat → Nat) (L : List Nat) (K : Nat → Nat) (I : Nat → Nat → Int32) (O : Nat → Nat → Option Nat) (sz : Nat) (x0 : Nat) (p0 : Int32) (hI : cI L K I O) (mx0 : x0 ∈ L) (kx0 : K x0 = 3) (yz : Nat) (rz : Nat) (bz : Nat → Nat) (fz : Nat → Nat) (ez : Nat → Nat) (wz : Nat → Nat → Nat) (Fz : Nat → Int32) (Gz : Nat → Nat → Int32) (hwx : lWx yz rz bz fz ez wz L K I O Fz Gz) (myz : yz ∈ L) (kyz : K yz = 5) (ri : Nat) (hri : (ri : Int) < (Fz 17).toInt) (hxr : x0 = bz ri) (h11 : (Gz 24 ri).toInt = 11) (k0 : 0 ≤ p0.toInt ∧ p0.toInt < 16) (kv : p0.toInt < (Fz 15).toInt) (hle : lMn (cGv wz I Gz) (Gz 26 ri).toInt.toNat (Int32.toNatClampNeg (Fz 15)) (I (bz (Gz 26 ri).toInt.toNat) 6).toInt ∧ ∀ j : Nat, (j : Int) < (Gz 27 (Gz 26 ri).toInt.toNat).toInt → -1 ≤ (I (wz (Gz 26 ri).toInt.toNat j) 3).toInt) : Met l yX3_chaseStart w5X3_chaseStart ({ frames := 1, cells := 0, slots := 0, locals := 24 }) (cPre D cA ad av L K I O sz [.ref x0, .int p0]) (cQi D cA L K I O sz [] [] [] (fun r L' K' I' O' => (L' = L ∧ K' = K ∧ I' = I ∧ O' = O) ∧ (wkS (cGv wz I Gz) (Int32.toNatClampNeg (Fz 15)) ri p0.toInt.toNat r.toInt))) 0 0 (va_A (cW cA L K I O) sz) := by
  refine cr_met (own := RX3) (xs := []) (WI := []) (WO := []) (cc := cX3_chaseStart) (maxL := 4) (ret := (some .int)) (by decide) rfl rfl (Nat.le_of_ble_eq_true rfl) hI ?_
  intro p e s m args below meth c ls E hV hml hr hlk hname hsz hA hM hl
  have hx := E.1
  have hb := E.2.1
  have hts := E.2.2.1
  have hown := E.2.2.2.1
  have hl : lv_has ls 4 [(0, .ref x0), (1, .int p0)] := hl
  have hin0 : ∀ w ∈ wsX00, w ∈ w5X3_chaseStart := by decide +kernel
  have hin2 : ∀ w ∈ wsX20, w ∈ w5X3_chaseStart := by decide +kernel
  have hin3 : ∀ w ∈ wsX30, w ∈ w5X3_chaseStart := by decide +kernel
  obtain ⟨hR, hWr, -, -, hmz⟩ := id hwx
  have A := hR.2.2.1 ri hri
  obtain ⟨-, ⟨af0, mfz, kfz⟩, -, ⟨-, -, -, -, -, af6, af7⟩, -, hby_⟩ := id A
  rw [← hxr] at af0 hby_
  have hby1 : 0 ≤ (Gz 26 ri).toInt ∧ (Gz 26 ri).toInt < (ri : Int) ∧ O x0 1 = some (bz (Gz 26 ri).toInt.toNat) := by
    rcases hby_ with ⟨-, c2, c3, c4⟩ | ⟨c1, -⟩
    · exact ⟨c2, c3, c4⟩
    · exact absurd h11 c1
  obtain ⟨hb0, hb1, oby⟩ := hby1
  have h17 := hWr.2.2.2.2.1
  have h15 := hWr.2.2.2.1
  have hbr : (((Gz 26 ri).toInt.toNat : Nat) : Int) < (Fz 17).toInt := by omega
  have hb8 : (Gz 26 ri).toInt.toNat < 8 := by omega
  obtain ⟨⟨-, mby, kby⟩, -, ⟨oez, mez, kez⟩, -, ⟨-, b4, -⟩, -⟩ := id (hR.2.2.1 (Gz 26 ri).toInt.toNat hbr)
  have hnu := (hWr.2.1 ri hri).2.2
  refine lv_aload_n hx hb dX3_chaseStart_0 rfl (lv_at hl 0 rfl) ?_
  refine cr_get (κ := 3) (ci := 3) (k := 1) (C := RX3) (T := TX3) (N := 7) (fs := cfs 3) (v := .ref (bz (Gz 26 ri).toInt.toNat)) E hM mx0 kx0 (fun _ _ => rfl) rfl hin3 (by decide) (index := 15) (mm_at 1 rfl) rfl (by show some (va_rf (O x0 1)) = some (.ref (bz (Gz 26 ri).toInt.toNat)); rw [oby]; rfl) dX3_chaseStart_1 ?_
  refine lv_ifnonnull (tgt := 11) hx hb dX3_chaseStart_4 (by decide) ?_
  refine lv_aload_n hx hb dX3_chaseStart_11 rfl (lv_at hl 0 rfl) ?_
  refine cr_get (κ := 3) (ci := 3) (k := 1) (C := RX3) (T := TX3) (N := 7) (fs := cfs 3) (v := .ref (bz (Gz 26 ri).toInt.toNat)) E hM mx0 kx0 (fun _ _ => rfl) rfl hin3 (by decide) (index := 15) (mm_at 1 rfl) rfl (by show some (va_rf (O x0 1)) = some (.ref (bz (Gz 26 ri).toInt.toNat)); rw [oby]; rfl) dX3_chaseStart_12 ?_
  refine lv_iload_n hx hb dX3_chaseStart_15 rfl (lv_at hl 1 rfl) ?_
  refine cc_Vqp (vs := [.int p0]) (rest := []) (b := (bz (Gz 26 ri).toInt.toNat)) (κ := 3) E hV rfl hA hml hM mby kby rfl rfl (h5_X3_entryOf l D cA ad av L K I O _ (bz (Gz 26 ri).toInt.toNat) p0 hM.2.2.2.1 mby kby (ez (Gz 26 ri).toInt.toNat) oez) (cwV 1 hts gz_X3_chaseStart_X3_entryOf_1 rfl rfl rfl (by decide +kernel) ⟨Nat.le_of_ble_eq_true rfl, Nat.le_of_ble_eq_true rfl⟩) rfl hl.1 rfl (Nat.le_of_ble_eq_true rfl) dX3_chaseStart_16 ⟨show (0 : Nat) ≤ 0 from by omega, show (0 : Nat) ≤ 0 from by omega⟩ (fun r_2 H locs p_3 hM => ?_)
  rcases p_3 with ⟨rfl, hn_5⟩ | ⟨b_5, j_5, rfl, mb_5, kb_5, gj_5, ob_5, eb_5⟩
  · show W _ _ _ _ _ _ _ _ _ _ _ _ _ _ _ (F0 m 19 ls [.null])
    refine lv_astore_nN (lv' := [(2, .null), (0, .ref x0), (1, .int p0)]) hx hb dX3_chaseStart_19 rfl hl (by decide) rfl (fun ls hl => ?_)
    refine lv_aload_nN hx hb dX3_chaseStart_20 rfl (lv_at hl 0 rfl) ?_
    refine lv_ifnullN (tgt := 31) hx hb dX3_chaseStart_21 (by decide) ?_
    refine lv_iconst (v := (-1)) hx hb dX3_chaseStart_31 (by decide) ?_
    exact cr_ri (mc := 0) (ms := 0) E hr hlk hsz hM ⟨show (0 : Nat) ≤ 0 from by omega, show (0 : Nat) ≤ 0 from by omega⟩ ⟨⟨rfl, rfl, rfl, rfl⟩, (show wkS (cGv wz I Gz) (Int32.toNatClampNeg (Fz 15)) ri p0.toInt.toNat ((-1) : Int32).toInt from by have n9 := num_m1; exact wkSv_to (Or.inr (Or.inr ⟨by omega, by omega, Or.inl ⟨Or.inl (lRx_no hR hbr hb8 (by omega) hn_5), by omega⟩⟩)))⟩ dX3_chaseStart_32
  · show W _ _ _ _ _ _ _ _ _ _ _ _ _ _ _ (F0 m 19 ls [.ref b_5])
    refine lv_astore_n (lv' := [(2, .ref b_5), (0, .ref x0), (1, .int p0)]) hx hb dX3_chaseStart_19 rfl hl (by decide) rfl (fun ls hl => ?_)
    refine lv_aload_n hx hb dX3_chaseStart_20 rfl (lv_at hl 0 rfl) ?_
    refine lv_ifnull hx hb dX3_chaseStart_21 ?_
    obtain ⟨ex9, hj9, g29, g30, wi9⟩ := lRx_is hR hbr gj_5 ob_5 eb_5
    have cg9 : cGf wz I Gz 3 (16 * (Gz 26 ri).toInt.toNat + p0.toInt.toNat) = I b_5 3 := by
      rw [← wi9, cGf_at hWr hbr hj9 3, ex9]
    have lo9 := hle.2 j_5 hj9
    rw [← ex9] at lo9
    refine lv_aload_n hx hb dX3_chaseStart_24 rfl (lv_at hl 0 rfl) ?_
    refine cc_Vip (vs := []) (rest := []) (b := b_5) (κ := 0) E hV rfl hA hml hM mb_5 kb_5 rfl rfl (h5_X0_hasTime l D cA ad av L K I O _ b_5 hM.2.2.2.1 mb_5 kb_5) (cwV 0 hts gz_X3_chaseStart_X0_hasTime_6 rfl rfl rfl (by decide +kernel) ⟨Nat.le_of_ble_eq_true rfl, Nat.le_of_ble_eq_true rfl⟩) rfl hl.1 rfl (Nat.le_of_ble_eq_true rfl) dX3_chaseStart_25 ⟨show (0 : Nat) ≤ 0 from by omega, show (0 : Nat) ≤ 0 from by omega⟩ (fun r_7 H locs p_8 hM => ?_)
    replace p_8 : (r_7.toInt = 1 ∧ ¬ (I b_5 3).toInt = -1) ∨ (r_7.toInt = 0 ∧ (I b_5 3).toInt = -1) := p_8
    refine mm_if_ne (X := r_7.toInt) (tgt := 33) hx hb dX3_chaseStart_28 (by decide) rfl (fun c_10 => ?_) (fun c_10 => ?_)
    · refine lv_aload_n hx hb dX3_chaseStart_33 rfl (lv_at hl 0 rfl) ?_
      refine cr_get (κ := 0) (ci := 0) (k := 3) (C := RX0) (T := TX0) (N := 10) (fs := cfs 0) (v := .int (I b_5 3)) E hM mb_5 kb_5 (fun _ _ => rfl) rfl hin0 (by decide) (index := 53) (mm_at 16 rfl) rfl rfl dX3_chaseStart_34 ?_
      refine lv_aload_n hx hb dX3_chaseStart_37 rfl (lv_at hl 1 rfl) ?_
      refine cr_get (κ := 3) (ci := 3) (k := 1) (C := RX3) (T := TX3) (N := 7) (fs := cfs 3) (v := .ref (bz (Gz 26 ri).toInt.toNat)) E hM mx0 kx0 (fun _ _ => rfl) rfl hin3 (by decide) (index := 15) (mm_at 1 rfl) rfl (by show some (va_rf (O x0 1)) = some (.ref (bz (Gz 26 ri).toInt.toNat)); rw [oby]; rfl) dX3_chaseStart_38 ?_
      refine cr_get (κ := 3) (ci := 3) (k := 6) (C := RX3) (T := TX3) (N := 7) (fs := cfs 3) (v := .int (I (bz (Gz 26 ri).toInt.toNat) 6)) E hM mby kby (fun _ _ => rfl) rfl hin3 (by decide) (index := 38) (mm_at 17 rfl) rfl rfl dX3_chaseStart_41 ?_
      have le9 := lMn_le hle.1 (u := p0.toInt.toNat) (by rw [mm_nat]; omega) (by show 0 ≤ (Gz 30 _).toInt; omega) (by show 0 ≤ (cGf wz I Gz 3 _).toInt; rw [cg9]; omega)
      have le8 : 0 ≤ (I (bz (Gz 26 ri).toInt.toNat) 6).toInt ∧ (I (bz (Gz 26 ri).toInt.toNat) 6).toInt ≤ (I b_5 3).toInt := ⟨le9.1, by have q9 : (I (bz (Gz 26 ri).toInt.toNat) 6).toInt ≤ (cGf wz I Gz 3 (16 * (Gz 26 ri).toInt.toNat + p0.toInt.toNat)).toInt := le9.2; rw [cg9] at q9; exact q9⟩
      have rg9 := mm_rng (I b_5 3)
      refine mm_isub (X := (I b_5 3).toInt) (Y := (I (bz (Gz 26 ri).toInt.toNat) 6).toInt) hx hb dX3_chaseStart_44 rfl rfl (by omega) (fun z_11 hz_11 => ?_)
      refine lv_bipush (v := 10) hx hb dX3_chaseStart_45 (by decide) ?_
      refine lv_idiv hx hb dX3_chaseStart_47 (by decide) ?_
      refine lv_topi (fun z_12 ez_12 => ?_)
      have hz_12 : z_12.toInt = z_11.toInt / 10 := by rw [ez_12]; exact wk_div10 (by omega)
      refine lv_istore_n (lv' := [(3, .int z_12), (2, .ref b_5), (0, .ref x0), (1, .int p0)]) hx hb dX3_chaseStart_48 rfl hl (by decide) rfl (fun ls hl => ?_)
      refine lv_iload_n hx hb dX3_chaseStart_49 rfl (lv_at hl 0 rfl) ?_
      refine lv_aload_n hx hb dX3_chaseStart_50 rfl (lv_at hl 2 rfl) ?_
      refine cr_get (κ := 3) (ci := 3) (k := 0) (C := RX3) (T := TX3) (N := 7) (fs := cfs 3) (v := .ref (fz ri)) E hM mx0 kx0 (fun _ _ => rfl) rfl hin3 (by decide) (index := 9) (mm_at 18 rfl) rfl (by show some (va_rf (O x0 0)) = some (.ref (fz ri)); rw [af0]; rfl) dX3_chaseStart_51 ?_
      refine cr_get (κ := 2) (ci := 2) (k := 7) (C := RX2) (T := TX2) (N := 8) (fs := cfs 2) (v := .int (I (fz ri) 7)) E hM mfz kfz (fun _ _ => rfl) rfl hin2 (by decide) (index := 61) (mm_at 19 rfl) rfl rfl dX3_chaseStart_54 ?_
      refine mm_min (X := z_12.toInt) (Y := (I (fz ri) 7).toInt) hx hb (hml.trans hl.1.symm) hown (hts _ (mm_at 20 rfl)) (hts _ (mm_at 21 rfl)) (hts _ (mm_at 22 rfl)) (hts _ (mm_at 23 rfl)) (Nat.le_of_ble_eq_true rfl) (Nat.le_of_ble_eq_true rfl) (Nat.le_of_ble_eq_true rfl) (Nat.le_of_ble_eq_true rfl) rfl rfl dX3_chaseStart_57 (fun z_13 hz_13 => ?_)
      refine lv_bipush (v := 10) hx hb dX3_chaseStart_60 (by decide) ?_
      refine mm_imul (X := z_13.toInt) (Y := 10) hx hb dX3_chaseStart_62 rfl num_10 (by omega) (fun z_14 hz_14 => ?_)
      exact cr_ri (mc := 0) (ms := 0) E hr hlk hsz hM ⟨show (0 : Nat) ≤ 0 from by omega, show (0 : Nat) ≤ 0 from by omega⟩ ⟨⟨rfl, rfl, rfl, rfl⟩, (show wkS (cGv wz I Gz) (Int32.toNatClampNeg (Fz 15)) ri p0.toInt.toNat z_14.toInt from by refine wkSv_to (Or.inr (Or.inr ⟨by omega, by omega, Or.inr ⟨by omega, by rw [cg9]; omega, (I (bz (Gz 26 ri).toInt.toNat) 6).toInt, hle.1, ?_⟩⟩)); rw [cg9]; split <;> omega)⟩ dX3_chaseStart_63
    · refine lv_iconst (v := (-1)) hx hb dX3_chaseStart_31 (by decide) ?_
      exact cr_ri (mc := 0) (ms := 0) E hr hlk hsz hM ⟨show (0 : Nat) ≤ 0 from by omega, show (0 : Nat) ≤ 0 from by omega⟩ ⟨⟨rfl, rfl, rfl, rfl⟩, (show wkS (cGv wz I Gz) (Int32.toNatClampNeg (Fz 15)) ri p0.toInt.toNat ((-1) : Int32).toInt from by have n9 := num_m1; exact wkSv_to (Or.inr (Or.inr ⟨by omega, by omega, Or.inl ⟨Or.inr (by rw [cg9]; omega), by omega⟩⟩)))⟩ dX3_chaseStart_32
