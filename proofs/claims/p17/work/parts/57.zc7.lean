/-- byte k of a number as the reference keeps it -/
def zby (x : Int32) (k : Nat) : Int := ((x >>> ((if k = 0 then (24 : Int32) else if k = 1 then 16 else if k = 2 then 8 else 0) &&& 31)) &&& 255).toInt
def zby5 (a b c d e : Int32) (k : Nat) : Int := zby (if k < 4 then a else if k < 8 then b else if k < 12 then c else if k < 16 then d else e) (k % 4)
theorem zT_b (y : Int32) : zT (vp_nar .byte (y.toInt8.toInt32)).toInt (y &&& 255).toInt := by
  have hu : (y &&& 255).toInt = ((y.toBitVec.toNat % 256 : Nat) : Int) := by
    rw [pk_and y 8 (by decide)]
    exact nI_toInt (by have := Nat.mod_lt y.toBitVec.toNat (show 0 < 2 ^ 8 by decide); omega)
  have hn : vp_nar .byte (y.toInt8.toInt32) = y.toInt8.toInt32.toInt8.toInt32 := rfl
  have hc : (y.toInt8.toInt32.toInt8.toInt32).toInt = y.toInt.bmod 256 := by
    rw [Int8.toInt_toInt32, Int32.toInt_toInt8, Int8.toInt_toInt32, Int32.toInt_toInt8]
    exact Int.bmod_bmod
  have hy : y.toInt = (y.toBitVec.toNat : Int) ∨ y.toInt = (y.toBitVec.toNat : Int) - 4294967296 := by
    have h1 : y.toInt = y.toBitVec.toInt := rfl
    rw [h1, BitVec.toInt_eq_toNat_cond]
    split
    · exact Or.inl rfl
    · exact Or.inr rfl
  have hb : y.toInt.bmod 256 = if y.toInt % 256 < 128 then y.toInt % 256 else y.toInt % 256 - 256 := by
    rw [Int.bmod_def]
    rfl
  unfold zT
  rw [hn, hc, hu, hb]
  split <;> omega
def w5X5_putOnTape : List Cond := .code yX5_putOnTape cX5_putOnTape 3 none :: ([.fieldLink RX5 36 "SkiShots" "tapeLength" "I", .fieldLink RX5 9 "SkiShots" "tape" "[B"] ++ wsX50)
set_option maxHeartbeats 4000000 in
set_option maxRecDepth 100000 in
theorem h5_X5_putOnTape (l : Launch) (D : va_G) (cA : Nat → ClassId) (ad av : Nat → Nat) (L : List Nat) (K : Nat → Nat) (I : Nat → Nat → Int32) (O : Nat → Nat → Option Nat) (sz : Nat) (x0 : Nat) (p0 : Int32) (hI : cI L K I O) (mx0 : x0 ∈ L) (kx0 : K x0 = 5) (tp : Nat) (htp : O x0 0 = some tp) : Met l yX5_putOnTape w5X5_putOnTape ({ frames := 0, cells := 0, slots := 0, locals := 0 }) (cPre D cA ad av L K I O sz [.ref x0, .int p0]) (cQv D cA L K I O sz [] [(5, 1), (10, 0)] [] (fun L' K' I' O' => (996 < (I x0 1).toInt ∨ ((I' x0 1).toInt = (I x0 1).toInt + 4 ∧ (∀ k : Nat, k < 4 → zT (I' tp ((I x0 1).toInt.toNat + k)).toInt (zby p0 k)) ∧ ∀ j : Nat, j < (I x0 1).toInt.toNat → I' tp j = I tp j)))) 0 0 (va_A (cW cA L K I O) sz) := by
  refine cr_met (own := RX5) (xs := []) (WI := [(5, 1), (10, 0)]) (WO := []) (cc := cX5_putOnTape) (maxL := 3) (ret := none) (by decide) rfl rfl (Nat.le_of_ble_eq_true rfl) hI ?_
  intro p e s m args below meth c ls E hV hml hr hlk hname hsz hA hM hl
  have hx := E.1
  have hb := E.2.1
  have hts := E.2.2.1
  have hown := E.2.2.2.1
  have hl : lv_has ls 3 [(0, .ref x0), (1, .int p0)] := hl
  have hin5 : ∀ w ∈ wsX50, w ∈ w5X5_putOnTape := by decide +kernel
  obtain ⟨mtp, ktp⟩ := hM.rt mx0 kx0 0 (κ' := 10) rfl htp
  refine lv_bipush (v := 24) hx hb dX5_putOnTape_0 (by decide) ?_
  refine lv_istore_n (lv' := [(2, .int 24), (0, .ref x0), (1, .int p0)]) hx hb dX5_putOnTape_2 rfl hl (by decide) rfl (fun ls hl => ?_)
  refine lv_iload_n hx hb dX5_putOnTape_3 rfl (lv_at hl 0 rfl) ?_
  refine mm_if_lt (X := 24) (tgt := 46) hx hb dX5_putOnTape_4 (by decide) num_24 (fun c_1 => False.elim (by omega)) (fun c_1 => ?_)
  refine lv_aload_n hx hb dX5_putOnTape_7 rfl (lv_at hl 1 rfl) ?_
  have b_2 : 0 ≤ (I x0 1).toInt ∧ (I x0 1).toInt ≤ 1000 := hM.ib mx0 kx0 1 rfl
  refine cr_get (κ := 5) (ci := 5) (k := 1) (C := RX5) (T := TX5) (N := 13) (fs := cfs 5) (v := .int (I x0 1)) E hM mx0 kx0 (fun _ _ => rfl) rfl hin5 (by decide) (index := 36) (mm_at 1 rfl) rfl rfl dX5_putOnTape_8 ?_
  refine lv_sipush (v := 1000) hx hb dX5_putOnTape_11 (by decide) ?_
  refine mm_icmp_ge (X := (I x0 1).toInt) (Y := 1000) (tgt := 46) hx hb dX5_putOnTape_14 (by decide) rfl num_1000 (fun c_3 => ?_) (fun c_3 => ?_)
  · exact cr_rv (mc := 0) (ms := 0) E hr hlk hsz hM ⟨show (0 : Nat) ≤ 0 from by omega, show (0 : Nat) ≤ 0 from by omega⟩ (show (996 < (I x0 1).toInt ∨ ((I x0 1).toInt = (I x0 1).toInt + 4 ∧ (∀ k : Nat, k < 4 → zT (I tp ((I x0 1).toInt.toNat + k)).toInt (zby p0 k)) ∧ ∀ j : Nat, j < (I x0 1).toInt.toNat → I tp j = I tp j)) from by exact Or.inl (by omega)) dX5_putOnTape_46
  · refine lv_aload_n hx hb dX5_putOnTape_17 rfl (lv_at hl 1 rfl) ?_
    refine cr_get (κ := 5) (ci := 5) (k := 0) (C := RX5) (T := TX5) (N := 13) (fs := cfs 5) (v := .ref tp) E hM mx0 kx0 (fun _ _ => rfl) rfl hin5 (by decide) (index := 9) (mm_at 2 rfl) rfl (by show some (va_rf (O x0 0)) = some (.ref tp); rw [htp]; rfl) dX5_putOnTape_18 ?_
    refine lv_aload_n hx hb dX5_putOnTape_21 rfl (lv_at hl 1 rfl) ?_
    refine cr_get (κ := 5) (ci := 5) (k := 1) (C := RX5) (T := TX5) (N := 13) (fs := cfs 5) (v := .int (I x0 1)) E hM mx0 kx0 (fun _ _ => rfl) rfl hin5 (by decide) (index := 36) (mm_at 1 rfl) rfl rfl dX5_putOnTape_22 ?_
    refine lv_iload_n hx hb dX5_putOnTape_25 rfl (lv_at hl 2 rfl) ?_
    refine lv_iload_n hx hb dX5_putOnTape_26 rfl (lv_at hl 0 rfl) ?_
    refine lv_ishr hx hb dX5_putOnTape_27 ?_
    refine lv_i2b hx hb dX5_putOnTape_28 rfl ?_
    refine cr_bast (κ := 10) (t0 := 0) (X := (I x0 1).toInt) E hM mtp ktp (fun _ _ => rfl) rfl rfl (by omega) (by decide) (fun _ => rfl) (Or.inr (Or.inr (fun _ => rfl))) dX5_putOnTape_29 (fun H locs I_4 eI_4 hM => ?_)
    have ta_5 : ∀ j : Nat, I_4 tp j = if j = Int32.toNatClampNeg (I x0 1) then vp_nar .byte ((p0 >>> ((24 : Int32) &&& 31)).toInt8.toInt32) else I tp j := fun j => by rw [eI_4, va_up_self]; rfl
    refine lv_aload_n hx hb dX5_putOnTape_30 rfl (lv_at hl 1 rfl) ?_
    refine lv_dup hx hb dX5_putOnTape_31 rfl ?_
    have b_6 : 0 ≤ (I_4 x0 1).toInt ∧ (I_4 x0 1).toInt ≤ 1000 := hM.ib mx0 kx0 1 rfl
    have e_7 : (I_4 x0 1).toInt = (I x0 1).toInt := congrArg (fun z => Int32.toInt (z 1)) (cu_a eI_4 (c_ne kx0 ktp (by decide)))
    refine cr_get (κ := 5) (ci := 5) (k := 1) (C := RX5) (T := TX5) (N := 13) (fs := cfs 5) (v := .int (I_4 x0 1)) E hM mx0 kx0 (fun _ _ => rfl) rfl hin5 (by decide) (index := 36) (mm_at 1 rfl) rfl rfl dX5_putOnTape_32 ?_
    refine lv_iconst (v := 1) hx hb dX5_putOnTape_35 (by decide) ?_
    refine mm_iadd (X := (I_4 x0 1).toInt) (Y := 1) hx hb dX5_putOnTape_36 rfl num_1 (by omega) (fun z_8 hz_8 => ?_)
    refine cr_puti (κ := 5) (ci := 5) (k := 1) (C := RX5) (T := TX5) (N := 13) (fs := cfs 5) (ty := .int) (v := z_8) E hM mx0 kx0 (fun _ _ => rfl) rfl hin5 tyX5 tyX5_ok nmX5 (by decide) (index := 36) (mm_at 1 rfl) rfl (Or.inl rfl) (by decide +kernel) rfl rfl (show (1 : Nat) < 13 from by decide) (fun _ _ _ => rfl) (cz_bd (X := z_8.toInt) (a := 0) (b := 1000) rfl rfl (by omega)) (cS_upd (hM.sp mx0 kx0) (by decide) (by decide)) (Or.inr (Or.inr rfl)) dX5_putOnTape_37 (fun H locs I_9 eI_9 hM => ?_)
    have tc_10 : ∀ j : Nat, I_9 tp j = I_4 tp j := fun j => congrFun (cu_a eI_9 (c_ne ktp kx0 (by decide))) j
    refine lv_iinc (v := 16) (lv' := [(2, .int 16), (0, .ref x0), (1, .int p0)]) hx hb dX5_putOnTape_40 hl (k := 0) rfl (by decide) (by decide) rfl (fun ls hl => ?_)
    refine lv_goto (tgt := 3) hx hb dX5_putOnTape_43 (by decide) ?_
    refine lv_iload_n hx hb dX5_putOnTape_3 rfl (lv_at hl 0 rfl) ?_
    refine mm_if_lt (X := 16) (tgt := 46) hx hb dX5_putOnTape_4 (by decide) num_16 (fun c_11 => False.elim (by omega)) (fun c_11 => ?_)
    refine lv_aload_n hx hb dX5_putOnTape_7 rfl (lv_at hl 1 rfl) ?_
    have b_12 : 0 ≤ (I_9 x0 1).toInt ∧ (I_9 x0 1).toInt ≤ 1000 := hM.ib mx0 kx0 1 rfl
    have e_13 : (I_9 x0 1).toInt = z_8.toInt := (congrArg Int32.toInt (cu_s eI_9)).trans rfl
    refine cr_get (κ := 5) (ci := 5) (k := 1) (C := RX5) (T := TX5) (N := 13) (fs := cfs 5) (v := .int (I_9 x0 1)) E hM mx0 kx0 (fun _ _ => rfl) rfl hin5 (by decide) (index := 36) (mm_at 1 rfl) rfl rfl dX5_putOnTape_8 ?_
    refine lv_sipush (v := 1000) hx hb dX5_putOnTape_11 (by decide) ?_
    refine mm_icmp_ge (X := (I_9 x0 1).toInt) (Y := 1000) (tgt := 46) hx hb dX5_putOnTape_14 (by decide) rfl num_1000 (fun c_14 => ?_) (fun c_14 => ?_)
    · exact cr_rv (mc := 0) (ms := 0) E hr hlk hsz hM ⟨show (0 : Nat) ≤ 0 from by omega, show (0 : Nat) ≤ 0 from by omega⟩ (show (996 < (I x0 1).toInt ∨ ((I_9 x0 1).toInt = (I x0 1).toInt + 4 ∧ (∀ k : Nat, k < 4 → zT (I_9 tp ((I x0 1).toInt.toNat + k)).toInt (zby p0 k)) ∧ ∀ j : Nat, j < (I x0 1).toInt.toNat → I_9 tp j = I tp j)) from by exact Or.inl (by omega)) dX5_putOnTape_46
    · refine lv_aload_n hx hb dX5_putOnTape_17 rfl (lv_at hl 1 rfl) ?_
      refine cr_get (κ := 5) (ci := 5) (k := 0) (C := RX5) (T := TX5) (N := 13) (fs := cfs 5) (v := .ref tp) E hM mx0 kx0 (fun _ _ => rfl) rfl hin5 (by decide) (index := 9) (mm_at 2 rfl) rfl (by show some (va_rf (O x0 0)) = some (.ref tp); rw [htp]; rfl) dX5_putOnTape_18 ?_
      refine lv_aload_n hx hb dX5_putOnTape_21 rfl (lv_at hl 1 rfl) ?_
      refine cr_get (κ := 5) (ci := 5) (k := 1) (C := RX5) (T := TX5) (N := 13) (fs := cfs 5) (v := .int (I_9 x0 1)) E hM mx0 kx0 (fun _ _ => rfl) rfl hin5 (by decide) (index := 36) (mm_at 1 rfl) rfl rfl dX5_putOnTape_22 ?_
      refine lv_iload_n hx hb dX5_putOnTape_25 rfl (lv_at hl 2 rfl) ?_
      refine lv_iload_n hx hb dX5_putOnTape_26 rfl (lv_at hl 0 rfl) ?_
      refine lv_ishr hx hb dX5_putOnTape_27 ?_
      refine lv_i2b hx hb dX5_putOnTape_28 rfl ?_
      refine cr_bast (κ := 10) (t0 := 0) (X := (I_9 x0 1).toInt) E hM mtp ktp (fun _ _ => rfl) rfl rfl (by omega) (by decide) (fun _ => rfl) (Or.inr (Or.inr (fun _ => rfl))) dX5_putOnTape_29 (fun H locs I_15 eI_15 hM => ?_)
      have ta_16 : ∀ j : Nat, I_15 tp j = if j = Int32.toNatClampNeg (I_9 x0 1) then vp_nar .byte ((p0 >>> ((16 : Int32) &&& 31)).toInt8.toInt32) else I_9 tp j := fun j => by rw [eI_15, va_up_self]; rfl
      refine lv_aload_n hx hb dX5_putOnTape_30 rfl (lv_at hl 1 rfl) ?_
      refine lv_dup hx hb dX5_putOnTape_31 rfl ?_
      have b_17 : 0 ≤ (I_15 x0 1).toInt ∧ (I_15 x0 1).toInt ≤ 1000 := hM.ib mx0 kx0 1 rfl
      have e_18 : (I_15 x0 1).toInt = (I_9 x0 1).toInt := congrArg (fun z => Int32.toInt (z 1)) (cu_a eI_15 (c_ne kx0 ktp (by decide)))
      refine cr_get (κ := 5) (ci := 5) (k := 1) (C := RX5) (T := TX5) (N := 13) (fs := cfs 5) (v := .int (I_15 x0 1)) E hM mx0 kx0 (fun _ _ => rfl) rfl hin5 (by decide) (index := 36) (mm_at 1 rfl) rfl rfl dX5_putOnTape_32 ?_
      refine lv_iconst (v := 1) hx hb dX5_putOnTape_35 (by decide) ?_
      refine mm_iadd (X := (I_15 x0 1).toInt) (Y := 1) hx hb dX5_putOnTape_36 rfl num_1 (by omega) (fun z_19 hz_19 => ?_)
      refine cr_puti (κ := 5) (ci := 5) (k := 1) (C := RX5) (T := TX5) (N := 13) (fs := cfs 5) (ty := .int) (v := z_19) E hM mx0 kx0 (fun _ _ => rfl) rfl hin5 tyX5 tyX5_ok nmX5 (by decide) (index := 36) (mm_at 1 rfl) rfl (Or.inl rfl) (by decide +kernel) rfl rfl (show (1 : Nat) < 13 from by decide) (fun _ _ _ => rfl) (cz_bd (X := z_19.toInt) (a := 0) (b := 1000) rfl rfl (by omega)) (cS_upd (hM.sp mx0 kx0) (by decide) (by decide)) (Or.inr (Or.inr rfl)) dX5_putOnTape_37 (fun H locs I_20 eI_20 hM => ?_)
      have tc_21 : ∀ j : Nat, I_20 tp j = I_15 tp j := fun j => congrFun (cu_a eI_20 (c_ne ktp kx0 (by decide))) j
      refine lv_iinc (v := 8) (lv' := [(2, .int 8), (0, .ref x0), (1, .int p0)]) hx hb dX5_putOnTape_40 hl (k := 0) rfl (by decide) (by decide) rfl (fun ls hl => ?_)
      refine lv_goto (tgt := 3) hx hb dX5_putOnTape_43 (by decide) ?_
      refine lv_iload_n hx hb dX5_putOnTape_3 rfl (lv_at hl 0 rfl) ?_
      refine mm_if_lt (X := 8) (tgt := 46) hx hb dX5_putOnTape_4 (by decide) num_8 (fun c_22 => False.elim (by omega)) (fun c_22 => ?_)
      refine lv_aload_n hx hb dX5_putOnTape_7 rfl (lv_at hl 1 rfl) ?_
      have b_23 : 0 ≤ (I_20 x0 1).toInt ∧ (I_20 x0 1).toInt ≤ 1000 := hM.ib mx0 kx0 1 rfl
      have e_24 : (I_20 x0 1).toInt = z_19.toInt := (congrArg Int32.toInt (cu_s eI_20)).trans rfl
      refine cr_get (κ := 5) (ci := 5) (k := 1) (C := RX5) (T := TX5) (N := 13) (fs := cfs 5) (v := .int (I_20 x0 1)) E hM mx0 kx0 (fun _ _ => rfl) rfl hin5 (by decide) (index := 36) (mm_at 1 rfl) rfl rfl dX5_putOnTape_8 ?_
      refine lv_sipush (v := 1000) hx hb dX5_putOnTape_11 (by decide) ?_
      refine mm_icmp_ge (X := (I_20 x0 1).toInt) (Y := 1000) (tgt := 46) hx hb dX5_putOnTape_14 (by decide) rfl num_1000 (fun c_25 => ?_) (fun c_25 => ?_)
      · exact cr_rv (mc := 0) (ms := 0) E hr hlk hsz hM ⟨show (0 : Nat) ≤ 0 from by omega, show (0 : Nat) ≤ 0 from by omega⟩ (show (996 < (I x0 1).toInt ∨ ((I_20 x0 1).toInt = (I x0 1).toInt + 4 ∧ (∀ k : Nat, k < 4 → zT (I_20 tp ((I x0 1).toInt.toNat + k)).toInt (zby p0 k)) ∧ ∀ j : Nat, j < (I x0 1).toInt.toNat → I_20 tp j = I tp j)) from by exact Or.inl (by omega)) dX5_putOnTape_46
      · refine lv_aload_n hx hb dX5_putOnTape_17 rfl (lv_at hl 1 rfl) ?_
        refine cr_get (κ := 5) (ci := 5) (k := 0) (C := RX5) (T := TX5) (N := 13) (fs := cfs 5) (v := .ref tp) E hM mx0 kx0 (fun _ _ => rfl) rfl hin5 (by decide) (index := 9) (mm_at 2 rfl) rfl (by show some (va_rf (O x0 0)) = some (.ref tp); rw [htp]; rfl) dX5_putOnTape_18 ?_
        refine lv_aload_n hx hb dX5_putOnTape_21 rfl (lv_at hl 1 rfl) ?_
        refine cr_get (κ := 5) (ci := 5) (k := 1) (C := RX5) (T := TX5) (N := 13) (fs := cfs 5) (v := .int (I_20 x0 1)) E hM mx0 kx0 (fun _ _ => rfl) rfl hin5 (by decide) (index := 36) (mm_at 1 rfl) rfl rfl dX5_putOnTape_22 ?_
        refine lv_iload_n hx hb dX5_putOnTape_25 rfl (lv_at hl 2 rfl) ?_
        refine lv_iload_n hx hb dX5_putOnTape_26 rfl (lv_at hl 0 rfl) ?_
        refine lv_ishr hx hb dX5_putOnTape_27 ?_
        refine lv_i2b hx hb dX5_putOnTape_28 rfl ?_
        refine cr_bast (κ := 10) (t0 := 0) (X := (I_20 x0 1).toInt) E hM mtp ktp (fun _ _ => rfl) rfl rfl (by omega) (by decide) (fun _ => rfl) (Or.inr (Or.inr (fun _ => rfl))) dX5_putOnTape_29 (fun H locs I_26 eI_26 hM => ?_)
        have ta_27 : ∀ j : Nat, I_26 tp j = if j = Int32.toNatClampNeg (I_20 x0 1) then vp_nar .byte ((p0 >>> ((8 : Int32) &&& 31)).toInt8.toInt32) else I_20 tp j := fun j => by rw [eI_26, va_up_self]; rfl
        refine lv_aload_n hx hb dX5_putOnTape_30 rfl (lv_at hl 1 rfl) ?_
        refine lv_dup hx hb dX5_putOnTape_31 rfl ?_
        have b_28 : 0 ≤ (I_26 x0 1).toInt ∧ (I_26 x0 1).toInt ≤ 1000 := hM.ib mx0 kx0 1 rfl
        have e_29 : (I_26 x0 1).toInt = (I_20 x0 1).toInt := congrArg (fun z => Int32.toInt (z 1)) (cu_a eI_26 (c_ne kx0 ktp (by decide)))
        refine cr_get (κ := 5) (ci := 5) (k := 1) (C := RX5) (T := TX5) (N := 13) (fs := cfs 5) (v := .int (I_26 x0 1)) E hM mx0 kx0 (fun _ _ => rfl) rfl hin5 (by decide) (index := 36) (mm_at 1 rfl) rfl rfl dX5_putOnTape_32 ?_
        refine lv_iconst (v := 1) hx hb dX5_putOnTape_35 (by decide) ?_
        refine mm_iadd (X := (I_26 x0 1).toInt) (Y := 1) hx hb dX5_putOnTape_36 rfl num_1 (by omega) (fun z_30 hz_30 => ?_)
        refine cr_puti (κ := 5) (ci := 5) (k := 1) (C := RX5) (T := TX5) (N := 13) (fs := cfs 5) (ty := .int) (v := z_30) E hM mx0 kx0 (fun _ _ => rfl) rfl hin5 tyX5 tyX5_ok nmX5 (by decide) (index := 36) (mm_at 1 rfl) rfl (Or.inl rfl) (by decide +kernel) rfl rfl (show (1 : Nat) < 13 from by decide) (fun _ _ _ => rfl) (cz_bd (X := z_30.toInt) (a := 0) (b := 1000) rfl rfl (by omega)) (cS_upd (hM.sp mx0 kx0) (by decide) (by decide)) (Or.inr (Or.inr rfl)) dX5_putOnTape_37 (fun H locs I_31 eI_31 hM => ?_)
        have tc_32 : ∀ j : Nat, I_31 tp j = I_26 tp j := fun j => congrFun (cu_a eI_31 (c_ne ktp kx0 (by decide))) j
        refine lv_iinc (v := 0) (lv' := [(2, .int 0), (0, .ref x0), (1, .int p0)]) hx hb dX5_putOnTape_40 hl (k := 0) rfl (by decide) (by decide) rfl (fun ls hl => ?_)
        refine lv_goto (tgt := 3) hx hb dX5_putOnTape_43 (by decide) ?_
        refine lv_iload_n hx hb dX5_putOnTape_3 rfl (lv_at hl 0 rfl) ?_
        refine mm_if_lt (X := 0) (tgt := 46) hx hb dX5_putOnTape_4 (by decide) num_0 (fun c_33 => False.elim (by omega)) (fun c_33 => ?_)
        refine lv_aload_n hx hb dX5_putOnTape_7 rfl (lv_at hl 1 rfl) ?_
        have b_34 : 0 ≤ (I_31 x0 1).toInt ∧ (I_31 x0 1).toInt ≤ 1000 := hM.ib mx0 kx0 1 rfl
        have e_35 : (I_31 x0 1).toInt = z_30.toInt := (congrArg Int32.toInt (cu_s eI_31)).trans rfl
        refine cr_get (κ := 5) (ci := 5) (k := 1) (C := RX5) (T := TX5) (N := 13) (fs := cfs 5) (v := .int (I_31 x0 1)) E hM mx0 kx0 (fun _ _ => rfl) rfl hin5 (by decide) (index := 36) (mm_at 1 rfl) rfl rfl dX5_putOnTape_8 ?_
        refine lv_sipush (v := 1000) hx hb dX5_putOnTape_11 (by decide) ?_
        refine mm_icmp_ge (X := (I_31 x0 1).toInt) (Y := 1000) (tgt := 46) hx hb dX5_putOnTape_14 (by decide) rfl num_1000 (fun c_36 => ?_) (fun c_36 => ?_)
        · exact cr_rv (mc := 0) (ms := 0) E hr hlk hsz hM ⟨show (0 : Nat) ≤ 0 from by omega, show (0 : Nat) ≤ 0 from by omega⟩ (show (996 < (I x0 1).toInt ∨ ((I_31 x0 1).toInt = (I x0 1).toInt + 4 ∧ (∀ k : Nat, k < 4 → zT (I_31 tp ((I x0 1).toInt.toNat + k)).toInt (zby p0 k)) ∧ ∀ j : Nat, j < (I x0 1).toInt.toNat → I_31 tp j = I tp j)) from by exact Or.inl (by omega)) dX5_putOnTape_46
        · refine lv_aload_n hx hb dX5_putOnTape_17 rfl (lv_at hl 1 rfl) ?_
          refine cr_get (κ := 5) (ci := 5) (k := 0) (C := RX5) (T := TX5) (N := 13) (fs := cfs 5) (v := .ref tp) E hM mx0 kx0 (fun _ _ => rfl) rfl hin5 (by decide) (index := 9) (mm_at 2 rfl) rfl (by show some (va_rf (O x0 0)) = some (.ref tp); rw [htp]; rfl) dX5_putOnTape_18 ?_
          refine lv_aload_n hx hb dX5_putOnTape_21 rfl (lv_at hl 1 rfl) ?_
          refine cr_get (κ := 5) (ci := 5) (k := 1) (C := RX5) (T := TX5) (N := 13) (fs := cfs 5) (v := .int (I_31 x0 1)) E hM mx0 kx0 (fun _ _ => rfl) rfl hin5 (by decide) (index := 36) (mm_at 1 rfl) rfl rfl dX5_putOnTape_22 ?_
          refine lv_iload_n hx hb dX5_putOnTape_25 rfl (lv_at hl 2 rfl) ?_
          refine lv_iload_n hx hb dX5_putOnTape_26 rfl (lv_at hl 0 rfl) ?_
          refine lv_ishr hx hb dX5_putOnTape_27 ?_
          refine lv_i2b hx hb dX5_putOnTape_28 rfl ?_
          refine cr_bast (κ := 10) (t0 := 0) (X := (I_31 x0 1).toInt) E hM mtp ktp (fun _ _ => rfl) rfl rfl (by omega) (by decide) (fun _ => rfl) (Or.inr (Or.inr (fun _ => rfl))) dX5_putOnTape_29 (fun H locs I_37 eI_37 hM => ?_)
          have ta_38 : ∀ j : Nat, I_37 tp j = if j = Int32.toNatClampNeg (I_31 x0 1) then vp_nar .byte ((p0 >>> ((0 : Int32) &&& 31)).toInt8.toInt32) else I_31 tp j := fun j => by rw [eI_37, va_up_self]; rfl
          refine lv_aload_n hx hb dX5_putOnTape_30 rfl (lv_at hl 1 rfl) ?_
          refine lv_dup hx hb dX5_putOnTape_31 rfl ?_
          have b_39 : 0 ≤ (I_37 x0 1).toInt ∧ (I_37 x0 1).toInt ≤ 1000 := hM.ib mx0 kx0 1 rfl
          have e_40 : (I_37 x0 1).toInt = (I_31 x0 1).toInt := congrArg (fun z => Int32.toInt (z 1)) (cu_a eI_37 (c_ne kx0 ktp (by decide)))
          refine cr_get (κ := 5) (ci := 5) (k := 1) (C := RX5) (T := TX5) (N := 13) (fs := cfs 5) (v := .int (I_37 x0 1)) E hM mx0 kx0 (fun _ _ => rfl) rfl hin5 (by decide) (index := 36) (mm_at 1 rfl) rfl rfl dX5_putOnTape_32 ?_
          refine lv_iconst (v := 1) hx hb dX5_putOnTape_35 (by decide) ?_
          refine mm_iadd (X := (I_37 x0 1).toInt) (Y := 1) hx hb dX5_putOnTape_36 rfl num_1 (by omega) (fun z_41 hz_41 => ?_)
          refine cr_puti (κ := 5) (ci := 5) (k := 1) (C := RX5) (T := TX5) (N := 13) (fs := cfs 5) (ty := .int) (v := z_41) E hM mx0 kx0 (fun _ _ => rfl) rfl hin5 tyX5 tyX5_ok nmX5 (by decide) (index := 36) (mm_at 1 rfl) rfl (Or.inl rfl) (by decide +kernel) rfl rfl (show (1 : Nat) < 13 from by decide) (fun _ _ _ => rfl) (cz_bd (X := z_41.toInt) (a := 0) (b := 1000) rfl rfl (by omega)) (cS_upd (hM.sp mx0 kx0) (by decide) (by decide)) (Or.inr (Or.inr rfl)) dX5_putOnTape_37 (fun H locs I_42 eI_42 hM => ?_)
          have tc_43 : ∀ j : Nat, I_42 tp j = I_37 tp j := fun j => congrFun (cu_a eI_42 (c_ne ktp kx0 (by decide))) j
          refine lv_iinc (v := (-8)) (lv' := [(2, .int (-8)), (0, .ref x0), (1, .int p0)]) hx hb dX5_putOnTape_40 hl (k := 0) rfl (by decide) (by decide) rfl (fun ls hl => ?_)
          refine lv_goto (tgt := 3) hx hb dX5_putOnTape_43 (by decide) ?_
          refine lv_iload_n hx hb dX5_putOnTape_3 rfl (lv_at hl 0 rfl) ?_
          refine mm_if_lt (X := (-8)) (tgt := 46) hx hb dX5_putOnTape_4 (by decide) num_m8 (fun c_44 => ?_) (fun c_44 => False.elim (by omega))
          have b_45 : 0 ≤ (I_42 x0 1).toInt ∧ (I_42 x0 1).toInt ≤ 1000 := hM.ib mx0 kx0 1 rfl
          have e_46 : (I_42 x0 1).toInt = z_41.toInt := (congrArg Int32.toInt (cu_s eI_42)).trans rfl
          exact cr_rv (mc := 0) (ms := 0) E hr hlk hsz hM ⟨show (0 : Nat) ≤ 0 from by omega, show (0 : Nat) ≤ 0 from by omega⟩ (show (996 < (I x0 1).toInt ∨ ((I_42 x0 1).toInt = (I x0 1).toInt + 4 ∧ (∀ k : Nat, k < 4 → zT (I_42 tp ((I x0 1).toInt.toNat + k)).toInt (zby p0 k)) ∧ ∀ j : Nat, j < (I x0 1).toInt.toNat → I_42 tp j = I tp j)) from by exact Or.inr ⟨by omega, fun k hk => (match k, hk with | 0, _ => (show zT (I_42 tp ((I x0 1).toInt.toNat + 0)).toInt (zby p0 0) from by rw [tc_43]; rw [ta_38, if_neg (by simp only [mm_nat]; omega)]; rw [tc_32]; rw [ta_27, if_neg (by simp only [mm_nat]; omega)]; rw [tc_21]; rw [ta_16, if_neg (by simp only [mm_nat]; omega)]; rw [tc_10]; rw [ta_5, if_pos (by simp only [mm_nat]; omega)]; exact zT_b _) | 1, _ => (show zT (I_42 tp ((I x0 1).toInt.toNat + 1)).toInt (zby p0 1) from by rw [tc_43]; rw [ta_38, if_neg (by simp only [mm_nat]; omega)]; rw [tc_32]; rw [ta_27, if_neg (by simp only [mm_nat]; omega)]; rw [tc_21]; rw [ta_16, if_pos (by simp only [mm_nat]; omega)]; exact zT_b _) | 2, _ => (show zT (I_42 tp ((I x0 1).toInt.toNat + 2)).toInt (zby p0 2) from by rw [tc_43]; rw [ta_38, if_neg (by simp only [mm_nat]; omega)]; rw [tc_32]; rw [ta_27, if_pos (by simp only [mm_nat]; omega)]; exact zT_b _) | 3, _ => (show zT (I_42 tp ((I x0 1).toInt.toNat + 3)).toInt (zby p0 3) from by rw [tc_43]; rw [ta_38, if_pos (by simp only [mm_nat]; omega)]; exact zT_b _) | k + 4, h => absurd h (by omega)), fun j hj => by rw [tc_43]; rw [ta_38, if_neg (by simp only [mm_nat]; omega)]; rw [tc_32]; rw [ta_27, if_neg (by simp only [mm_nat]; omega)]; rw [tc_21]; rw [ta_16, if_neg (by simp only [mm_nat]; omega)]; rw [tc_10]; rw [ta_5, if_neg (by simp only [mm_nat]; omega)]⟩) dX5_putOnTape_46
def w5X5_feed : List Cond := .code yX5_feed cX5_feed 6 (some .int) :: ([.fieldLink RX5 36 "SkiShots" "tapeLength" "I", .methodLink RX5 39 yX5_putOnTape, .instanceMethod yX5_putOnTape, .selects RX5 yX5_putOnTape yX5_putOnTape, .initialized RX5, .code yX5_putOnTape cX5_putOnTape 3 none, .fieldLink RX5 9 "SkiShots" "tape" "[B"] ++ wsX50)
set_option maxRecDepth 20000 in
theorem gz_X5_feed_X5_putOnTape_4 : GoodIn w5X5_feed (wsV RX5 39 RX5 yX5_putOnTape w5X5_putOnTape) := goodIn_p _ [6] rfl (by decide +kernel)
set_option maxRecDepth 20000 in
theorem gz_X5_feed_X5_putOnTape_11 : GoodIn w5X5_feed (wsV RX5 39 RX5 yX5_putOnTape w5X5_putOnTape) := goodIn_p _ [6] rfl (by decide +kernel)
set_option maxRecDepth 20000 in
theorem gz_X5_feed_X5_putOnTape_20 : GoodIn w5X5_feed (wsV RX5 39 RX5 yX5_putOnTape w5X5_putOnTape) := goodIn_p _ [6] rfl (by decide +kernel)
set_option maxRecDepth 20000 in
theorem gz_X5_feed_X5_putOnTape_29 : GoodIn w5X5_feed (wsV RX5 39 RX5 yX5_putOnTape w5X5_putOnTape) := goodIn_p _ [6] rfl (by decide +kernel)
set_option maxRecDepth 20000 in
theorem gz_X5_feed_X5_putOnTape_38 : GoodIn w5X5_feed (wsV RX5 39 RX5 yX5_putOnTape w5X5_putOnTape) := goodIn_p _ [6] rfl (by decide +kernel)
set_option maxHeartbeats 4000000 in
set_option maxRecDepth 100000 in
theorem h5_X5_feed (l : Launch) (D : va_G) (cA : Nat → ClassId) (ad av : Nat → Nat) (L : List Nat) (K : Nat → Nat) (I : Nat → Nat → Int32) (O : Nat → Nat → Option Nat) (sz : Nat) (x0 : Nat) (p0 : Int32) (p1 : Int32) (p2 : Int32) (p3 : Int32) (p4 : Int32) (hI : cI L K I O) (mx0 : x0 ∈ L) (kx0 : K x0 = 5) (tp : Nat) (htp : O x0 0 = some tp) : Met l yX5_feed w5X5_feed ({ frames := 1, cells := 0, slots := 0, locals := 22 }) (cPre D cA ad av L K I O sz [.ref x0, .int p0, .int p1, .int p2, .int p3, .int p4]) (cQi D cA L K I O sz [] [(5, 1), (10, 0)] [] (fun r L' K' I' O' => ((I x0 1).toInt ≤ 980 ∧ r.toInt = (I x0 1).toInt + 20 ∧ (I' x0 1).toInt = (I x0 1).toInt + 20 ∧ (∀ k : Nat, k < 20 → zT (I' tp ((I x0 1).toInt.toNat + k)).toInt (zby5 p0 p1 p2 p3 p4 k)) ∧ ∀ j : Nat, j < (I x0 1).toInt.toNat → I' tp j = I tp j) ∨ (980 < (I x0 1).toInt ∧ r.toInt = -1 ∧ (I' x0 1).toInt = (I x0 1).toInt ∧ ∀ j : Nat, I' tp j = I tp j))) 0 0 (va_A (cW cA L K I O) sz) := by
  refine cr_met (own := RX5) (xs := []) (WI := [(5, 1), (10, 0)]) (WO := []) (cc := cX5_feed) (maxL := 6) (ret := (some .int)) (by decide) rfl rfl (Nat.le_of_ble_eq_true rfl) hI ?_
  intro p e s m args below meth c ls E hV hml hr hlk hname hsz hA hM hl
  have hx := E.1
  have hb := E.2.1
  have hts := E.2.2.1
  have hown := E.2.2.2.1
  have hl : lv_has ls 6 [(0, .ref x0), (1, .int p0), (2, .int p1), (3, .int p2), (4, .int p3), (5, .int p4)] := hl
  have hin5 : ∀ w ∈ wsX50, w ∈ w5X5_feed := by decide +kernel
  obtain ⟨mtp, ktp⟩ := hM.rt mx0 kx0 0 (κ' := 10) rfl htp
  refine lv_aload_n hx hb dX5_feed_0 rfl (lv_at hl 0 rfl) ?_
  have b_1 : 0 ≤ (I x0 1).toInt ∧ (I x0 1).toInt ≤ 1000 := hM.ib mx0 kx0 1 rfl
  refine cr_get (κ := 5) (ci := 5) (k := 1) (C := RX5) (T := TX5) (N := 13) (fs := cfs 5) (v := .int (I x0 1)) E hM mx0 kx0 (fun _ _ => rfl) rfl hin5 (by decide) (index := 36) (mm_at 1 rfl) rfl rfl dX5_feed_1 ?_
  refine lv_bipush (v := 20) hx hb dX5_feed_4 (by decide) ?_
  refine mm_iadd (X := (I x0 1).toInt) (Y := 20) hx hb dX5_feed_6 rfl num_20 (by omega) (fun z_2 hz_2 => ?_)
  refine lv_sipush (v := 1000) hx hb dX5_feed_7 (by decide) ?_
  refine mm_icmp_le (X := z_2.toInt) (Y := 1000) (tgt := 15) hx hb dX5_feed_10 (by decide) rfl num_1000 (fun c_3 => ?_) (fun c_3 => ?_)
  · refine lv_aload_n hx hb dX5_feed_15 rfl (lv_at hl 0 rfl) ?_
    refine lv_iload_n hx hb dX5_feed_16 rfl (lv_at hl 1 rfl) ?_
    refine cc_Vv (vs := [.int p0]) (rest := []) (b := x0) (κ := 5) E hV rfl hA hml hM mx0 kx0 rfl rfl (h5_X5_putOnTape l D cA ad av L K I O _ x0 p0 hM.2.2.2.1 mx0 kx0 tp htp) (cwV 1 hts gz_X5_feed_X5_putOnTape_4 rfl rfl rfl (by decide +kernel) ⟨Nat.le_of_ble_eq_true rfl, Nat.le_of_ble_eq_true rfl⟩) rfl hl.1 rfl (Nat.le_of_ble_eq_true rfl) dX5_feed_17 ⟨show (0 + 0 : Nat) ≤ 0 from by omega, show (0 + 0 : Nat) ≤ 0 from by omega⟩ (fun _ h => by cases h) (by decide) (by decide) (fun L_7 K_7 I_7 O_7 H locs fr_7 p_6 hM => ?_)
    have m_8 := (fr_7 x0 mx0 (fun z => by cases z)).1
    have k_8 : K_7 x0 = 5 := (fr_7 x0 mx0 (fun z => by cases z)).2.1.trans kx0
    have m_9 := (fr_7 tp mtp (fun z => by cases z)).1
    have k_9 : K_7 tp = 10 := (fr_7 tp mtp (fun z => by cases z)).2.1.trans ktp
    replace p_6 : (996 < (I x0 1).toInt ∨ ((I_7 x0 1).toInt = (I x0 1).toInt + 4 ∧ (∀ k : Nat, k < 4 → zT (I_7 tp ((I x0 1).toInt.toNat + k)).toInt (zby p0 k)) ∧ ∀ j : Nat, j < (I x0 1).toInt.toNat → I_7 tp j = I tp j)) := p_6
    rcases p_6 with hlt_10 | ⟨hl_10, hb_10, hk_10⟩
    · exact False.elim (by omega)
    · refine lv_aload_n hx hb dX5_feed_20 rfl (lv_at hl 0 rfl) ?_
      refine lv_iload_n hx hb dX5_feed_21 rfl (lv_at hl 2 rfl) ?_
      have o_12 : O_7 x0 0 = some tp := ((fr_7 x0 mx0 (fun z => by cases z)).2.2.2 0 (by rw [kx0]; rfl)).trans htp
      have b_13 : 0 ≤ (I_7 x0 1).toInt ∧ (I_7 x0 1).toInt ≤ 1000 := hM.ib m_8 k_8 1 rfl
      refine cc_Vv (vs := [.int p1]) (rest := []) (b := x0) (κ := 5) E hV rfl hA hml hM m_8 k_8 rfl rfl (h5_X5_putOnTape l D cA ad av L_7 K_7 I_7 O_7 _ x0 p1 hM.2.2.2.1 m_8 k_8 tp o_12) (cwV 1 hts gz_X5_feed_X5_putOnTape_11 rfl rfl rfl (by decide +kernel) ⟨Nat.le_of_ble_eq_true rfl, Nat.le_of_ble_eq_true rfl⟩) rfl hl.1 rfl (Nat.le_of_ble_eq_true rfl) dX5_feed_22 ⟨show (0 + 0 : Nat) ≤ 0 from by omega, show (0 + 0 : Nat) ≤ 0 from by omega⟩ (fun _ h => by cases h) (by decide) (by decide) (fun L_16 K_16 I_16 O_16 H locs fr_16 p_15 hM => ?_)
      have m_17 := (fr_16 x0 m_8 (fun z => by cases z)).1
      have k_17 : K_16 x0 = 5 := (fr_16 x0 m_8 (fun z => by cases z)).2.1.trans k_8
      have m_18 := (fr_16 tp m_9 (fun z => by cases z)).1
      have k_18 : K_16 tp = 10 := (fr_16 tp m_9 (fun z => by cases z)).2.1.trans k_9
      replace p_15 : (996 < (I_7 x0 1).toInt ∨ ((I_16 x0 1).toInt = (I_7 x0 1).toInt + 4 ∧ (∀ k : Nat, k < 4 → zT (I_16 tp ((I_7 x0 1).toInt.toNat + k)).toInt (zby p1 k)) ∧ ∀ j : Nat, j < (I_7 x0 1).toInt.toNat → I_16 tp j = I_7 tp j)) := p_15
      rcases p_15 with hlt_19 | ⟨hl_19, hb_19, hk_19⟩
      · exact False.elim (by omega)
      · refine lv_aload_n hx hb dX5_feed_25 rfl (lv_at hl 0 rfl) ?_
        refine lv_iload_n hx hb dX5_feed_26 rfl (lv_at hl 3 rfl) ?_
        have o_21 : O_16 x0 0 = some tp := ((fr_16 x0 m_8 (fun z => by cases z)).2.2.2 0 (by rw [k_8]; rfl)).trans o_12
        have b_22 : 0 ≤ (I_16 x0 1).toInt ∧ (I_16 x0 1).toInt ≤ 1000 := hM.ib m_17 k_17 1 rfl
        refine cc_Vv (vs := [.int p2]) (rest := []) (b := x0) (κ := 5) E hV rfl hA hml hM m_17 k_17 rfl rfl (h5_X5_putOnTape l D cA ad av L_16 K_16 I_16 O_16 _ x0 p2 hM.2.2.2.1 m_17 k_17 tp o_21) (cwV 1 hts gz_X5_feed_X5_putOnTape_20 rfl rfl rfl (by decide +kernel) ⟨Nat.le_of_ble_eq_true rfl, Nat.le_of_ble_eq_true rfl⟩) rfl hl.1 rfl (Nat.le_of_ble_eq_true rfl) dX5_feed_27 ⟨show (0 + 0 : Nat) ≤ 0 from by omega, show (0 + 0 : Nat) ≤ 0 from by omega⟩ (fun _ h => by cases h) (by decide) (by decide) (fun L_25 K_25 I_25 O_25 H locs fr_25 p_24 hM => ?_)
        have m_26 := (fr_25 x0 m_17 (fun z => by cases z)).1
        have k_26 : K_25 x0 = 5 := (fr_25 x0 m_17 (fun z => by cases z)).2.1.trans k_17
        have m_27 := (fr_25 tp m_18 (fun z => by cases z)).1
        have k_27 : K_25 tp = 10 := (fr_25 tp m_18 (fun z => by cases z)).2.1.trans k_18
        replace p_24 : (996 < (I_16 x0 1).toInt ∨ ((I_25 x0 1).toInt = (I_16 x0 1).toInt + 4 ∧ (∀ k : Nat, k < 4 → zT (I_25 tp ((I_16 x0 1).toInt.toNat + k)).toInt (zby p2 k)) ∧ ∀ j : Nat, j < (I_16 x0 1).toInt.toNat → I_25 tp j = I_16 tp j)) := p_24
        rcases p_24 with hlt_28 | ⟨hl_28, hb_28, hk_28⟩
        · exact False.elim (by omega)
        · refine lv_aload_n hx hb dX5_feed_30 rfl (lv_at hl 0 rfl) ?_
          refine lv_iload hx hb dX5_feed_31 (lv_at hl 4 rfl) ?_
          have o_30 : O_25 x0 0 = some tp := ((fr_25 x0 m_17 (fun z => by cases z)).2.2.2 0 (by rw [k_17]; rfl)).trans o_21
          have b_31 : 0 ≤ (I_25 x0 1).toInt ∧ (I_25 x0 1).toInt ≤ 1000 := hM.ib m_26 k_26 1 rfl
          refine cc_Vv (vs := [.int p3]) (rest := []) (b := x0) (κ := 5) E hV rfl hA hml hM m_26 k_26 rfl rfl (h5_X5_putOnTape l D cA ad av L_25 K_25 I_25 O_25 _ x0 p3 hM.2.2.2.1 m_26 k_26 tp o_30) (cwV 1 hts gz_X5_feed_X5_putOnTape_29 rfl rfl rfl (by decide +kernel) ⟨Nat.le_of_ble_eq_true rfl, Nat.le_of_ble_eq_true rfl⟩) rfl hl.1 rfl (Nat.le_of_ble_eq_true rfl) dX5_feed_33 ⟨show (0 + 0 : Nat) ≤ 0 from by omega, show (0 + 0 : Nat) ≤ 0 from by omega⟩ (fun _ h => by cases h) (by decide) (by decide) (fun L_34 K_34 I_34 O_34 H locs fr_34 p_33 hM => ?_)
          have m_35 := (fr_34 x0 m_26 (fun z => by cases z)).1
          have k_35 : K_34 x0 = 5 := (fr_34 x0 m_26 (fun z => by cases z)).2.1.trans k_26
          have m_36 := (fr_34 tp m_27 (fun z => by cases z)).1
          have k_36 : K_34 tp = 10 := (fr_34 tp m_27 (fun z => by cases z)).2.1.trans k_27
          replace p_33 : (996 < (I_25 x0 1).toInt ∨ ((I_34 x0 1).toInt = (I_25 x0 1).toInt + 4 ∧ (∀ k : Nat, k < 4 → zT (I_34 tp ((I_25 x0 1).toInt.toNat + k)).toInt (zby p3 k)) ∧ ∀ j : Nat, j < (I_25 x0 1).toInt.toNat → I_34 tp j = I_25 tp j)) := p_33
          rcases p_33 with hlt_37 | ⟨hl_37, hb_37, hk_37⟩
          · exact False.elim (by omega)
          · refine lv_aload_n hx hb dX5_feed_36 rfl (lv_at hl 0 rfl) ?_
            refine lv_iload hx hb dX5_feed_37 (lv_at hl 5 rfl) ?_
            have o_39 : O_34 x0 0 = some tp := ((fr_34 x0 m_26 (fun z => by cases z)).2.2.2 0 (by rw [k_26]; rfl)).trans o_30
            have b_40 : 0 ≤ (I_34 x0 1).toInt ∧ (I_34 x0 1).toInt ≤ 1000 := hM.ib m_35 k_35 1 rfl
            refine cc_Vv (vs := [.int p4]) (rest := []) (b := x0) (κ := 5) E hV rfl hA hml hM m_35 k_35 rfl rfl (h5_X5_putOnTape l D cA ad av L_34 K_34 I_34 O_34 _ x0 p4 hM.2.2.2.1 m_35 k_35 tp o_39) (cwV 1 hts gz_X5_feed_X5_putOnTape_38 rfl rfl rfl (by decide +kernel) ⟨Nat.le_of_ble_eq_true rfl, Nat.le_of_ble_eq_true rfl⟩) rfl hl.1 rfl (Nat.le_of_ble_eq_true rfl) dX5_feed_39 ⟨show (0 + 0 : Nat) ≤ 0 from by omega, show (0 + 0 : Nat) ≤ 0 from by omega⟩ (fun _ h => by cases h) (by decide) (by decide) (fun L_43 K_43 I_43 O_43 H locs fr_43 p_42 hM => ?_)
            have m_44 := (fr_43 x0 m_35 (fun z => by cases z)).1
            have k_44 : K_43 x0 = 5 := (fr_43 x0 m_35 (fun z => by cases z)).2.1.trans k_35
            have m_45 := (fr_43 tp m_36 (fun z => by cases z)).1
            have k_45 : K_43 tp = 10 := (fr_43 tp m_36 (fun z => by cases z)).2.1.trans k_36
            replace p_42 : (996 < (I_34 x0 1).toInt ∨ ((I_43 x0 1).toInt = (I_34 x0 1).toInt + 4 ∧ (∀ k : Nat, k < 4 → zT (I_43 tp ((I_34 x0 1).toInt.toNat + k)).toInt (zby p4 k)) ∧ ∀ j : Nat, j < (I_34 x0 1).toInt.toNat → I_43 tp j = I_34 tp j)) := p_42
            rcases p_42 with hlt_46 | ⟨hl_46, hb_46, hk_46⟩
            · exact False.elim (by omega)
            · refine lv_aload_n hx hb dX5_feed_42 rfl (lv_at hl 0 rfl) ?_
              have b_47 : 0 ≤ (I_43 x0 1).toInt ∧ (I_43 x0 1).toInt ≤ 1000 := hM.ib m_44 k_44 1 rfl
              refine cr_get (κ := 5) (ci := 5) (k := 1) (C := RX5) (T := TX5) (N := 13) (fs := cfs 5) (v := .int (I_43 x0 1)) E hM m_44 k_44 (fun _ _ => rfl) rfl hin5 (by decide) (index := 36) (mm_at 1 rfl) rfl rfl dX5_feed_43 ?_
              exact cr_ri (mc := 0) (ms := 0) E hr hlk hsz hM ⟨show (0 : Nat) ≤ 0 from by omega, show (0 : Nat) ≤ 0 from by omega⟩ (show ((I x0 1).toInt ≤ 980 ∧ (I_43 x0 1).toInt = (I x0 1).toInt + 20 ∧ (I_43 x0 1).toInt = (I x0 1).toInt + 20 ∧ (∀ k : Nat, k < 20 → zT (I_43 tp ((I x0 1).toInt.toNat + k)).toInt (zby5 p0 p1 p2 p3 p4 k)) ∧ ∀ j : Nat, j < (I x0 1).toInt.toNat → I_43 tp j = I tp j) ∨ (980 < (I x0 1).toInt ∧ (I_43 x0 1).toInt = -1 ∧ (I_43 x0 1).toInt = (I x0 1).toInt ∧ ∀ j : Nat, I_43 tp j = I tp j) from by exact Or.inl ⟨by omega, by omega, by omega, fun k hk => by have s0 : ∀ k : Nat, k < 4 → zT (I_43 tp ((I x0 1).toInt.toNat + (0 + k))).toInt (zby p0 k) := (fun k hk => by show zT (I_43 tp ((I x0 1).toInt.toNat + (0 + k))).toInt (zby p0 k); rw [hk_46 ((I x0 1).toInt.toNat + (0 + k)) (by omega)]; rw [hk_37 ((I x0 1).toInt.toNat + (0 + k)) (by omega)]; rw [hk_28 ((I x0 1).toInt.toNat + (0 + k)) (by omega)]; rw [hk_19 ((I x0 1).toInt.toNat + (0 + k)) (by omega)]; have e := hb_10 k hk; rw [show (I x0 1).toInt.toNat + k = (I x0 1).toInt.toNat + (0 + k) from by omega] at e; exact e); have s1 : ∀ k : Nat, k < 4 → zT (I_43 tp ((I x0 1).toInt.toNat + (4 + k))).toInt (zby p1 k) := (fun k hk => by show zT (I_43 tp ((I x0 1).toInt.toNat + (4 + k))).toInt (zby p1 k); rw [hk_46 ((I x0 1).toInt.toNat + (4 + k)) (by omega)]; rw [hk_37 ((I x0 1).toInt.toNat + (4 + k)) (by omega)]; rw [hk_28 ((I x0 1).toInt.toNat + (4 + k)) (by omega)]; have e := hb_19 k hk; rw [show (I_7 x0 1).toInt.toNat + k = (I x0 1).toInt.toNat + (4 + k) from by omega] at e; exact e); have s2 : ∀ k : Nat, k < 4 → zT (I_43 tp ((I x0 1).toInt.toNat + (8 + k))).toInt (zby p2 k) := (fun k hk => by show zT (I_43 tp ((I x0 1).toInt.toNat + (8 + k))).toInt (zby p2 k); rw [hk_46 ((I x0 1).toInt.toNat + (8 + k)) (by omega)]; rw [hk_37 ((I x0 1).toInt.toNat + (8 + k)) (by omega)]; have e := hb_28 k hk; rw [show (I_16 x0 1).toInt.toNat + k = (I x0 1).toInt.toNat + (8 + k) from by omega] at e; exact e); have s3 : ∀ k : Nat, k < 4 → zT (I_43 tp ((I x0 1).toInt.toNat + (12 + k))).toInt (zby p3 k) := (fun k hk => by show zT (I_43 tp ((I x0 1).toInt.toNat + (12 + k))).toInt (zby p3 k); rw [hk_46 ((I x0 1).toInt.toNat + (12 + k)) (by omega)]; have e := hb_37 k hk; rw [show (I_25 x0 1).toInt.toNat + k = (I x0 1).toInt.toNat + (12 + k) from by omega] at e; exact e); have s4 : ∀ k : Nat, k < 4 → zT (I_43 tp ((I x0 1).toInt.toNat + (16 + k))).toInt (zby p4 k) := (fun k hk => by show zT (I_43 tp ((I x0 1).toInt.toNat + (16 + k))).toInt (zby p4 k); have e := hb_46 k hk; rw [show (I_34 x0 1).toInt.toNat + k = (I x0 1).toInt.toNat + (16 + k) from by omega] at e; exact e); rcases (show k < 4 ∨ (4 ≤ k ∧ k < 8) ∨ (8 ≤ k ∧ k < 12) ∨ (12 ≤ k ∧ k < 16) ∨ (16 ≤ k ∧ k < 20) by omega) with q | q | q | q | q; (have e := s0 (k - 0) (by omega); rw [show 0 + (k - 0) = k from by omega] at e; unfold zby5; rw [if_pos (by omega), show k % 4 = k - 0 from by omega]; exact e); (have e := s1 (k - 4) (by omega); rw [show 4 + (k - 4) = k from by omega] at e; unfold zby5; rw [if_neg (by omega), if_pos (by omega), show k % 4 = k - 4 from by omega]; exact e); (have e := s2 (k - 8) (by omega); rw [show 8 + (k - 8) = k from by omega] at e; unfold zby5; rw [if_neg (by omega), if_neg (by omega), if_pos (by omega), show k % 4 = k - 8 from by omega]; exact e); (have e := s3 (k - 12) (by omega); rw [show 12 + (k - 12) = k from by omega] at e; unfold zby5; rw [if_neg (by omega), if_neg (by omega), if_neg (by omega), if_pos (by omega), show k % 4 = k - 12 from by omega]; exact e); (have e := s4 (k - 16) (by omega); rw [show 16 + (k - 16) = k from by omega] at e; unfold zby5; rw [if_neg (by omega), if_neg (by omega), if_neg (by omega), if_neg (by omega), show k % 4 = k - 16 from by omega]; exact e), fun j hj => by rw [hk_46 j (by omega)]; rw [hk_37 j (by omega)]; rw [hk_28 j (by omega)]; rw [hk_19 j (by omega)]; rw [hk_10 j (by omega)]⟩) dX5_feed_46
  · refine lv_iconst (v := (-1)) hx hb dX5_feed_13 (by decide) ?_
    exact cr_ri (mc := 0) (ms := 0) E hr hlk hsz hM ⟨show (0 : Nat) ≤ 0 from by omega, show (0 : Nat) ≤ 0 from by omega⟩ (show ((I x0 1).toInt ≤ 980 ∧ ((-1) : Int32).toInt = (I x0 1).toInt + 20 ∧ (I x0 1).toInt = (I x0 1).toInt + 20 ∧ (∀ k : Nat, k < 20 → zT (I tp ((I x0 1).toInt.toNat + k)).toInt (zby5 p0 p1 p2 p3 p4 k)) ∧ ∀ j : Nat, j < (I x0 1).toInt.toNat → I tp j = I tp j) ∨ (980 < (I x0 1).toInt ∧ ((-1) : Int32).toInt = -1 ∧ (I x0 1).toInt = (I x0 1).toInt ∧ ∀ j : Nat, I tp j = I tp j) from by have n9 := num_m1; exact Or.inr ⟨by omega, by omega, by omega, fun j => rfl⟩) dX5_feed_14
