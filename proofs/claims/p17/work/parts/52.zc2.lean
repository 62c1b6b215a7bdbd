def w5X4_step : List Cond := .code yX4_step cX4_step 1 none :: ([.fieldLink RX4 133 "SkiShots$Reader" "behind" "I", .fieldLink RX4 21 "SkiShots$Reader" "length" "I", .methodLink RX4 149 yX4_sortAt, .instanceMethod yX4_sortAt, .selects RX4 yX4_sortAt yX4_sortAt, .initialized RX4, .code yX4_sortAt cX4_sortAt 3 (some .int), .fieldLink RX4 9 "SkiShots$Reader" "text" "[B", .fieldLink RX4 37 "SkiShots$Reader" "sort" "I", .fieldLink RX4 54 "SkiShots$Reader" "place" "I", .methodLink RX4 15 Lib.Math.min.name, .static Lib.Math.min.name, .initialized "java/lang/Math", .code Lib.Math.min.name Lib.Math.min.code 2 (some .int)] ++ wsX40)
set_option maxRecDepth 20000 in
theorem gz_X4_step_X4_sortAt_8 : GoodIn w5X4_step (wsV RX4 149 RX4 yX4_sortAt w5X4_sortAt) := goodIn_p _ [7] rfl (by decide +kernel)
set_option maxRecDepth 20000 in
theorem gz_X4_step_X4_sortAt_26 : GoodIn w5X4_step (wsV RX4 149 RX4 yX4_sortAt w5X4_sortAt) := goodIn_p _ [7] rfl (by decide +kernel)
set_option maxRecDepth 20000 in
theorem gz_X4_step_X4_sortAt_62 : GoodIn w5X4_step (wsV RX4 149 RX4 yX4_sortAt w5X4_sortAt) := goodIn_p _ [7] rfl (by decide +kernel)
set_option maxHeartbeats 4000000 in
set_option maxRecDepth 100000 in
theorem h5_X4_step (l : Launch) (D : va_G) (cA : Nat → ClassId) (ad av : Nat → Nat) (L : List Nat) (K : Nat → Nat) (I : Nat → Nat → Int32) (O : Nat → Nat → Option Nat) (sz : Nat) (x0 : Nat) (hI : cI L K I O) (mx0 : x0 ∈ L) (kx0 : K x0 = 4) (kz : Nat → Nat) (nz : Nat) (xz : Nat) (htx : zTx kz nz I O x0) (hbe : (I x0 8).toInt = (xz : Int)) : Met l yX4_step w5X4_step ({ frames := 1, cells := 0, slots := 0, locals := 24 }) (cPre D cA ad av L K I O sz [.ref x0]) (cQv D cA L K I O sz [] [(4, 6), (4, 7), (4, 8)] [] (fun L' K' I' O' => ((I' x0 6).toInt = 0 ∨ (I' x0 7).toInt ≤ 999) ∧ (I' x0 7).toInt = (ztp kz xz : Int) ∧ (I' x0 8).toInt = (zty kz nz xz : Int) ∧ (I' x0 6).toInt = zso kz nz (ztp kz xz))) 0 0 (va_A (cW cA L K I O) sz) := by
  refine cr_met (own := RX4) (xs := []) (WI := [(4, 6), (4, 7), (4, 8)]) (WO := []) (cc := cX4_step) (maxL := 1) (ret := none) (by decide) rfl rfl (Nat.le_of_ble_eq_true rfl) hI ?_
  intro p e s m args below meth c ls E hV hml hr hlk hname hsz hA hM hl
  have hx := E.1
  have hb := E.2.1
  have hts := E.2.2.1
  have hown := E.2.2.2.1
  have hl : lv_has ls 1 [(0, .ref x0)] := hl
  have hin4 : ∀ w ∈ wsX40, w ∈ w5X4_step := by decide +kernel
  have hnz := zTx_n htx
  have hou := zTx_out htx
  have B_89 : ∀ n_89 : Nat, ∀ (H : Heap) (locs : List Loc) (ls : Array Slot) (Lc_89 : List Nat) (Kc_89 : Nat → Nat) (Ic_89 : Nat → Nat → Int32) (Oc_89 : Nat → Nat → Option Nat), (Ic_89 x0 6).toInt = 0 ∨ (Ic_89 x0 7).toInt ≤ 999 → (Ic_89 x0 7).toInt = (ztp kz xz : Int) → (Ic_89 x0 6).toInt = zso kz nz (ztp kz xz) → (Ic_89 x0 6).toInt = 1 ∨ (Ic_89 x0 6).toInt = 2 → zrun (fun j => zso kz nz j = zso kz nz (ztp kz xz)) (ztp kz xz) (Ic_89 x0 8).toInt.toNat → (Ic_89 x0 8).toInt ≤ (nz : Int) → (1000 - (Ic_89 x0 8).toInt) < (n_89 : Int) → cQ D cA (va_A (cW cA L K I O) sz) s.heap [] [(4, 6), (4, 7), (4, 8)] [] L K I O H locs Lc_89 Kc_89 Ic_89 Oc_89 → lv_has ls 1 [(0, .ref x0)] → W p l e ({ frames := 1, cells := 0, slots := 0, locals := 24 }) s m args below meth c H locs 0 0 (MQ below (cQv D cA L K I O sz [] [(4, 6), (4, 7), (4, 8)] [] (fun L' K' I' O' => ((I' x0 6).toInt = 0 ∨ (I' x0 7).toInt ≤ 999) ∧ (I' x0 7).toInt = (ztp kz xz : Int) ∧ (I' x0 8).toInt = (zty kz nz xz : Int) ∧ (I' x0 6).toInt = zso kz nz (ztp kz xz))) args s 0 0 (va_A (cW cA L K I O) sz)) (F0 m 89 ls []) := by
    intro n_89
    induction n_89 with
    | zero => intro H locs ls Lc_89 Kc_89 Ic_89 Oc_89 f89_0 f89_1 f89_2 f89_3 f89_4 f89_5 hn hM hl; exact False.elim (by have hz := hM.ib (hM.2.2.2.2 x0 mx0 (fun z => by cases z)).1 ((hM.2.2.2.2 x0 mx0 (fun z => by cases z)).2.1.trans kx0) 8 (x := 0) (y := 1000) rfl; omega)
    | succ n_89 ih_89 =>
      intro H locs ls Lc_89 Kc_89 Ic_89 Oc_89 f89_0 f89_1 f89_2 f89_3 f89_4 f89_5 hn hM hl
      have hfr_89 := hM.2.2.2.2
      have m_1 := (hfr_89 x0 mx0 (fun z => by cases z)).1
      have k_1 : Kc_89 x0 = 4 := (hfr_89 x0 mx0 (fun z => by cases z)).2.1.trans kx0
      refine lv_aload_n hx hb dX4_step_89 rfl (lv_at hl 0 rfl) ?_
      have b_2 : 0 ≤ (Ic_89 x0 8).toInt ∧ (Ic_89 x0 8).toInt ≤ 1000 := hM.ib m_1 k_1 8 rfl
      refine cr_get (κ := 4) (ci := 4) (k := 8) (C := RX4) (T := TX4) (N := 10) (fs := cfs 4) (v := .int (Ic_89 x0 8)) E hM m_1 k_1 (fun _ _ => rfl) rfl hin4 (by decide) (index := 133) (mm_at 1 rfl) rfl rfl dX4_step_90 ?_
      refine lv_aload_n hx hb dX4_step_93 rfl (lv_at hl 0 rfl) ?_
      have b_3 : 0 ≤ (Ic_89 x0 1).toInt ∧ (Ic_89 x0 1).toInt ≤ 1000 := hM.ib m_1 k_1 1 rfl
      have e_4 : (Ic_89 x0 1).toInt = (I x0 1).toInt := congrArg Int32.toInt ((hfr_89 x0 mx0 (fun z => by cases z)).2.2.1 1 (by rw [kx0]; rfl))
      refine cr_get (κ := 4) (ci := 4) (k := 1) (C := RX4) (T := TX4) (N := 10) (fs := cfs 4) (v := .int (Ic_89 x0 1)) E hM m_1 k_1 (fun _ _ => rfl) rfl hin4 (by decide) (index := 21) (mm_at 2 rfl) rfl rfl dX4_step_94 ?_
      refine mm_icmp_ge (X := (Ic_89 x0 8).toInt) (Y := (Ic_89 x0 1).toInt) (tgt := 128) hx hb dX4_step_97 (by decide) rfl rfl (fun c_5 => ?_) (fun c_5 => ?_)
      · have b_6 : 0 ≤ (Ic_89 x0 6).toInt ∧ (Ic_89 x0 6).toInt ≤ 4 := hM.ib m_1 k_1 6 rfl
        have b_7 : 0 ≤ (Ic_89 x0 7).toInt ∧ (Ic_89 x0 7).toInt ≤ 1000 := hM.ib m_1 k_1 7 rfl
        exact cr_rv (mc := 0) (ms := 0) E hr hlk hsz hM ⟨show (0 : Nat) ≤ 0 from by omega, show (0 : Nat) ≤ 0 from by omega⟩ (show ((Ic_89 x0 6).toInt = 0 ∨ (Ic_89 x0 7).toInt ≤ 999) ∧ (Ic_89 x0 7).toInt = (ztp kz xz : Int) ∧ (Ic_89 x0 8).toInt = (zty kz nz xz : Int) ∧ (Ic_89 x0 6).toInt = zso kz nz (ztp kz xz) from by have hty := zty_r hou (by omega) f89_4 (fun h => by have h1 := zso_0 (k := kz) (n := nz) (p := (Ic_89 x0 8).toInt.toNat); omega); exact ⟨by omega, by omega, by omega, by omega⟩) dX4_step_128
      · refine lv_aload_n hx hb dX4_step_100 rfl (lv_at hl 0 rfl) ?_
        refine lv_aload_n hx hb dX4_step_101 rfl (lv_at hl 0 rfl) ?_
        refine cr_get (κ := 4) (ci := 4) (k := 8) (C := RX4) (T := TX4) (N := 10) (fs := cfs 4) (v := .int (Ic_89 x0 8)) E hM m_1 k_1 (fun _ _ => rfl) rfl hin4 (by decide) (index := 133) (mm_at 1 rfl) rfl rfl dX4_step_102 ?_
        refine cc_Vip (vs := [.int (Ic_89 x0 8)]) (rest := []) (b := x0) (κ := 4) E hV rfl hA hml hM m_1 k_1 rfl rfl (h5_X4_sortAt l D cA ad av Lc_89 Kc_89 Ic_89 Oc_89 _ x0 (Ic_89 x0 8) hM.2.2.2.1 m_1 k_1 kz nz (zTx_fr htx hI mx0 kx0 hM.2.2.2.2 rfl rfl rfl)) (cwV 1 hts gz_X4_step_X4_sortAt_8 rfl rfl rfl (by decide +kernel) ⟨Nat.le_of_ble_eq_true rfl, Nat.le_of_ble_eq_true rfl⟩) rfl hl.1 rfl (Nat.le_of_ble_eq_true rfl) dX4_step_105 ⟨show (0 : Nat) ≤ 0 from by omega, show (0 : Nat) ≤ 0 from by omega⟩ (fun r_9 H locs p_10 hM => ?_)
        replace p_10 : 0 ≤ r_9.toInt ∧ r_9.toInt ≤ 4 ∧ (r_9.toInt = 0 ∨ (Ic_89 x0 8).toInt ≤ 999) ∧ (0 ≤ (Ic_89 x0 8).toInt → r_9.toInt = zso kz nz (Ic_89 x0 8).toInt.toNat) := p_10
        rcases p_10 with ⟨hs1_12, hs2_12, hs3_12, hs4_12⟩
        replace hs4_12 := hs4_12 (by omega)
        refine lv_aload_n hx hb dX4_step_108 rfl (lv_at hl 0 rfl) ?_
        have b_13 : 0 ≤ (Ic_89 x0 6).toInt ∧ (Ic_89 x0 6).toInt ≤ 4 := hM.ib m_1 k_1 6 rfl
        refine cr_get (κ := 4) (ci := 4) (k := 6) (C := RX4) (T := TX4) (N := 10) (fs := cfs 4) (v := .int (Ic_89 x0 6)) E hM m_1 k_1 (fun _ _ => rfl) rfl hin4 (by decide) (index := 37) (mm_at 9 rfl) rfl rfl dX4_step_109 ?_
        refine mm_icmp_ne (X := r_9.toInt) (Y := (Ic_89 x0 6).toInt) (tgt := 128) hx hb dX4_step_112 (by decide) rfl rfl (fun c_14 => ?_) (fun c_14 => ?_)
        · have b_15 : 0 ≤ (Ic_89 x0 7).toInt ∧ (Ic_89 x0 7).toInt ≤ 1000 := hM.ib m_1 k_1 7 rfl
          exact cr_rv (mc := 0) (ms := 0) E hr hlk hsz hM ⟨show (0 : Nat) ≤ 0 from by omega, show (0 : Nat) ≤ 0 from by omega⟩ (show ((Ic_89 x0 6).toInt = 0 ∨ (Ic_89 x0 7).toInt ≤ 999) ∧ (Ic_89 x0 7).toInt = (ztp kz xz : Int) ∧ (Ic_89 x0 8).toInt = (zty kz nz xz : Int) ∧ (Ic_89 x0 6).toInt = zso kz nz (ztp kz xz) from by have hty := zty_r hou (by omega) f89_4 (fun h => by have h1 := zso_0 (k := kz) (n := nz) (p := (Ic_89 x0 8).toInt.toNat); omega); exact ⟨by omega, by omega, by omega, by omega⟩) dX4_step_128
        · refine lv_aload_n hx hb dX4_step_115 rfl (lv_at hl 0 rfl) ?_
          refine lv_dup hx hb dX4_step_116 rfl ?_
          refine cr_get (κ := 4) (ci := 4) (k := 8) (C := RX4) (T := TX4) (N := 10) (fs := cfs 4) (v := .int (Ic_89 x0 8)) E hM m_1 k_1 (fun _ _ => rfl) rfl hin4 (by decide) (index := 133) (mm_at 1 rfl) rfl rfl dX4_step_117 ?_
          refine lv_iconst (v := 1) hx hb dX4_step_120 (by decide) ?_
          refine mm_iadd (X := (Ic_89 x0 8).toInt) (Y := 1) hx hb dX4_step_121 rfl num_1 (by omega) (fun z_16 hz_16 => ?_)
          refine cr_puti (κ := 4) (ci := 4) (k := 8) (C := RX4) (T := TX4) (N := 10) (fs := cfs 4) (ty := .int) (v := z_16) E hM m_1 k_1 (fun _ _ => rfl) rfl hin4 tyX4 tyX4_ok nmX4 (by decide) (index := 133) (mm_at 1 rfl) rfl (Or.inl rfl) (by decide +kernel) rfl rfl (show (8 : Nat) < 10 from by decide) (fun _ _ _ => rfl) (cz_bd (X := z_16.toInt) (a := 0) (b := 1000) rfl rfl (by omega)) (cS_upd (hM.sp m_1 k_1) (by decide) (by decide)) (Or.inr (Or.inr rfl)) dX4_step_122 (fun H locs I_17 eI_17 hM => ?_)
          refine lv_goto (tgt := 89) hx hb dX4_step_125 (by decide) ?_
          have b_18 : 0 ≤ (I_17 x0 6).toInt ∧ (I_17 x0 6).toInt ≤ 4 := hM.ib m_1 k_1 6 rfl
          have e_19 : (I_17 x0 6).toInt = (Ic_89 x0 6).toInt := congrArg Int32.toInt (cu_k eI_17 (by decide))
          have b_20 : 0 ≤ (I_17 x0 7).toInt ∧ (I_17 x0 7).toInt ≤ 1000 := hM.ib m_1 k_1 7 rfl
          have e_21 : (I_17 x0 7).toInt = (Ic_89 x0 7).toInt := congrArg Int32.toInt (cu_k eI_17 (by decide))
          have b_22 : 0 ≤ (I_17 x0 8).toInt ∧ (I_17 x0 8).toInt ≤ 1000 := hM.ib m_1 k_1 8 rfl
          have e_23 : (I_17 x0 8).toInt = z_16.toInt := (congrArg Int32.toInt (cu_s eI_17)).trans rfl
          exact ih_89 _ _ _ Lc_89 Kc_89 I_17 Oc_89     (show (I_17 x0 6).toInt = 0 ∨ (I_17 x0 7).toInt ≤ 999 from by omega) (show (I_17 x0 7).toInt = (ztp kz xz : Int) from by omega) (show (I_17 x0 6).toInt = zso kz nz (ztp kz xz) from by omega) (show (I_17 x0 6).toInt = 1 ∨ (I_17 x0 6).toInt = 2 from by omega) (show zrun (fun j => zso kz nz j = zso kz nz (ztp kz xz)) (ztp kz xz) (I_17 x0 8).toInt.toNat from by exact ⟨by have := f89_4.1; omega, fun j h1 h2 => (Nat.lt_or_ge j (Ic_89 x0 8).toInt.toNat).elim (fun h9 => f89_4.2 j h1 h9) (fun h9 => by have ej : j = (Ic_89 x0 8).toInt.toNat := (by omega); rw [ej]; omega)⟩) (show (I_17 x0 8).toInt ≤ (nz : Int) from by omega) (show (1000 - (I_17 x0 8).toInt) < ((n_89 : Nat) : Int) from by omega) hM (lv_sub hl [0] rfl)
  have B_44 : ∀ (H : Heap) (locs : List Loc) (ls : Array Slot) (Lc_44 : List Nat) (Kc_44 : Nat → Nat) (Ic_44 : Nat → Nat → Int32) (Oc_44 : Nat → Nat → Option Nat), zend (zbl kz) xz (Ic_44 x0 7).toInt.toNat → cQ D cA (va_A (cW cA L K I O) sz) s.heap [] [(4, 6), (4, 7), (4, 8)] [] L K I O H locs Lc_44 Kc_44 Ic_44 Oc_44 → lv_has ls 1 [(0, .ref x0)] → W p l e ({ frames := 1, cells := 0, slots := 0, locals := 24 }) s m args below meth c H locs 0 0 (MQ below (cQv D cA L K I O sz [] [(4, 6), (4, 7), (4, 8)] [] (fun L' K' I' O' => ((I' x0 6).toInt = 0 ∨ (I' x0 7).toInt ≤ 999) ∧ (I' x0 7).toInt = (ztp kz xz : Int) ∧ (I' x0 8).toInt = (zty kz nz xz : Int) ∧ (I' x0 6).toInt = zso kz nz (ztp kz xz))) args s 0 0 (va_A (cW cA L K I O) sz)) (F0 m 44 ls []) := by
    intro H locs ls Lc_44 Kc_44 Ic_44 Oc_44 f44_0 hM hl
    have hfr_44 := hM.2.2.2.2
    have m_24 := (hfr_44 x0 mx0 (fun z => by cases z)).1
    have k_24 : Kc_44 x0 = 4 := (hfr_44 x0 mx0 (fun z => by cases z)).2.1.trans kx0
    have htp : ztp kz xz = (Ic_44 x0 7).toInt.toNat := ztp_eq f44_0
    have hz4 : zso kz nz (ztp kz xz) = zso kz nz (Ic_44 x0 7).toInt.toNat := by rw [htp]
    refine lv_aload_n hx hb dX4_step_44 rfl (lv_at hl 0 rfl) ?_
    refine lv_aload_n hx hb dX4_step_45 rfl (lv_at hl 0 rfl) ?_
    refine lv_aload_n hx hb dX4_step_46 rfl (lv_at hl 0 rfl) ?_
    have b_25 : 0 ≤ (Ic_44 x0 7).toInt ∧ (Ic_44 x0 7).toInt ≤ 1000 := hM.ib m_24 k_24 7 rfl
    refine cr_get (κ := 4) (ci := 4) (k := 7) (C := RX4) (T := TX4) (N := 10) (fs := cfs 4) (v := .int (Ic_44 x0 7)) E hM m_24 k_24 (fun _ _ => rfl) rfl hin4 (by decide) (index := 54) (mm_at 10 rfl) rfl rfl dX4_step_47 ?_
    refine cc_Vip (vs := [.int (Ic_44 x0 7)]) (rest := [.ref x0]) (b := x0) (κ := 4) E hV rfl hA hml hM m_24 k_24 rfl rfl (h5_X4_sortAt l D cA ad av Lc_44 Kc_44 Ic_44 Oc_44 _ x0 (Ic_44 x0 7) hM.2.2.2.1 m_24 k_24 kz nz (zTx_fr htx hI mx0 kx0 hM.2.2.2.2 rfl rfl rfl)) (cwV 1 hts gz_X4_step_X4_sortAt_26 rfl rfl rfl (by decide +kernel) ⟨Nat.le_of_ble_eq_true rfl, Nat.le_of_ble_eq_true rfl⟩) rfl hl.1 rfl (Nat.le_of_ble_eq_true rfl) dX4_step_50 ⟨show (0 : Nat) ≤ 0 from by omega, show (0 : Nat) ≤ 0 from by omega⟩ (fun r_27 H locs p_28 hM => ?_)
    replace p_28 : 0 ≤ r_27.toInt ∧ r_27.toInt ≤ 4 ∧ (r_27.toInt = 0 ∨ (Ic_44 x0 7).toInt ≤ 999) ∧ (0 ≤ (Ic_44 x0 7).toInt → r_27.toInt = zso kz nz (Ic_44 x0 7).toInt.toNat) := p_28
    rcases p_28 with ⟨hs1_30, hs2_30, hs3_30, hs4_30⟩
    replace hs4_30 := hs4_30 (by omega)
    refine cr_puti (κ := 4) (ci := 4) (k := 6) (C := RX4) (T := TX4) (N := 10) (fs := cfs 4) (ty := .int) (v := r_27) E hM m_24 k_24 (fun _ _ => rfl) rfl hin4 tyX4 tyX4_ok nmX4 (by decide) (index := 37) (mm_at 9 rfl) rfl (Or.inl rfl) (by decide +kernel) rfl rfl (show (6 : Nat) < 10 from by decide) (fun _ _ _ => rfl) (cz_bd (X := r_27.toInt) (a := 0) (b := 4) rfl rfl (by omega)) (cS_upd (hM.sp m_24 k_24) (by decide) (by decide)) (Or.inr (Or.inr rfl)) dX4_step_53 (fun H locs I_31 eI_31 hM => ?_)
    refine lv_aload_n hx hb dX4_step_56 rfl (lv_at hl 0 rfl) ?_
    refine lv_aload_n hx hb dX4_step_57 rfl (lv_at hl 0 rfl) ?_
    have b_32 : 0 ≤ (I_31 x0 7).toInt ∧ (I_31 x0 7).toInt ≤ 1000 := hM.ib m_24 k_24 7 rfl
    have e_33 : (I_31 x0 7).toInt = (Ic_44 x0 7).toInt := congrArg Int32.toInt (cu_k eI_31 (by decide))
    refine cr_get (κ := 4) (ci := 4) (k := 7) (C := RX4) (T := TX4) (N := 10) (fs := cfs 4) (v := .int (I_31 x0 7)) E hM m_24 k_24 (fun _ _ => rfl) rfl hin4 (by decide) (index := 54) (mm_at 10 rfl) rfl rfl dX4_step_58 ?_
    refine lv_iconst (v := 1) hx hb dX4_step_61 (by decide) ?_
    refine mm_iadd (X := (I_31 x0 7).toInt) (Y := 1) hx hb dX4_step_62 rfl num_1 (by omega) (fun z_34 hz_34 => ?_)
    refine lv_aload_n hx hb dX4_step_63 rfl (lv_at hl 0 rfl) ?_
    have b_35 : 0 ≤ (I_31 x0 1).toInt ∧ (I_31 x0 1).toInt ≤ 1000 := hM.ib m_24 k_24 1 rfl
    have e_36 : (Ic_44 x0 1).toInt = (I x0 1).toInt := congrArg Int32.toInt ((hfr_44 x0 mx0 (fun z => by cases z)).2.2.1 1 (by rw [kx0]; rfl))
    have e_37 : (I_31 x0 1).toInt = (Ic_44 x0 1).toInt := congrArg Int32.toInt (cu_k eI_31 (by decide))
    refine cr_get (κ := 4) (ci := 4) (k := 1) (C := RX4) (T := TX4) (N := 10) (fs := cfs 4) (v := .int (I_31 x0 1)) E hM m_24 k_24 (fun _ _ => rfl) rfl hin4 (by decide) (index := 21) (mm_at 2 rfl) rfl rfl dX4_step_64 ?_
    refine mm_min (X := z_34.toInt) (Y := (I_31 x0 1).toInt) hx hb (hml.trans hl.1.symm) hown (hts _ (mm_at 11 rfl)) (hts _ (mm_at 12 rfl)) (hts _ (mm_at 13 rfl)) (hts _ (mm_at 14 rfl)) (Nat.le_of_ble_eq_true rfl) (Nat.le_of_ble_eq_true rfl) (Nat.le_of_ble_eq_true rfl) (Nat.le_of_ble_eq_true rfl) rfl rfl dX4_step_67 (fun z_38 hz_38 => ?_)
    refine cr_puti (κ := 4) (ci := 4) (k := 8) (C := RX4) (T := TX4) (N := 10) (fs := cfs 4) (ty := .int) (v := z_38) E hM m_24 k_24 (fun _ _ => rfl) rfl hin4 tyX4 tyX4_ok nmX4 (by decide) (index := 133) (mm_at 1 rfl) rfl (Or.inl rfl) (by decide +kernel) rfl rfl (show (8 : Nat) < 10 from by decide) (fun _ _ _ => rfl) (cz_bd (X := z_38.toInt) (a := 0) (b := 1000) rfl rfl (by omega)) (cS_upd (hM.sp m_24 k_24) (by decide) (by decide)) (Or.inr (Or.inr rfl)) dX4_step_70 (fun H locs I_39 eI_39 hM => ?_)
    refine lv_aload_n hx hb dX4_step_73 rfl (lv_at hl 0 rfl) ?_
    have b_40 : 0 ≤ (I_39 x0 6).toInt ∧ (I_39 x0 6).toInt ≤ 4 := hM.ib m_24 k_24 6 rfl
    have e_41 : (I_31 x0 6).toInt = r_27.toInt := (congrArg Int32.toInt (cu_s eI_31)).trans rfl
    have e_42 : (I_39 x0 6).toInt = (I_31 x0 6).toInt := congrArg Int32.toInt (cu_k eI_39 (by decide))
    refine cr_get (κ := 4) (ci := 4) (k := 6) (C := RX4) (T := TX4) (N := 10) (fs := cfs 4) (v := .int (I_39 x0 6)) E hM m_24 k_24 (fun _ _ => rfl) rfl hin4 (by decide) (index := 37) (mm_at 9 rfl) rfl rfl dX4_step_74 ?_
    refine lv_iconst (v := 1) hx hb dX4_step_77 (by decide) ?_
    refine mm_icmp_eq (X := (I_39 x0 6).toInt) (Y := 1) (tgt := 89) hx hb dX4_step_78 (by decide) rfl num_1 (fun c_43 => ?_) (fun c_43 => ?_)
    · have b_44 : 0 ≤ (I_39 x0 7).toInt ∧ (I_39 x0 7).toInt ≤ 1000 := hM.ib m_24 k_24 7 rfl
      have e_45 : (I_39 x0 7).toInt = (I_31 x0 7).toInt := congrArg Int32.toInt (cu_k eI_39 (by decide))
      have b_46 : 0 ≤ (I_39 x0 8).toInt ∧ (I_39 x0 8).toInt ≤ 1000 := hM.ib m_24 k_24 8 rfl
      have e_47 : (I_39 x0 8).toInt = z_38.toInt := (congrArg Int32.toInt (cu_s eI_39)).trans rfl
      exact B_89 4294967296 _ _ _ Lc_44 Kc_44 I_39 Oc_44     (show (I_39 x0 6).toInt = 0 ∨ (I_39 x0 7).toInt ≤ 999 from by omega) (show (I_39 x0 7).toInt = (ztp kz xz : Int) from by omega) (show (I_39 x0 6).toInt = zso kz nz (ztp kz xz) from by omega) (show (I_39 x0 6).toInt = 1 ∨ (I_39 x0 6).toInt = 2 from by omega) (show zrun (fun j => zso kz nz j = zso kz nz (ztp kz xz)) (ztp kz xz) (I_39 x0 8).toInt.toNat from by have hz0 := zso_0 (k := kz) (n := nz) (p := ztp kz xz); exact ⟨by omega, fun j h1 h2 => by have ej : j = ztp kz xz := (by omega); rw [ej]⟩) (show (I_39 x0 8).toInt ≤ (nz : Int) from by omega) (show (1000 - (I_39 x0 8).toInt) < ((4294967296 : Nat) : Int) from by omega) hM (lv_sub hl [0] rfl)
    · refine lv_aload_n hx hb dX4_step_81 rfl (lv_at hl 0 rfl) ?_
      refine cr_get (κ := 4) (ci := 4) (k := 6) (C := RX4) (T := TX4) (N := 10) (fs := cfs 4) (v := .int (I_39 x0 6)) E hM m_24 k_24 (fun _ _ => rfl) rfl hin4 (by decide) (index := 37) (mm_at 9 rfl) rfl rfl dX4_step_82 ?_
      refine lv_iconst (v := 2) hx hb dX4_step_85 (by decide) ?_
      refine mm_icmp_ne (X := (I_39 x0 6).toInt) (Y := 2) (tgt := 128) hx hb dX4_step_86 (by decide) rfl num_2 (fun c_48 => ?_) (fun c_48 => ?_)
      · have b_49 : 0 ≤ (I_39 x0 7).toInt ∧ (I_39 x0 7).toInt ≤ 1000 := hM.ib m_24 k_24 7 rfl
        have e_50 : (I_39 x0 7).toInt = (I_31 x0 7).toInt := congrArg Int32.toInt (cu_k eI_39 (by decide))
        have b_51 : 0 ≤ (I_39 x0 8).toInt ∧ (I_39 x0 8).toInt ≤ 1000 := hM.ib m_24 k_24 8 rfl
        have e_52 : (I_39 x0 8).toInt = z_38.toInt := (congrArg Int32.toInt (cu_s eI_39)).trans rfl
        exact cr_rv (mc := 0) (ms := 0) E hr hlk hsz hM ⟨show (0 : Nat) ≤ 0 from by omega, show (0 : Nat) ≤ 0 from by omega⟩ (show ((I_39 x0 6).toInt = 0 ∨ (I_39 x0 7).toInt ≤ 999) ∧ (I_39 x0 7).toInt = (ztp kz xz : Int) ∧ (I_39 x0 8).toInt = (zty kz nz xz : Int) ∧ (I_39 x0 6).toInt = zso kz nz (ztp kz xz) from by have hz := zso_0 (k := kz) (n := nz) (p := ztp kz xz); have hty := zty_s (n := nz) htp (b := (I_39 x0 8).toInt.toNat) (by rw [← htp]; omega); exact ⟨by omega, by omega, by omega, by omega⟩) dX4_step_128
      · have b_53 : 0 ≤ (I_39 x0 7).toInt ∧ (I_39 x0 7).toInt ≤ 1000 := hM.ib m_24 k_24 7 rfl
        have e_54 : (I_39 x0 7).toInt = (I_31 x0 7).toInt := congrArg Int32.toInt (cu_k eI_39 (by decide))
        have b_55 : 0 ≤ (I_39 x0 8).toInt ∧ (I_39 x0 8).toInt ≤ 1000 := hM.ib m_24 k_24 8 rfl
        have e_56 : (I_39 x0 8).toInt = z_38.toInt := (congrArg Int32.toInt (cu_s eI_39)).trans rfl
        exact B_89 4294967296 _ _ _ Lc_44 Kc_44 I_39 Oc_44     (show (I_39 x0 6).toInt = 0 ∨ (I_39 x0 7).toInt ≤ 999 from by omega) (show (I_39 x0 7).toInt = (ztp kz xz : Int) from by omega) (show (I_39 x0 6).toInt = zso kz nz (ztp kz xz) from by omega) (show (I_39 x0 6).toInt = 1 ∨ (I_39 x0 6).toInt = 2 from by omega) (show zrun (fun j => zso kz nz j = zso kz nz (ztp kz xz)) (ztp kz xz) (I_39 x0 8).toInt.toNat from by have hz0 := zso_0 (k := kz) (n := nz) (p := ztp kz xz); exact ⟨by omega, fun j h1 h2 => by have ej : j = ztp kz xz := (by omega); rw [ej]⟩) (show (I_39 x0 8).toInt ≤ (nz : Int) from by omega) (show (1000 - (I_39 x0 8).toInt) < ((4294967296 : Nat) : Int) from by omega) hM (lv_sub hl [0] rfl)
  have B_8 : ∀ n_8 : Nat, ∀ (H : Heap) (locs : List Loc) (ls : Array Slot) (Lc_8 : List Nat) (Kc_8 : Nat → Nat) (Ic_8 : Nat → Nat → Int32) (Oc_8 : Nat → Nat → Option Nat), zrun (zbl kz) xz (Ic_8 x0 7).toInt.toNat → (1000 - (Ic_8 x0 7).toInt) < (n_8 : Int) → cQ D cA (va_A (cW cA L K I O) sz) s.heap [] [(4, 6), (4, 7), (4, 8)] [] L K I O H locs Lc_8 Kc_8 Ic_8 Oc_8 → lv_has ls 1 [(0, .ref x0)] → W p l e ({ frames := 1, cells := 0, slots := 0, locals := 24 }) s m args below meth c H locs 0 0 (MQ below (cQv D cA L K I O sz [] [(4, 6), (4, 7), (4, 8)] [] (fun L' K' I' O' => ((I' x0 6).toInt = 0 ∨ (I' x0 7).toInt ≤ 999) ∧ (I' x0 7).toInt = (ztp kz xz : Int) ∧ (I' x0 8).toInt = (zty kz nz xz : Int) ∧ (I' x0 6).toInt = zso kz nz (ztp kz xz))) args s 0 0 (va_A (cW cA L K I O) sz)) (F0 m 8 ls []) := by
    intro n_8
    induction n_8 with
    | zero => intro H locs ls Lc_8 Kc_8 Ic_8 Oc_8 f8_0 hn hM hl; exact False.elim (by have hz := hM.ib (hM.2.2.2.2 x0 mx0 (fun z => by cases z)).1 ((hM.2.2.2.2 x0 mx0 (fun z => by cases z)).2.1.trans kx0) 7 (x := 0) (y := 1000) rfl; omega)
    | succ n_8 ih_8 =>
      intro H locs ls Lc_8 Kc_8 Ic_8 Oc_8 f8_0 hn hM hl
      have hfr_8 := hM.2.2.2.2
      have m_57 := (hfr_8 x0 mx0 (fun z => by cases z)).1
      have k_57 : Kc_8 x0 = 4 := (hfr_8 x0 mx0 (fun z => by cases z)).2.1.trans kx0
      refine lv_aload_n hx hb dX4_step_8 rfl (lv_at hl 0 rfl) ?_
      have b_58 : 0 ≤ (Ic_8 x0 7).toInt ∧ (Ic_8 x0 7).toInt ≤ 1000 := hM.ib m_57 k_57 7 rfl
      refine cr_get (κ := 4) (ci := 4) (k := 7) (C := RX4) (T := TX4) (N := 10) (fs := cfs 4) (v := .int (Ic_8 x0 7)) E hM m_57 k_57 (fun _ _ => rfl) rfl hin4 (by decide) (index := 54) (mm_at 10 rfl) rfl rfl dX4_step_9 ?_
      refine lv_aload_n hx hb dX4_step_12 rfl (lv_at hl 0 rfl) ?_
      have b_59 : 0 ≤ (Ic_8 x0 1).toInt ∧ (Ic_8 x0 1).toInt ≤ 1000 := hM.ib m_57 k_57 1 rfl
      have e_60 : (Ic_8 x0 1).toInt = (I x0 1).toInt := congrArg Int32.toInt ((hfr_8 x0 mx0 (fun z => by cases z)).2.2.1 1 (by rw [kx0]; rfl))
      refine cr_get (κ := 4) (ci := 4) (k := 1) (C := RX4) (T := TX4) (N := 10) (fs := cfs 4) (v := .int (Ic_8 x0 1)) E hM m_57 k_57 (fun _ _ => rfl) rfl hin4 (by decide) (index := 21) (mm_at 2 rfl) rfl rfl dX4_step_13 ?_
      refine mm_icmp_ge (X := (Ic_8 x0 7).toInt) (Y := (Ic_8 x0 1).toInt) (tgt := 44) hx hb dX4_step_16 (by decide) rfl rfl (fun c_61 => ?_) (fun c_61 => ?_)
      · exact B_44 _ _ _ Lc_8 Kc_8 Ic_8 Oc_8     (show zend (zbl kz) xz (Ic_8 x0 7).toInt.toNat from by exact ⟨f8_0.1, f8_0.2, fun b => by have h1 := zbl_lt hou b; have h2 := zso_4.mpr ⟨h1, b⟩; omega⟩) hM (lv_sub hl [0] rfl)
      · refine lv_aload_n hx hb dX4_step_19 rfl (lv_at hl 0 rfl) ?_
        refine lv_aload_n hx hb dX4_step_20 rfl (lv_at hl 0 rfl) ?_
        refine cr_get (κ := 4) (ci := 4) (k := 7) (C := RX4) (T := TX4) (N := 10) (fs := cfs 4) (v := .int (Ic_8 x0 7)) E hM m_57 k_57 (fun _ _ => rfl) rfl hin4 (by decide) (index := 54) (mm_at 10 rfl) rfl rfl dX4_step_21 ?_
        refine cc_Vip (vs := [.int (Ic_8 x0 7)]) (rest := []) (b := x0) (κ := 4) E hV rfl hA hml hM m_57 k_57 rfl rfl (h5_X4_sortAt l D cA ad av Lc_8 Kc_8 Ic_8 Oc_8 _ x0 (Ic_8 x0 7) hM.2.2.2.1 m_57 k_57 kz nz (zTx_fr htx hI mx0 kx0 hM.2.2.2.2 rfl rfl rfl)) (cwV 1 hts gz_X4_step_X4_sortAt_62 rfl rfl rfl (by decide +kernel) ⟨Nat.le_of_ble_eq_true rfl, Nat.le_of_ble_eq_true rfl⟩) rfl hl.1 rfl (Nat.le_of_ble_eq_true rfl) dX4_step_24 ⟨show (0 : Nat) ≤ 0 from by omega, show (0 : Nat) ≤ 0 from by omega⟩ (fun r_63 H locs p_64 hM => ?_)
        replace p_64 : 0 ≤ r_63.toInt ∧ r_63.toInt ≤ 4 ∧ (r_63.toInt = 0 ∨ (Ic_8 x0 7).toInt ≤ 999) ∧ (0 ≤ (Ic_8 x0 7).toInt → r_63.toInt = zso kz nz (Ic_8 x0 7).toInt.toNat) := p_64
        rcases p_64 with ⟨hs1_66, hs2_66, hs3_66, hs4_66⟩
        replace hs4_66 := hs4_66 (by omega)
        refine lv_iconst (v := 4) hx hb dX4_step_27 (by decide) ?_
        refine mm_icmp_ne (X := r_63.toInt) (Y := 4) (tgt := 44) hx hb dX4_step_28 (by decide) rfl num_4 (fun c_67 => ?_) (fun c_67 => ?_)
        · exact B_44 _ _ _ Lc_8 Kc_8 Ic_8 Oc_8     (show zend (zbl kz) xz (Ic_8 x0 7).toInt.toNat from by exact ⟨f8_0.1, f8_0.2, fun b => by have h1 := zbl_lt hou b; have h2 := zso_4.mpr ⟨h1, b⟩; omega⟩) hM (lv_sub hl [0] rfl)
        · refine lv_aload_n hx hb dX4_step_31 rfl (lv_at hl 0 rfl) ?_
          refine lv_dup hx hb dX4_step_32 rfl ?_
          refine cr_get (κ := 4) (ci := 4) (k := 7) (C := RX4) (T := TX4) (N := 10) (fs := cfs 4) (v := .int (Ic_8 x0 7)) E hM m_57 k_57 (fun _ _ => rfl) rfl hin4 (by decide) (index := 54) (mm_at 10 rfl) rfl rfl dX4_step_33 ?_
          refine lv_iconst (v := 1) hx hb dX4_step_36 (by decide) ?_
          refine mm_iadd (X := (Ic_8 x0 7).toInt) (Y := 1) hx hb dX4_step_37 rfl num_1 (by omega) (fun z_68 hz_68 => ?_)
          refine cr_puti (κ := 4) (ci := 4) (k := 7) (C := RX4) (T := TX4) (N := 10) (fs := cfs 4) (ty := .int) (v := z_68) E hM m_57 k_57 (fun _ _ => rfl) rfl hin4 tyX4 tyX4_ok nmX4 (by decide) (index := 54) (mm_at 10 rfl) rfl (Or.inl rfl) (by decide +kernel) rfl rfl (show (7 : Nat) < 10 from by decide) (fun _ _ _ => rfl) (cz_bd (X := z_68.toInt) (a := 0) (b := 1000) rfl rfl (by omega)) (cS_upd (hM.sp m_57 k_57) (by decide) (by decide)) (Or.inr (Or.inr rfl)) dX4_step_38 (fun H locs I_69 eI_69 hM => ?_)
          refine lv_goto (tgt := 8) hx hb dX4_step_41 (by decide) ?_
          have b_70 : 0 ≤ (I_69 x0 7).toInt ∧ (I_69 x0 7).toInt ≤ 1000 := hM.ib m_57 k_57 7 rfl
          have e_71 : (I_69 x0 7).toInt = z_68.toInt := (congrArg Int32.toInt (cu_s eI_69)).trans rfl
          exact ih_8 _ _ _ Lc_8 Kc_8 I_69 Oc_8     (show zrun (zbl kz) xz (I_69 x0 7).toInt.toNat from by exact ⟨by have := f8_0.1; omega, fun j h1 h2 => (Nat.lt_or_ge j (Ic_8 x0 7).toInt.toNat).elim (fun h9 => f8_0.2 j h1 h9) (fun h9 => by have ej : j = (Ic_8 x0 7).toInt.toNat := (by omega); rw [ej]; exact ((zso_4 (k := kz) (n := nz) (p := (Ic_8 x0 7).toInt.toNat)).mp (by omega)).2)⟩) (show (1000 - (I_69 x0 7).toInt) < ((n_8 : Nat) : Int) from by omega) hM (lv_sub hl [0] rfl)
  refine lv_aload_n hx hb dX4_step_0 rfl (lv_at hl 0 rfl) ?_
  refine lv_aload_n hx hb dX4_step_1 rfl (lv_at hl 0 rfl) ?_
  have b_72 : 0 ≤ (I x0 8).toInt ∧ (I x0 8).toInt ≤ 1000 := hM.ib mx0 kx0 8 rfl
  refine cr_get (κ := 4) (ci := 4) (k := 8) (C := RX4) (T := TX4) (N := 10) (fs := cfs 4) (v := .int (I x0 8)) E hM mx0 kx0 (fun _ _ => rfl) rfl hin4 (by decide) (index := 133) (mm_at 1 rfl) rfl rfl dX4_step_2 ?_
  refine cr_puti (κ := 4) (ci := 4) (k := 7) (C := RX4) (T := TX4) (N := 10) (fs := cfs 4) (ty := .int) (v := (I x0 8)) E hM mx0 kx0 (fun _ _ => rfl) rfl hin4 tyX4 tyX4_ok nmX4 (by decide) (index := 54) (mm_at 10 rfl) rfl (Or.inl rfl) (by decide +kernel) rfl rfl (show (7 : Nat) < 10 from by decide) (fun _ _ _ => rfl) (cz_bd (X := (I x0 8).toInt) (a := 0) (b := 1000) rfl rfl (by omega)) (cS_upd (hM.sp mx0 kx0) (by decide) (by decide)) (Or.inr (Or.inr rfl)) dX4_step_5 (fun H locs I_73 eI_73 hM => ?_)
  have b_74 : 0 ≤ (I_73 x0 7).toInt ∧ (I_73 x0 7).toInt ≤ 1000 := hM.ib mx0 kx0 7 rfl
  have e_75 : (I_73 x0 7).toInt = (I x0 8).toInt := (congrArg Int32.toInt (cu_s eI_73)).trans rfl
  exact B_8 4294967296 _ _ _ L K I_73 O     (show zrun (zbl kz) xz (I_73 x0 7).toInt.toNat from by exact ⟨by omega, fun j h1 h2 => absurd h1 (by omega)⟩) (show (1000 - (I_73 x0 7).toInt) < ((4294967296 : Nat) : Int) from by omega) hM (lv_sub hl [0] rfl)
def w5X4_readWord : List Cond := .code yX4_readWord cX4_readWord 2 (some .boolean) :: ([.methodLink RX4 107 yX4_isWord, .instanceMethod yX4_isWord, .selects RX4 yX4_isWord yX4_isWord, .initialized RX4, .code yX4_isWord cX4_isWord 3 (some .boolean), .methodLink RX4 140 yJ0_length_8abf5, .instanceMethod yJ0_length_8abf5, .selects RJ0 yJ0_length_8abf5 yJ0_length_8abf5, .initialized RJ0, .code yJ0_length_8abf5 cJ0_length_8abf5 1 (some .int), .fieldLink RJ0 9 "java/lang/String" "value" "[B", .methodLink RJ0 335 yJ0_coder_7d493, .instanceMethod yJ0_coder_7d493, .selects RJ0 yJ0_coder_7d493 yJ0_coder_7d493, .code yJ0_coder_7d493 cJ0_coder_7d493 1 (some .byte), .fieldLink RJ0 38 "java/lang/String" "COMPACT_STRINGS" "Z", .fieldLink RJ0 15 "java/lang/String" "coder" "B", .fieldLink RX4 9 "SkiShots$Reader" "text" "[B", .fieldLink RX4 54 "SkiShots$Reader" "place" "I", .methodLink RX4 145 yJ0_charAt_5068e, .instanceMethod yJ0_charAt_5068e, .selects RJ0 yJ0_charAt_5068e yJ0_charAt_5068e, .code yJ0_charAt_5068e cJ0_charAt_5068e 2 (some .char), .methodLink RJ0 492 yJ0_isLatin1_aae02, .instanceMethod yJ0_isLatin1_aae02, .selects RJ0 yJ0_isLatin1_aae02 yJ0_isLatin1_aae02, .code yJ0_isLatin1_aae02 cJ0_isLatin1_aae02 1 (some .boolean), .methodLink RJ0 495 yJ1_charAt_3b067, .static yJ1_charAt_3b067, .initialized RJ1, .code yJ1_charAt_3b067 cJ1_charAt_3b067 2 (some .char), .methodLink RJ1 9 yJ0_checkIndex_df160, .static yJ0_checkIndex_df160, .code yJ0_checkIndex_df160 cJ0_checkIndex_df160 2 none, .fieldLink RJ0 1053 "jdk/internal/util/Preconditions" "SIOOBE_FORMATTER" "Ljava/util/function/BiFunction;", .methodLink RJ0 1059 yJ3_checkIndex_8e157, .static yJ3_checkIndex_8e157, .initialized RJ3, .code yJ3_checkIndex_8e157 cJ3_checkIndex_8e157 3 (some .int), .fieldLink RX4 37 "SkiShots$Reader" "sort" "I", .fieldLink RX4 133 "SkiShots$Reader" "behind" "I", .methodLink RX4 34 yX4_step, .instanceMethod yX4_step, .selects RX4 yX4_step yX4_step, .code yX4_step cX4_step 1 none, .fieldLink RX4 21 "SkiShots$Reader" "length" "I", .methodLink RX4 149 yX4_sortAt, .instanceMethod yX4_sortAt, .selects RX4 yX4_sortAt yX4_sortAt, .code yX4_sortAt cX4_sortAt 3 (some .int), .methodLink RX4 15 Lib.Math.min.name, .static Lib.Math.min.name, .initialized "java/lang/Math", .code Lib.Math.min.name Lib.Math.min.code 2 (some .int), .methodLink RX4 44 yX4_fail, .instanceMethod yX4_fail, .selects RX4 yX4_fail yX4_fail, .code yX4_fail cX4_fail 2 (some .boolean), .fieldLink RX4 137 "SkiShots$Reader" "fault" "I", .fieldLink RX4 31 "SkiShots$Reader" "faultPlace" "I"] ++ wsX40)
set_option maxRecDepth 20000 in
theorem gz_X4_readWord_X4_isWord_1 : GoodIn w5X4_readWord (wsV RX4 107 RX4 yX4_isWord w5X4_isWord) := goodIn_p _ [5, 10, 15, 23, 27, 31, 34, 39] rfl (by decide +kernel)
set_option maxRecDepth 20000 in
theorem gz_X4_readWord_X4_step_10 : GoodIn w5X4_readWord (wsV RX4 34 RX4 yX4_step w5X4_step) := goodIn_p _ [45, 50, 54] rfl (by decide +kernel)
set_option maxRecDepth 20000 in
theorem gz_X4_readWord_X4_fail_20 : GoodIn w5X4_readWord (wsV RX4 44 RX4 yX4_fail w4X4_fail) := goodIn_p _ [58] rfl (by decide +kernel)
set_option maxHeartbeats 4000000 in
set_option maxRecDepth 100000 in
theorem h5_X4_readWord (l : Launch) (D : va_G) (cA : Nat → ClassId) (ad av : Nat → Nat) (L : List Nat) (K : Nat → Nat) (I : Nat → Nat → Int32) (O : Nat → Nat → Option Nat) (sz : Nat) (x0 : Nat) (si : Nat) (hI : cI L K I O) (mx0 : x0 ∈ L) (kx0 : K x0 = 4) (hsi : si < 11) (kz : Nat → Nat) (nz : Nat) (xz : Nat) (htx : zTx kz nz I O x0) (hat : (I x0 7).toInt = (ztp kz xz : Int) ∧ (I x0 8).toInt = (zty kz nz xz : Int) ∧ (I x0 6).toInt = zso kz nz (ztp kz xz)) (hrp : (I x0 6).toInt = 0 ∨ (I x0 7).toInt ≤ 999) : Met l yX4_readWord w5X4_readWord ({ frames := 5, cells := 0, slots := 0, locals := 107 }) (cPre D cA ad av L K I O sz [.ref x0, .ref (ad si)]) (cQi D cA L K I O sz [] [(4, 4), (4, 5), (4, 6), (4, 7), (4, 8)] [] (fun r L' K' I' O' => ((I' x0 6).toInt = 0 ∨ (I' x0 7).toInt ≤ 999) ∧ ((r.toInt = 1 ∧ zW kz nz xz (zwl si) ∧ (I' x0 7).toInt = (ztp kz (zty kz nz xz) : Int) ∧ (I' x0 8).toInt = (zty kz nz (zty kz nz xz) : Int) ∧ (I' x0 6).toInt = zso kz nz (ztp kz (zty kz nz xz))) ∨ (r.toInt = 0 ∧ ¬ zW kz nz xz (zwl si))))) 0 0 (va_A (cW cA L K I O) sz) := by
  refine cr_met (own := RX4) (xs := []) (WI := [(4, 4), (4, 5), (4, 6), (4, 7), (4, 8)]) (WO := []) (cc := cX4_readWord) (maxL := 2) (ret := (some .boolean)) (by decide) rfl rfl (Nat.le_of_ble_eq_true rfl) hI ?_
  intro p e s m args below meth c ls E hV hml hr hlk hname hsz hA hM hl
  have hx := E.1
  have hb := E.2.1
  have hts := E.2.2.1
  have hown := E.2.2.2.1
  have hl : lv_has ls 2 [(0, .ref x0), (1, .ref (ad si))] := hl
  have hin4 : ∀ w ∈ wsX40, w ∈ w5X4_readWord := by decide +kernel
  refine lv_aload_n hx hb dX4_readWord_0 rfl (lv_at hl 0 rfl) ?_
  refine lv_aload_n hx hb dX4_readWord_1 rfl (lv_at hl 1 rfl) ?_
  have b_2 : 0 ≤ (I x0 7).toInt ∧ (I x0 7).toInt ≤ 1000 := hM.ib mx0 kx0 7 rfl
  have b_3 : 0 ≤ (I x0 8).toInt ∧ (I x0 8).toInt ≤ 1000 := hM.ib mx0 kx0 8 rfl
  have b_4 : 0 ≤ (I x0 6).toInt ∧ (I x0 6).toInt ≤ 4 := hM.ib mx0 kx0 6 rfl
  refine cc_Vip (vs := [.ref (ad si)]) (rest := []) (b := x0) (κ := 4) E hV rfl hA hml hM mx0 kx0 rfl rfl (h5_X4_isWord l D cA ad av L K I O _ x0 si hM.2.2.2.1 mx0 kx0 hsi kz nz xz (zTx_fr htx hI mx0 kx0 hM.2.2.2.2 rfl rfl rfl) (show (I x0 7).toInt = (ztp kz xz : Int) ∧ (I x0 8).toInt = (zty kz nz xz : Int) ∧ (I x0 6).toInt = zso kz nz (ztp kz xz) from ⟨by omega, by omega, by omega⟩)) (cwV 1 hts gz_X4_readWord_X4_isWord_1 rfl rfl rfl (by decide +kernel) ⟨Nat.le_of_ble_eq_true rfl, Nat.le_of_ble_eq_true rfl⟩) rfl hl.1 rfl (Nat.le_of_ble_eq_true rfl) dX4_readWord_2 ⟨show (0 : Nat) ≤ 0 from by omega, show (0 : Nat) ≤ 0 from by omega⟩ (fun r_5 H locs p_6 hM => ?_)
  replace p_6 : (r_5.toInt = 1 ∧ zW kz nz xz (zwl si)) ∨ (r_5.toInt = 0 ∧ ¬ zW kz nz xz (zwl si)) := p_6
  rcases p_6 with ⟨hr_8, w_8⟩ | ⟨hr_8, w_8⟩
  · refine mm_if_ne (X := r_5.toInt) (tgt := 14) hx hb dX4_readWord_5 (by decide) rfl (fun c_9 => ?_) (fun c_9 => False.elim (by omega))
    refine lv_aload_n hx hb dX4_readWord_14 rfl (lv_at hl 0 rfl) ?_
    refine cc_Vv (vs := []) (rest := []) (b := x0) (κ := 4) E hV rfl hA hml hM mx0 kx0 rfl rfl (h5_X4_step l D cA ad av L K I O _ x0 hM.2.2.2.1 mx0 kx0 kz nz (zty kz nz xz) (zTx_fr htx hI mx0 kx0 hM.2.2.2.2 rfl rfl rfl) (show (I x0 8).toInt = ((zty kz nz xz) : Int) from by omega)) (cwV 0 hts gz_X4_readWord_X4_step_10 rfl rfl rfl (by decide +kernel) ⟨Nat.le_of_ble_eq_true rfl, Nat.le_of_ble_eq_true rfl⟩) rfl hl.1 rfl (Nat.le_of_ble_eq_true rfl) dX4_readWord_15 ⟨show (0 + 0 : Nat) ≤ 0 from by omega, show (0 + 0 : Nat) ≤ 0 from by omega⟩ (fun _ h => by cases h) (by decide) (by decide) (fun L_13 K_13 I_13 O_13 H locs fr_13 p_12 hM => ?_)
    have m_14 := (fr_13 x0 mx0 (fun z => by cases z)).1
    have k_14 : K_13 x0 = 4 := (fr_13 x0 mx0 (fun z => by cases z)).2.1.trans kx0
    replace p_12 : ((I_13 x0 6).toInt = 0 ∨ (I_13 x0 7).toInt ≤ 999) ∧ (I_13 x0 7).toInt = (ztp kz (zty kz nz xz) : Int) ∧ (I_13 x0 8).toInt = (zty kz nz (zty kz nz xz) : Int) ∧ (I_13 x0 6).toInt = zso kz nz (ztp kz (zty kz nz xz)) := p_12
    rcases p_12 with ⟨hrp_15, a1_15, a2_15, a3_15⟩
    refine lv_iconst (v := 1) hx hb dX4_readWord_18 (by decide) ?_
    have b_16 : 0 ≤ (I_13 x0 6).toInt ∧ (I_13 x0 6).toInt ≤ 4 := hM.ib m_14 k_14 6 rfl
    have b_17 : 0 ≤ (I_13 x0 7).toInt ∧ (I_13 x0 7).toInt ≤ 1000 := hM.ib m_14 k_14 7 rfl
    have b_18 : 0 ≤ (I_13 x0 8).toInt ∧ (I_13 x0 8).toInt ≤ 1000 := hM.ib m_14 k_14 8 rfl
    exact cr_rz (mc := 0) (ms := 0) (X := 1) E hr hlk hsz hM ⟨show (0 : Nat) ≤ 0 from by omega, show (0 : Nat) ≤ 0 from by omega⟩ num_1 (by omega) (show ((I_13 x0 6).toInt = 0 ∨ (I_13 x0 7).toInt ≤ 999) ∧ (((1 : Int32).toInt = 1 ∧ zW kz nz xz (zwl si) ∧ (I_13 x0 7).toInt = (ztp kz (zty kz nz xz) : Int) ∧ (I_13 x0 8).toInt = (zty kz nz (zty kz nz xz) : Int) ∧ (I_13 x0 6).toInt = zso kz nz (ztp kz (zty kz nz xz))) ∨ ((1 : Int32).toInt = 0 ∧ ¬ zW kz nz xz (zwl si))) from by have n9 := num_1; exact ⟨by omega, Or.inl ⟨by omega, w_8, by omega, by omega, by omega⟩⟩) dX4_readWord_19
  · refine mm_if_ne (X := r_5.toInt) (tgt := 14) hx hb dX4_readWord_5 (by decide) rfl (fun c_19 => False.elim (by omega)) (fun c_19 => ?_)
    refine lv_aload_n hx hb dX4_readWord_8 rfl (lv_at hl 0 rfl) ?_
    refine lv_iconst (v := 1) hx hb dX4_readWord_9 (by decide) ?_
    refine cc_Vi (vs := [.int 1]) (rest := []) (b := x0) (κ := 4) E hV rfl hA hml hM mx0 kx0 rfl rfl (h4_X4_fail l D cA ad av L K I O _ x0 1 hM.2.2.2.1 mx0 kx0) (cwV 1 hts gz_X4_readWord_X4_fail_20 rfl rfl rfl (by decide +kernel) ⟨Nat.le_of_ble_eq_true rfl, Nat.le_of_ble_eq_true rfl⟩) rfl hl.1 rfl (Nat.le_of_ble_eq_true rfl) dX4_readWord_10 ⟨show (0 + 0 : Nat) ≤ 0 from by omega, show (0 + 0 : Nat) ≤ 0 from by omega⟩ (fun _ h => by cases h) (by decide) (by decide) (fun r_21 L_23 K_23 I_23 O_23 H locs fr_23 p_22 hM => ?_)
    have m_24 := (fr_23 x0 mx0 (fun z => by cases z)).1
    have k_24 : K_23 x0 = 4 := (fr_23 x0 mx0 (fun z => by cases z)).2.1.trans kx0
    replace p_22 : r_21.toInt = 0 := p_22
    have b_25 : 0 ≤ (I_23 x0 6).toInt ∧ (I_23 x0 6).toInt ≤ 4 := hM.ib m_24 k_24 6 rfl
    have e_26 : (I_23 x0 6).toInt = (I x0 6).toInt := congrArg Int32.toInt ((fr_23 x0 mx0 (fun z => by cases z)).2.2.1 6 (by rw [kx0]; rfl))
    have b_27 : 0 ≤ (I_23 x0 7).toInt ∧ (I_23 x0 7).toInt ≤ 1000 := hM.ib m_24 k_24 7 rfl
    have e_28 : (I_23 x0 7).toInt = (I x0 7).toInt := congrArg Int32.toInt ((fr_23 x0 mx0 (fun z => by cases z)).2.2.1 7 (by rw [kx0]; rfl))
    have b_29 : 0 ≤ (I_23 x0 8).toInt ∧ (I_23 x0 8).toInt ≤ 1000 := hM.ib m_24 k_24 8 rfl
    have e_30 : (I_23 x0 8).toInt = (I x0 8).toInt := congrArg Int32.toInt ((fr_23 x0 mx0 (fun z => by cases z)).2.2.1 8 (by rw [kx0]; rfl))
    exact cr_rz (mc := 0) (ms := 0) (X := r_21.toInt) E hr hlk hsz hM ⟨show (0 : Nat) ≤ 0 from by omega, show (0 : Nat) ≤ 0 from by omega⟩ rfl (by omega) (show ((I_23 x0 6).toInt = 0 ∨ (I_23 x0 7).toInt ≤ 999) ∧ ((r_21.toInt = 1 ∧ zW kz nz xz (zwl si) ∧ (I_23 x0 7).toInt = (ztp kz (zty kz nz xz) : Int) ∧ (I_23 x0 8).toInt = (zty kz nz (zty kz nz xz) : Int) ∧ (I_23 x0 6).toInt = zso kz nz (ztp kz (zty kz nz xz))) ∨ (r_21.toInt = 0 ∧ ¬ zW kz nz xz (zwl si))) from by exact ⟨by omega, Or.inr ⟨by omega, w_8⟩⟩) dX4_readWord_13
def w5X4_readSign : List Cond := .code yX4_readSign cX4_readSign 2 (some .boolean) :: ([.fieldLink RX4 37 "SkiShots$Reader" "sort" "I", .methodLink RX4 44 yX4_fail, .instanceMethod yX4_fail, .selects RX4 yX4_fail yX4_fail, .initialized RX4, .code yX4_fail cX4_fail 2 (some .boolean), .fieldLink RX4 137 "SkiShots$Reader" "fault" "I", .fieldLink RX4 54 "SkiShots$Reader" "place" "I", .fieldLink RX4 31 "SkiShots$Reader" "faultPlace" "I", .fieldLink RX4 9 "SkiShots$Reader" "text" "[B", .methodLink RX4 34 yX4_step, .instanceMethod yX4_step, .selects RX4 yX4_step yX4_step, .code yX4_step cX4_step 1 none, .fieldLink RX4 133 "SkiShots$Reader" "behind" "I", .fieldLink RX4 21 "SkiShots$Reader" "length" "I", .methodLink RX4 149 yX4_sortAt, .instanceMethod yX4_sortAt, .selects RX4 yX4_sortAt yX4_sortAt, .code yX4_sortAt cX4_sortAt 3 (some .int), .methodLink RX4 15 Lib.Math.min.name, .static Lib.Math.min.name, .initialized "java/lang/Math", .code Lib.Math.min.name Lib.Math.min.code 2 (some .int)] ++ wsX40)
set_option maxRecDepth 20000 in
theorem gz_X4_readSign_X4_fail_3 : GoodIn w5X4_readSign (wsV RX4 44 RX4 yX4_fail w4X4_fail) := goodIn_p _ [6] rfl (by decide +kernel)
set_option maxRecDepth 20000 in
theorem gz_X4_readSign_X4_step_17 : GoodIn w5X4_readSign (wsV RX4 34 RX4 yX4_step w5X4_step) := goodIn_p _ [14, 20, 24] rfl (by decide +kernel)
set_option maxRecDepth 20000 in
theorem gz_X4_readSign_X4_fail_28 : GoodIn w5X4_readSign (wsV RX4 44 RX4 yX4_fail w4X4_fail) := goodIn_p _ [6] rfl (by decide +kernel)
set_option maxHeartbeats 4000000 in
set_option maxRecDepth 100000 in
theorem h5_X4_readSign (l : Launch) (D : va_G) (cA : Nat → ClassId) (ad av : Nat → Nat) (L : List Nat) (K : Nat → Nat) (I : Nat → Nat → Int32) (O : Nat → Nat → Option Nat) (sz : Nat) (x0 : Nat) (p0 : Int32) (hI : cI L K I O) (mx0 : x0 ∈ L) (kx0 : K x0 = 4) (kz : Nat → Nat) (nz : Nat) (xz : Nat) (htx : zTx kz nz I O x0) (hat : (I x0 7).toInt = (ztp kz xz : Int) ∧ (I x0 8).toInt = (zty kz nz xz : Int) ∧ (I x0 6).toInt = zso kz nz (ztp kz xz)) (hrp : (I x0 6).toInt = 0 ∨ (I x0 7).toInt ≤ 999) (kc : p0.toInt = 59 ∨ p0.toInt = 123 ∨ p0.toInt = 125) : Met l yX4_readSign w5X4_readSign ({ frames := 2, cells := 0, slots := 0, locals := 44 }) (cPre D cA ad av L K I O sz [.ref x0, .int p0]) (cQi D cA L K I O sz [] [(4, 4), (4, 5), (4, 6), (4, 7), (4, 8)] [] (fun r L' K' I' O' => ((I' x0 6).toInt = 0 ∨ (I' x0 7).toInt ≤ 999) ∧ ((r.toInt = 1 ∧ zS kz nz xz p0.toInt.toNat ∧ (I' x0 7).toInt = (ztp kz (zty kz nz xz) : Int) ∧ (I' x0 8).toInt = (zty kz nz (zty kz nz xz) : Int) ∧ (I' x0 6).toInt = zso kz nz (ztp kz (zty kz nz xz))) ∨ (r.toInt = 0 ∧ ¬ zS kz nz xz p0.toInt.toNat)))) 0 0 (va_A (cW cA L K I O) sz) := by
  refine cr_met (own := RX4) (xs := []) (WI := [(4, 4), (4, 5), (4, 6), (4, 7), (4, 8)]) (WO := []) (cc := cX4_readSign) (maxL := 2) (ret := (some .boolean)) (by decide) rfl rfl (Nat.le_of_ble_eq_true rfl) hI ?_
  intro p e s m args below meth c ls E hV hml hr hlk hname hsz hA hM hl
  have hx := E.1
  have hb := E.2.1
  have hts := E.2.2.1
  have hown := E.2.2.2.1
  have hl : lv_has ls 2 [(0, .ref x0), (1, .int p0)] := hl
  have hin4 : ∀ w ∈ wsX40, w ∈ w5X4_readSign := by decide +kernel
  have hnz := zTx_n htx
  have hou := zTx_out htx
  refine lv_aload_n hx hb dX4_readSign_0 rfl (lv_at hl 0 rfl) ?_
  have b_1 : 0 ≤ (I x0 6).toInt ∧ (I x0 6).toInt ≤ 4 := hM.ib mx0 kx0 6 rfl
  refine cr_get (κ := 4) (ci := 4) (k := 6) (C := RX4) (T := TX4) (N := 10) (fs := cfs 4) (v := .int (I x0 6)) E hM mx0 kx0 (fun _ _ => rfl) rfl hin4 (by decide) (index := 37) (mm_at 1 rfl) rfl rfl dX4_readSign_1 ?_
  refine lv_iconst (v := 3) hx hb dX4_readSign_4 (by decide) ?_
  refine mm_icmp_ne (X := (I x0 6).toInt) (Y := 3) (tgt := 21) hx hb dX4_readSign_5 (by decide) rfl num_3 (fun c_2 => ?_) (fun c_2 => ?_)
  · refine lv_aload_n hx hb dX4_readSign_21 rfl (lv_at hl 0 rfl) ?_
    refine lv_iconst (v := 1) hx hb dX4_readSign_22 (by decide) ?_
    refine cc_Vi (vs := [.int 1]) (rest := []) (b := x0) (κ := 4) E hV rfl hA hml hM mx0 kx0 rfl rfl (h4_X4_fail l D cA ad av L K I O _ x0 1 hM.2.2.2.1 mx0 kx0) (cwV 1 hts gz_X4_readSign_X4_fail_3 rfl rfl rfl (by decide +kernel) ⟨Nat.le_of_ble_eq_true rfl, Nat.le_of_ble_eq_true rfl⟩) rfl hl.1 rfl (Nat.le_of_ble_eq_true rfl) dX4_readSign_23 ⟨show (0 + 0 : Nat) ≤ 0 from by omega, show (0 + 0 : Nat) ≤ 0 from by omega⟩ (fun _ h => by cases h) (by decide) (by decide) (fun r_4 L_6 K_6 I_6 O_6 H locs fr_6 p_5 hM => ?_)
    have m_7 := (fr_6 x0 mx0 (fun z => by cases z)).1
    have k_7 : K_6 x0 = 4 := (fr_6 x0 mx0 (fun z => by cases z)).2.1.trans kx0
    replace p_5 : r_4.toInt = 0 := p_5
    have b_8 : 0 ≤ (I_6 x0 6).toInt ∧ (I_6 x0 6).toInt ≤ 4 := hM.ib m_7 k_7 6 rfl
    have e_9 : (I_6 x0 6).toInt = (I x0 6).toInt := congrArg Int32.toInt ((fr_6 x0 mx0 (fun z => by cases z)).2.2.1 6 (by rw [kx0]; rfl))
    have b_10 : 0 ≤ (I_6 x0 7).toInt ∧ (I_6 x0 7).toInt ≤ 1000 := hM.ib m_7 k_7 7 rfl
    have e_11 : (I_6 x0 7).toInt = (I x0 7).toInt := congrArg Int32.toInt ((fr_6 x0 mx0 (fun z => by cases z)).2.2.1 7 (by rw [kx0]; rfl))
    have b_12 : 0 ≤ (I_6 x0 8).toInt ∧ (I_6 x0 8).toInt ≤ 1000 := hM.ib m_7 k_7 8 rfl
    have e_13 : (I_6 x0 8).toInt = (I x0 8).toInt := congrArg Int32.toInt ((fr_6 x0 mx0 (fun z => by cases z)).2.2.1 8 (by rw [kx0]; rfl))
    exact cr_rz (mc := 0) (ms := 0) (X := r_4.toInt) E hr hlk hsz hM ⟨show (0 : Nat) ≤ 0 from by omega, show (0 : Nat) ≤ 0 from by omega⟩ rfl (by omega) (show ((I_6 x0 6).toInt = 0 ∨ (I_6 x0 7).toInt ≤ 999) ∧ ((r_4.toInt = 1 ∧ zS kz nz xz p0.toInt.toNat ∧ (I_6 x0 7).toInt = (ztp kz (zty kz nz xz) : Int) ∧ (I_6 x0 8).toInt = (zty kz nz (zty kz nz xz) : Int) ∧ (I_6 x0 6).toInt = zso kz nz (ztp kz (zty kz nz xz))) ∨ (r_4.toInt = 0 ∧ ¬ zS kz nz xz p0.toInt.toNat)) from by exact ⟨by omega, Or.inr ⟨by omega, fun h => by have h3 := zS_3 h (by omega); omega⟩⟩) dX4_readSign_26
  · refine lv_aload_n hx hb dX4_readSign_8 rfl (lv_at hl 0 rfl) ?_
    obtain ⟨x_14, o_14, m_14, k_14⟩ := hM.nn mx0 kx0 0 (κ' := 10) rfl rfl
    refine cr_get (κ := 4) (ci := 4) (k := 0) (C := RX4) (T := TX4) (N := 10) (fs := cfs 4) (v := .ref x_14) E hM mx0 kx0 (fun _ _ => rfl) rfl hin4 (by decide) (index := 9) (mm_at 10 rfl) rfl (by show some (va_rf (O x0 0)) = some (.ref x_14); rw [o_14]; rfl) dX4_readSign_9 ?_
    refine lv_aload_n hx hb dX4_readSign_12 rfl (lv_at hl 0 rfl) ?_
    have b_15 : 0 ≤ (I x0 7).toInt ∧ (I x0 7).toInt ≤ 1000 := hM.ib mx0 kx0 7 rfl
    refine cr_get (κ := 4) (ci := 4) (k := 7) (C := RX4) (T := TX4) (N := 10) (fs := cfs 4) (v := .int (I x0 7)) E hM mx0 kx0 (fun _ _ => rfl) rfl hin4 (by decide) (index := 54) (mm_at 8 rfl) rfl rfl dX4_readSign_13 ?_
    refine cr_bald (κ := 10) (t0 := 0) (X := (I x0 7).toInt) E hM m_14 k_14 (fun _ _ => rfl) rfl rfl (by omega) dX4_readSign_16 ?_
    refine lv_iload_n hx hb dX4_readSign_17 rfl (lv_at hl 1 rfl) ?_
    refine mm_icmp_eq (X := (I x_14 (Int32.toNatClampNeg (I x0 7))).toInt) (Y := p0.toInt) (tgt := 27) hx hb dX4_readSign_18 (by decide) rfl rfl (fun c_16 => ?_) (fun c_16 => ?_)
    · refine lv_aload_n hx hb dX4_readSign_27 rfl (lv_at hl 0 rfl) ?_
      have b_18 : 0 ≤ (I x0 8).toInt ∧ (I x0 8).toInt ≤ 1000 := hM.ib mx0 kx0 8 rfl
      refine cc_Vv (vs := []) (rest := []) (b := x0) (κ := 4) E hV rfl hA hml hM mx0 kx0 rfl rfl (h5_X4_step l D cA ad av L K I O _ x0 hM.2.2.2.1 mx0 kx0 kz nz (zty kz nz xz) (zTx_fr htx hI mx0 kx0 hM.2.2.2.2 rfl rfl rfl) (show (I x0 8).toInt = ((zty kz nz xz) : Int) from by omega)) (cwV 0 hts gz_X4_readSign_X4_step_17 rfl rfl rfl (by decide +kernel) ⟨Nat.le_of_ble_eq_true rfl, Nat.le_of_ble_eq_true rfl⟩) rfl hl.1 rfl (Nat.le_of_ble_eq_true rfl) dX4_readSign_28 ⟨show (0 + 0 : Nat) ≤ 0 from by omega, show (0 + 0 : Nat) ≤ 0 from by omega⟩ (fun _ h => by cases h) (by decide) (by decide) (fun L_21 K_21 I_21 O_21 H locs fr_21 p_20 hM => ?_)
      have m_22 := (fr_21 x0 mx0 (fun z => by cases z)).1
      have k_22 : K_21 x0 = 4 := (fr_21 x0 mx0 (fun z => by cases z)).2.1.trans kx0
      have m_23 := (fr_21 x_14 m_14 (fun z => by cases z)).1
      have k_23 : K_21 x_14 = 10 := (fr_21 x_14 m_14 (fun z => by cases z)).2.1.trans k_14
      replace p_20 : ((I_21 x0 6).toInt = 0 ∨ (I_21 x0 7).toInt ≤ 999) ∧ (I_21 x0 7).toInt = (ztp kz (zty kz nz xz) : Int) ∧ (I_21 x0 8).toInt = (zty kz nz (zty kz nz xz) : Int) ∧ (I_21 x0 6).toInt = zso kz nz (ztp kz (zty kz nz xz)) := p_20
      rcases p_20 with ⟨hrp_24, a1_24, a2_24, a3_24⟩
      refine lv_iconst (v := 1) hx hb dX4_readSign_31 (by decide) ?_
      have b_25 : 0 ≤ (I_21 x0 6).toInt ∧ (I_21 x0 6).toInt ≤ 4 := hM.ib m_22 k_22 6 rfl
      have b_26 : 0 ≤ (I_21 x0 7).toInt ∧ (I_21 x0 7).toInt ≤ 1000 := hM.ib m_22 k_22 7 rfl
      have b_27 : 0 ≤ (I_21 x0 8).toInt ∧ (I_21 x0 8).toInt ≤ 1000 := hM.ib m_22 k_22 8 rfl
      exact cr_rz (mc := 0) (ms := 0) (X := 1) E hr hlk hsz hM ⟨show (0 : Nat) ≤ 0 from by omega, show (0 : Nat) ≤ 0 from by omega⟩ num_1 (by omega) (show ((I_21 x0 6).toInt = 0 ∨ (I_21 x0 7).toInt ≤ 999) ∧ (((1 : Int32).toInt = 1 ∧ zS kz nz xz p0.toInt.toNat ∧ (I_21 x0 7).toInt = (ztp kz (zty kz nz xz) : Int) ∧ (I_21 x0 8).toInt = (zty kz nz (zty kz nz xz) : Int) ∧ (I_21 x0 6).toInt = zso kz nz (ztp kz (zty kz nz xz))) ∨ ((1 : Int32).toInt = 0 ∧ ¬ zS kz nz xz p0.toInt.toNat)) from by have n9 := num_1; exact ⟨by omega, Or.inl ⟨by omega, ⟨((zso_3 (k := kz) (n := nz) (p := ztp kz xz)).mp (by omega)).1, (zTx_at htx o_14 (by omega)).mpr ⟨((zso_3 (k := kz) (n := nz) (p := ztp kz xz)).mp (by omega)).1, by rw [show ztp kz xz = Int32.toNatClampNeg (I x0 7) from by rw [mm_nat]; omega]; omega⟩⟩, by omega, by omega, by omega⟩⟩) dX4_readSign_32
    · refine lv_aload_n hx hb dX4_readSign_21 rfl (lv_at hl 0 rfl) ?_
      refine lv_iconst (v := 1) hx hb dX4_readSign_22 (by decide) ?_
      refine cc_Vi (vs := [.int 1]) (rest := []) (b := x0) (κ := 4) E hV rfl hA hml hM mx0 kx0 rfl rfl (h4_X4_fail l D cA ad av L K I O _ x0 1 hM.2.2.2.1 mx0 kx0) (cwV 1 hts gz_X4_readSign_X4_fail_28 rfl rfl rfl (by decide +kernel) ⟨Nat.le_of_ble_eq_true rfl, Nat.le_of_ble_eq_true rfl⟩) rfl hl.1 rfl (Nat.le_of_ble_eq_true rfl) dX4_readSign_23 ⟨show (0 + 0 : Nat) ≤ 0 from by omega, show (0 + 0 : Nat) ≤ 0 from by omega⟩ (fun _ h => by cases h) (by decide) (by decide) (fun r_29 L_31 K_31 I_31 O_31 H locs fr_31 p_30 hM => ?_)
      have m_32 := (fr_31 x0 mx0 (fun z => by cases z)).1
      have k_32 : K_31 x0 = 4 := (fr_31 x0 mx0 (fun z => by cases z)).2.1.trans kx0
      have m_33 := (fr_31 x_14 m_14 (fun z => by cases z)).1
      have k_33 : K_31 x_14 = 10 := (fr_31 x_14 m_14 (fun z => by cases z)).2.1.trans k_14
      replace p_30 : r_29.toInt = 0 := p_30
      have b_34 : 0 ≤ (I_31 x0 6).toInt ∧ (I_31 x0 6).toInt ≤ 4 := hM.ib m_32 k_32 6 rfl
      have e_35 : (I_31 x0 6).toInt = (I x0 6).toInt := congrArg Int32.toInt ((fr_31 x0 mx0 (fun z => by cases z)).2.2.1 6 (by rw [kx0]; rfl))
      have b_36 : 0 ≤ (I_31 x0 7).toInt ∧ (I_31 x0 7).toInt ≤ 1000 := hM.ib m_32 k_32 7 rfl
      have e_37 : (I_31 x0 7).toInt = (I x0 7).toInt := congrArg Int32.toInt ((fr_31 x0 mx0 (fun z => by cases z)).2.2.1 7 (by rw [kx0]; rfl))
      have b_38 : 0 ≤ (I_31 x0 8).toInt ∧ (I_31 x0 8).toInt ≤ 1000 := hM.ib m_32 k_32 8 rfl
      have e_39 : (I_31 x0 8).toInt = (I x0 8).toInt := congrArg Int32.toInt ((fr_31 x0 mx0 (fun z => by cases z)).2.2.1 8 (by rw [kx0]; rfl))
      exact cr_rz (mc := 0) (ms := 0) (X := r_29.toInt) E hr hlk hsz hM ⟨show (0 : Nat) ≤ 0 from by omega, show (0 : Nat) ≤ 0 from by omega⟩ rfl (by omega) (show ((I_31 x0 6).toInt = 0 ∨ (I_31 x0 7).toInt ≤ 999) ∧ ((r_29.toInt = 1 ∧ zS kz nz xz p0.toInt.toNat ∧ (I_31 x0 7).toInt = (ztp kz (zty kz nz xz) : Int) ∧ (I_31 x0 8).toInt = (zty kz nz (zty kz nz xz) : Int) ∧ (I_31 x0 6).toInt = zso kz nz (ztp kz (zty kz nz xz))) ∨ (r_29.toInt = 0 ∧ ¬ zS kz nz xz p0.toInt.toNat)) from by exact ⟨by omega, Or.inr ⟨by omega, fun h => by have h2 := ((zTx_at htx o_14 (by omega)).mp h.2).2; rw [show ztp kz xz = Int32.toNatClampNeg (I x0 7) from by rw [mm_nat]; omega] at h2; omega⟩⟩) dX4_readSign_26
def w5X4_readNumber : List Cond := .code yX4_readNumber cX4_readNumber 4 (some .boolean) :: ([.fieldLink RX4 133 "SkiShots$Reader" "behind" "I", .fieldLink RX4 89 "SkiShots$Reader" "number" "I", .methodLink RX4 44 yX4_fail, .instanceMethod yX4_fail, .selects RX4 yX4_fail yX4_fail, .initialized RX4, .code yX4_fail cX4_fail 2 (some .boolean), .fieldLink RX4 137 "SkiShots$Reader" "fault" "I", .fieldLink RX4 54 "SkiShots$Reader" "place" "I", .fieldLink RX4 31 "SkiShots$Reader" "faultPlace" "I", .methodLink RX4 34 yX4_step, .instanceMethod yX4_step, .selects RX4 yX4_step yX4_step, .code yX4_step cX4_step 1 none, .fieldLink RX4 21 "SkiShots$Reader" "length" "I", .methodLink RX4 149 yX4_sortAt, .instanceMethod yX4_sortAt, .selects RX4 yX4_sortAt yX4_sortAt, .code yX4_sortAt cX4_sortAt 3 (some .int), .fieldLink RX4 9 "SkiShots$Reader" "text" "[B", .fieldLink RX4 37 "SkiShots$Reader" "sort" "I", .methodLink RX4 15 Lib.Math.min.name, .static Lib.Math.min.name, .initialized "java/lang/Math", .code Lib.Math.min.name Lib.Math.min.code 2 (some .int), .constant RX4 136 (100000)] ++ wsX40)
set_option maxRecDepth 20000 in
theorem gz_X4_readNumber_X4_fail_5 : GoodIn w5X4_readNumber (wsV RX4 44 RX4 yX4_fail w4X4_fail) := goodIn_p _ [7] rfl (by decide +kernel)
set_option maxRecDepth 20000 in
theorem gz_X4_readNumber_X4_step_18 : GoodIn w5X4_readNumber (wsV RX4 34 RX4 yX4_step w5X4_step) := goodIn_p _ [14, 19, 25] rfl (by decide +kernel)
set_option maxRecDepth 20000 in
theorem gz_X4_readNumber_X4_fail_28 : GoodIn w5X4_readNumber (wsV RX4 44 RX4 yX4_fail w4X4_fail) := goodIn_p _ [7] rfl (by decide +kernel)
set_option maxRecDepth 20000 in
theorem gz_X4_readNumber_X4_fail_64 : GoodIn w5X4_readNumber (wsV RX4 44 RX4 yX4_fail w4X4_fail) := goodIn_p _ [7] rfl (by decide +kernel)
set_option maxHeartbeats 4000000 in
set_option maxRecDepth 100000 in
theorem h5_X4_readNumber (l : Launch) (D : va_G) (cA : Nat → ClassId) (ad av : Nat → Nat) (L : List Nat) (K : Nat → Nat) (I : Nat → Nat → Int32) (O : Nat → Nat → Option Nat) (sz : Nat) (x0 : Nat) (p0 : Int32) (p1 : Int32) (hI : cI L K I O) (mx0 : x0 ∈ L) (kx0 : K x0 = 4) (kz : Nat → Nat) (nz : Nat) (xz : Nat) (htx : zTx kz nz I O x0) (hat : (I x0 7).toInt = (ztp kz xz : Int) ∧ (I x0 8).toInt = (zty kz nz xz : Int) ∧ (I x0 6).toInt = zso kz nz (ztp kz xz)) (hrp : (I x0 6).toInt = 0 ∨ (I x0 7).toInt ≤ 999) (kl : 0 ≤ p0.toInt ∧ p0.toInt ≤ 100000) (kh : p1.toInt ≤ 99999) : Met l yX4_readNumber w5X4_readNumber ({ frames := 2, cells := 0, slots := 0, locals := 44 }) (cPre D cA ad av L K I O sz [.ref x0, .int p0, .int p1]) (cQi D cA L K I O sz [] [(4, 4), (4, 5), (4, 6), (4, 7), (4, 8), (4, 9)] [] (fun r L' K' I' O' => ((I' x0 6).toInt = 0 ∨ (I' x0 7).toInt ≤ 999) ∧ ((r.toInt = 1 ∧ zN kz nz xz p0.toInt p1.toInt (I' x0 9).toInt ∧ (I' x0 7).toInt = (ztp kz (zty kz nz xz) : Int) ∧ (I' x0 8).toInt = (zty kz nz (zty kz nz xz) : Int) ∧ (I' x0 6).toInt = zso kz nz (ztp kz (zty kz nz xz))) ∨ (r.toInt = 0 ∧ ∀ v : Int, ¬ zN kz nz xz p0.toInt p1.toInt v)))) 0 0 (va_A (cW cA L K I O) sz) := by
  refine cr_met (own := RX4) (xs := []) (WI := [(4, 4), (4, 5), (4, 6), (4, 7), (4, 8), (4, 9)]) (WO := []) (cc := cX4_readNumber) (maxL := 4) (ret := (some .boolean)) (by decide) rfl rfl (Nat.le_of_ble_eq_true rfl) hI ?_
  intro p e s m args below meth c ls E hV hml hr hlk hname hsz hA hM hl
  have hx := E.1
  have hb := E.2.1
  have hts := E.2.2.1
  have hown := E.2.2.2.1
  have hl : lv_has ls 4 [(0, .ref x0), (1, .int p0), (2, .int p1)] := hl
  have hin4 : ∀ w ∈ wsX40, w ∈ w5X4_readNumber := by decide +kernel
  have hnz := zTx_n htx
  have hou := zTx_out htx
  have B_24 : ∀ n_24 : Nat, ∀ (H : Heap) (locs : List Loc) (ls : Array Slot) (Lc_24 : List Nat) (Kc_24 : Nat → Nat) (Ic_24 : Nat → Nat → Int32) (Oc_24 : Nat → Nat → Option Nat) (i : Int32), (0 ≤ i.toInt ∧ i.toInt ≤ 1000) → (Ic_24 x0 7).toInt = (ztp kz xz : Int) → (Ic_24 x0 8).toInt = (zty kz nz xz : Int) → (Ic_24 x0 6).toInt = zso kz nz (ztp kz xz) → zso kz nz (ztp kz xz) = 2 → (ztp kz xz : Int) ≤ i.toInt → i.toInt ≤ (zty kz nz xz : Int) → ((zval kz (ztp kz xz) (i.toInt.toNat - ztp kz xz) : Int) ≤ 100000 ∧ (Ic_24 x0 9).toInt = (zval kz (ztp kz xz) (i.toInt.toNat - ztp kz xz) : Int)) ∨ (100000 < (zval kz (ztp kz xz) (i.toInt.toNat - ztp kz xz) : Int) ∧ (Ic_24 x0 9).toInt = 100000) → (Ic_24 x0 6).toInt = 0 ∨ (Ic_24 x0 7).toInt ≤ 999 → (1000 - i.toInt) < (n_24 : Int) → cQ D cA (va_A (cW cA L K I O) sz) s.heap [] [(4, 4), (4, 5), (4, 6), (4, 7), (4, 8), (4, 9)] [] L K I O H locs Lc_24 Kc_24 Ic_24 Oc_24 → lv_has ls 4 [(0, .ref x0), (1, .int p0), (2, .int p1), (3, .int i)] → W p l e ({ frames := 2, cells := 0, slots := 0, locals := 44 }) s m args below meth c H locs 0 0 (MQ below (cQi D cA L K I O sz [] [(4, 4), (4, 5), (4, 6), (4, 7), (4, 8), (4, 9)] [] (fun r L' K' I' O' => ((I' x0 6).toInt = 0 ∨ (I' x0 7).toInt ≤ 999) ∧ ((r.toInt = 1 ∧ zN kz nz xz p0.toInt p1.toInt (I' x0 9).toInt ∧ (I' x0 7).toInt = (ztp kz (zty kz nz xz) : Int) ∧ (I' x0 8).toInt = (zty kz nz (zty kz nz xz) : Int) ∧ (I' x0 6).toInt = zso kz nz (ztp kz (zty kz nz xz))) ∨ (r.toInt = 0 ∧ ∀ v : Int, ¬ zN kz nz xz p0.toInt p1.toInt v)))) args s 0 0 (va_A (cW cA L K I O) sz)) (F0 m 24 ls []) := by
    intro n_24
    induction n_24 with
    | zero => intro H locs ls Lc_24 Kc_24 Ic_24 Oc_24 i f24_0 f24_1 f24_2 f24_3 f24_4 f24_5 f24_6 f24_7 f24_8 hn hM hl; exact False.elim (by omega)
    | succ n_24 ih_24 =>
      intro H locs ls Lc_24 Kc_24 Ic_24 Oc_24 i f24_0 f24_1 f24_2 f24_3 f24_4 f24_5 f24_6 f24_7 f24_8 hn hM hl
      have hfr_24 := hM.2.2.2.2
      have m_1 := (hfr_24 x0 mx0 (fun z => by cases z)).1
      have k_1 : Kc_24 x0 = 4 := (hfr_24 x0 mx0 (fun z => by cases z)).2.1.trans kx0
      refine lv_iload_n hx hb dX4_readNumber_24 rfl (lv_at hl 3 rfl) ?_
      refine lv_aload_n hx hb dX4_readNumber_25 rfl (lv_at hl 0 rfl) ?_
      have b_2 : 0 ≤ (Ic_24 x0 8).toInt ∧ (Ic_24 x0 8).toInt ≤ 1000 := hM.ib m_1 k_1 8 rfl
      refine cr_get (κ := 4) (ci := 4) (k := 8) (C := RX4) (T := TX4) (N := 10) (fs := cfs 4) (v := .int (Ic_24 x0 8)) E hM m_1 k_1 (fun _ _ => rfl) rfl hin4 (by decide) (index := 133) (mm_at 1 rfl) rfl rfl dX4_readNumber_26 ?_
      refine mm_icmp_ge (X := i.toInt) (Y := (Ic_24 x0 8).toInt) (tgt := 64) hx hb dX4_readNumber_29 (by decide) rfl rfl (fun c_3 => ?_) (fun c_3 => ?_)
      · have hVv : zval kz (ztp kz xz) (i.toInt.toNat - ztp kz xz) = zV kz nz xz := by
          unfold zV
          rw [show i.toInt.toNat = zty kz nz xz from by omega]
        rw [hVv] at f24_7
        refine lv_aload_n hx hb dX4_readNumber_64 rfl (lv_at hl 0 rfl) ?_
        refine cr_get (κ := 4) (ci := 4) (k := 9) (C := RX4) (T := TX4) (N := 10) (fs := cfs 4) (v := .int (Ic_24 x0 9)) E hM m_1 k_1 (fun _ _ => rfl) rfl hin4 (by decide) (index := 89) (mm_at 2 rfl) rfl rfl dX4_readNumber_65 ?_
        refine lv_iload_n hx hb dX4_readNumber_68 rfl (lv_at hl 1 rfl) ?_
        refine mm_icmp_lt (X := (Ic_24 x0 9).toInt) (Y := p0.toInt) (tgt := 80) hx hb dX4_readNumber_69 (by decide) rfl rfl (fun c_4 => ?_) (fun c_4 => ?_)
        · refine lv_aload_n hx hb dX4_readNumber_80 rfl (lv_at hl 0 rfl) ?_
          refine lv_iconst (v := 2) hx hb dX4_readNumber_81 (by decide) ?_
          refine cc_Vi (vs := [.int 2]) (rest := []) (b := x0) (κ := 4) E hV rfl hA hml hM m_1 k_1 rfl rfl (h4_X4_fail l D cA ad av Lc_24 Kc_24 Ic_24 Oc_24 _ x0 2 hM.2.2.2.1 m_1 k_1) (cwV 1 hts gz_X4_readNumber_X4_fail_5 rfl rfl rfl (by decide +kernel) ⟨Nat.le_of_ble_eq_true rfl, Nat.le_of_ble_eq_true rfl⟩) rfl hl.1 rfl (Nat.le_of_ble_eq_true rfl) dX4_readNumber_82 ⟨show (0 + 0 : Nat) ≤ 0 from by omega, show (0 + 0 : Nat) ≤ 0 from by omega⟩ (fun _ h => by cases h) (by decide) (by decide) (fun r_6 L_8 K_8 I_8 O_8 H locs fr_8 p_7 hM => ?_)
          have m_9 := (fr_8 x0 m_1 (fun z => by cases z)).1
          have k_9 : K_8 x0 = 4 := (fr_8 x0 m_1 (fun z => by cases z)).2.1.trans k_1
          replace p_7 : r_6.toInt = 0 := p_7
          have b_10 : 0 ≤ (I_8 x0 6).toInt ∧ (I_8 x0 6).toInt ≤ 4 := hM.ib m_9 k_9 6 rfl
          have e_11 : (I_8 x0 6).toInt = (Ic_24 x0 6).toInt := congrArg Int32.toInt ((fr_8 x0 m_1 (fun z => by cases z)).2.2.1 6 (by rw [k_1]; rfl))
          have b_12 : 0 ≤ (I_8 x0 7).toInt ∧ (I_8 x0 7).toInt ≤ 1000 := hM.ib m_9 k_9 7 rfl
          have e_13 : (I_8 x0 7).toInt = (Ic_24 x0 7).toInt := congrArg Int32.toInt ((fr_8 x0 m_1 (fun z => by cases z)).2.2.1 7 (by rw [k_1]; rfl))
          have e_14 : (I_8 x0 9).toInt = (Ic_24 x0 9).toInt := congrArg Int32.toInt ((fr_8 x0 m_1 (fun z => by cases z)).2.2.1 9 (by rw [k_1]; rfl))
          have b_15 : 0 ≤ (I_8 x0 8).toInt ∧ (I_8 x0 8).toInt ≤ 1000 := hM.ib m_9 k_9 8 rfl
          have e_16 : (I_8 x0 8).toInt = (Ic_24 x0 8).toInt := congrArg Int32.toInt ((fr_8 x0 m_1 (fun z => by cases z)).2.2.1 8 (by rw [k_1]; rfl))
          exact cr_rz (mc := 0) (ms := 0) (X := r_6.toInt) E hr hlk hsz hM ⟨show (0 : Nat) ≤ 0 from by omega, show (0 : Nat) ≤ 0 from by omega⟩ rfl (by omega) (show ((I_8 x0 6).toInt = 0 ∨ (I_8 x0 7).toInt ≤ 999) ∧ ((r_6.toInt = 1 ∧ zN kz nz xz p0.toInt p1.toInt (I_8 x0 9).toInt ∧ (I_8 x0 7).toInt = (ztp kz (zty kz nz xz) : Int) ∧ (I_8 x0 8).toInt = (zty kz nz (zty kz nz xz) : Int) ∧ (I_8 x0 6).toInt = zso kz nz (ztp kz (zty kz nz xz))) ∨ (r_6.toInt = 0 ∧ ∀ v : Int, ¬ zN kz nz xz p0.toInt p1.toInt v)) from by exact ⟨by omega, Or.inr ⟨by omega, fun v h => by have h2 := h.2.1; have h3 := h.2.2.1; have h4 := h.2.2.2; omega⟩⟩) dX4_readNumber_85
        · refine lv_aload_n hx hb dX4_readNumber_72 rfl (lv_at hl 0 rfl) ?_
          refine cr_get (κ := 4) (ci := 4) (k := 9) (C := RX4) (T := TX4) (N := 10) (fs := cfs 4) (v := .int (Ic_24 x0 9)) E hM m_1 k_1 (fun _ _ => rfl) rfl hin4 (by decide) (index := 89) (mm_at 2 rfl) rfl rfl dX4_readNumber_73 ?_
          refine lv_iload_n hx hb dX4_readNumber_76 rfl (lv_at hl 2 rfl) ?_
          refine mm_icmp_le (X := (Ic_24 x0 9).toInt) (Y := p1.toInt) (tgt := 86) hx hb dX4_readNumber_77 (by decide) rfl rfl (fun c_17 => ?_) (fun c_17 => ?_)
          · refine lv_aload_n hx hb dX4_readNumber_86 rfl (lv_at hl 0 rfl) ?_
            refine cc_Vv (vs := []) (rest := []) (b := x0) (κ := 4) E hV rfl hA hml hM m_1 k_1 rfl rfl (h5_X4_step l D cA ad av Lc_24 Kc_24 Ic_24 Oc_24 _ x0 hM.2.2.2.1 m_1 k_1 kz nz (zty kz nz xz) (zTx_fr htx hI mx0 kx0 hM.2.2.2.2 rfl rfl rfl) (show (Ic_24 x0 8).toInt = ((zty kz nz xz) : Int) from by omega)) (cwV 0 hts gz_X4_readNumber_X4_step_18 rfl rfl rfl (by decide +kernel) ⟨Nat.le_of_ble_eq_true rfl, Nat.le_of_ble_eq_true rfl⟩) rfl hl.1 rfl (Nat.le_of_ble_eq_true rfl) dX4_readNumber_87 ⟨show (0 + 0 : Nat) ≤ 0 from by omega, show (0 + 0 : Nat) ≤ 0 from by omega⟩ (fun _ h => by cases h) (by decide) (by decide) (fun L_21 K_21 I_21 O_21 H locs fr_21 p_20 hM => ?_)
            have m_22 := (fr_21 x0 m_1 (fun z => by cases z)).1
            have k_22 : K_21 x0 = 4 := (fr_21 x0 m_1 (fun z => by cases z)).2.1.trans k_1
            replace p_20 : ((I_21 x0 6).toInt = 0 ∨ (I_21 x0 7).toInt ≤ 999) ∧ (I_21 x0 7).toInt = (ztp kz (zty kz nz xz) : Int) ∧ (I_21 x0 8).toInt = (zty kz nz (zty kz nz xz) : Int) ∧ (I_21 x0 6).toInt = zso kz nz (ztp kz (zty kz nz xz)) := p_20
            rcases p_20 with ⟨hrp_23, a1_23, a2_23, a3_23⟩
            refine lv_iconst (v := 1) hx hb dX4_readNumber_90 (by decide) ?_
            have b_24 : 0 ≤ (I_21 x0 6).toInt ∧ (I_21 x0 6).toInt ≤ 4 := hM.ib m_22 k_22 6 rfl
            have b_25 : 0 ≤ (I_21 x0 7).toInt ∧ (I_21 x0 7).toInt ≤ 1000 := hM.ib m_22 k_22 7 rfl
            have e_26 : (I_21 x0 9).toInt = (Ic_24 x0 9).toInt := congrArg Int32.toInt ((fr_21 x0 m_1 (fun z => by cases z)).2.2.1 9 (by rw [k_1]; rfl))
            have b_27 : 0 ≤ (I_21 x0 8).toInt ∧ (I_21 x0 8).toInt ≤ 1000 := hM.ib m_22 k_22 8 rfl
            exact cr_rz (mc := 0) (ms := 0) (X := 1) E hr hlk hsz hM ⟨show (0 : Nat) ≤ 0 from by omega, show (0 : Nat) ≤ 0 from by omega⟩ num_1 (by omega) (show ((I_21 x0 6).toInt = 0 ∨ (I_21 x0 7).toInt ≤ 999) ∧ (((1 : Int32).toInt = 1 ∧ zN kz nz xz p0.toInt p1.toInt (I_21 x0 9).toInt ∧ (I_21 x0 7).toInt = (ztp kz (zty kz nz xz) : Int) ∧ (I_21 x0 8).toInt = (zty kz nz (zty kz nz xz) : Int) ∧ (I_21 x0 6).toInt = zso kz nz (ztp kz (zty kz nz xz))) ∨ ((1 : Int32).toInt = 0 ∧ ∀ v : Int, ¬ zN kz nz xz p0.toInt p1.toInt v)) from by have n9 := num_1; exact ⟨by omega, Or.inl ⟨by omega, ⟨by omega, by omega, by omega, by omega⟩, by omega, by omega, by omega⟩⟩) dX4_readNumber_91
          · refine lv_aload_n hx hb dX4_readNumber_80 rfl (lv_at hl 0 rfl) ?_
            refine lv_iconst (v := 2) hx hb dX4_readNumber_81 (by decide) ?_
            refine cc_Vi (vs := [.int 2]) (rest := []) (b := x0) (κ := 4) E hV rfl hA hml hM m_1 k_1 rfl rfl (h4_X4_fail l D cA ad av Lc_24 Kc_24 Ic_24 Oc_24 _ x0 2 hM.2.2.2.1 m_1 k_1) (cwV 1 hts gz_X4_readNumber_X4_fail_28 rfl rfl rfl (by decide +kernel) ⟨Nat.le_of_ble_eq_true rfl, Nat.le_of_ble_eq_true rfl⟩) rfl hl.1 rfl (Nat.le_of_ble_eq_true rfl) dX4_readNumber_82 ⟨show (0 + 0 : Nat) ≤ 0 from by omega, show (0 + 0 : Nat) ≤ 0 from by omega⟩ (fun _ h => by cases h) (by decide) (by decide) (fun r_29 L_31 K_31 I_31 O_31 H locs fr_31 p_30 hM => ?_)
            have m_32 := (fr_31 x0 m_1 (fun z => by cases z)).1
            have k_32 : K_31 x0 = 4 := (fr_31 x0 m_1 (fun z => by cases z)).2.1.trans k_1
            replace p_30 : r_29.toInt = 0 := p_30
            have b_33 : 0 ≤ (I_31 x0 6).toInt ∧ (I_31 x0 6).toInt ≤ 4 := hM.ib m_32 k_32 6 rfl
            have e_34 : (I_31 x0 6).toInt = (Ic_24 x0 6).toInt := congrArg Int32.toInt ((fr_31 x0 m_1 (fun z => by cases z)).2.2.1 6 (by rw [k_1]; rfl))
            have b_35 : 0 ≤ (I_31 x0 7).toInt ∧ (I_31 x0 7).toInt ≤ 1000 := hM.ib m_32 k_32 7 rfl
            have e_36 : (I_31 x0 7).toInt = (Ic_24 x0 7).toInt := congrArg Int32.toInt ((fr_31 x0 m_1 (fun z => by cases z)).2.2.1 7 (by rw [k_1]; rfl))
            have e_37 : (I_31 x0 9).toInt = (Ic_24 x0 9).toInt := congrArg Int32.toInt ((fr_31 x0 m_1 (fun z => by cases z)).2.2.1 9 (by rw [k_1]; rfl))
            have b_38 : 0 ≤ (I_31 x0 8).toInt ∧ (I_31 x0 8).toInt ≤ 1000 := hM.ib m_32 k_32 8 rfl
            have e_39 : (I_31 x0 8).toInt = (Ic_24 x0 8).toInt := congrArg Int32.toInt ((fr_31 x0 m_1 (fun z => by cases z)).2.2.1 8 (by rw [k_1]; rfl))
            exact cr_rz (mc := 0) (ms := 0) (X := r_29.toInt) E hr hlk hsz hM ⟨show (0 : Nat) ≤ 0 from by omega, show (0 : Nat) ≤ 0 from by omega⟩ rfl (by omega) (show ((I_31 x0 6).toInt = 0 ∨ (I_31 x0 7).toInt ≤ 999) ∧ ((r_29.toInt = 1 ∧ zN kz nz xz p0.toInt p1.toInt (I_31 x0 9).toInt ∧ (I_31 x0 7).toInt = (ztp kz (zty kz nz xz) : Int) ∧ (I_31 x0 8).toInt = (zty kz nz (zty kz nz xz) : Int) ∧ (I_31 x0 6).toInt = zso kz nz (ztp kz (zty kz nz xz))) ∨ (r_29.toInt = 0 ∧ ∀ v : Int, ¬ zN kz nz xz p0.toInt p1.toInt v)) from by exact ⟨by omega, Or.inr ⟨by omega, fun v h => by have h2 := h.2.1; have h3 := h.2.2.1; have h4 := h.2.2.2; omega⟩⟩) dX4_readNumber_85
      · refine lv_aload_n hx hb dX4_readNumber_32 rfl (lv_at hl 0 rfl) ?_
        refine lv_aload_n hx hb dX4_readNumber_33 rfl (lv_at hl 0 rfl) ?_
        refine cr_get (κ := 4) (ci := 4) (k := 9) (C := RX4) (T := TX4) (N := 10) (fs := cfs 4) (v := .int (Ic_24 x0 9)) E hM m_1 k_1 (fun _ _ => rfl) rfl hin4 (by decide) (index := 89) (mm_at 2 rfl) rfl rfl dX4_readNumber_34 ?_
        refine lv_bipush (v := 10) hx hb dX4_readNumber_37 (by decide) ?_
        refine mm_imul (X := (Ic_24 x0 9).toInt) (Y := 10) hx hb dX4_readNumber_39 rfl num_10 (by omega) (fun z_40 hz_40 => ?_)
        refine lv_aload_n hx hb dX4_readNumber_40 rfl (lv_at hl 0 rfl) ?_
        obtain ⟨x_41, o_41, m_41, k_41⟩ := hM.nn m_1 k_1 0 (κ' := 10) rfl rfl
        refine cr_get (κ := 4) (ci := 4) (k := 0) (C := RX4) (T := TX4) (N := 10) (fs := cfs 4) (v := .ref x_41) E hM m_1 k_1 (fun _ _ => rfl) rfl hin4 (by decide) (index := 9) (mm_at 20 rfl) rfl (by show some (va_rf (Oc_24 x0 0)) = some (.ref x_41); rw [o_41]; rfl) dX4_readNumber_41 ?_
        refine lv_iload_n hx hb dX4_readNumber_44 rfl (lv_at hl 3 rfl) ?_
        have hdg : zdg kz i.toInt.toNat := zdg_run hou (by omega) (by omega) (by omega)
        have hdv := zTx_dg (zTx_fr htx hI mx0 kx0 hM.2.2.2.2 rfl rfl rfl) o_41 hdg
        have hdv2 : (Ic_24 x_41 (Int32.toNatClampNeg i)).toInt = (kz i.toInt.toNat : Int) := hdv.1
        have hdv3 := hdv.2
        have hvs : zval kz (ztp kz xz) (i.toInt.toNat + 1 - ztp kz xz) = 10 * zval kz (ztp kz xz) (i.toInt.toNat - ztp kz xz) + (kz i.toInt.toNat - 48) := by
          rw [show i.toInt.toNat + 1 - ztp kz xz = (i.toInt.toNat - ztp kz xz) + 1 from by omega]
          show 10 * _ + (kz (ztp kz xz + (i.toInt.toNat - ztp kz xz)) - 48) = _
          rw [show ztp kz xz + (i.toInt.toNat - ztp kz xz) = i.toInt.toNat from by omega]
        refine cr_bald (κ := 10) (t0 := 0) (X := i.toInt) E hM m_41 k_41 (fun _ _ => rfl) rfl rfl (by omega) dX4_readNumber_45 ?_
        refine mm_iadd (X := z_40.toInt) (Y := (Ic_24 x_41 (Int32.toNatClampNeg i)).toInt) hx hb dX4_readNumber_46 rfl rfl (by omega) (fun z_42 hz_42 => ?_)
        refine lv_bipush (v := 48) hx hb dX4_readNumber_47 (by decide) ?_
        refine mm_isub (X := z_42.toInt) (Y := 48) hx hb dX4_readNumber_49 rfl num_48 (by omega) (fun z_43 hz_43 => ?_)
        refine lv_ldc (v := 100000) hx hb hown (hts _ (mm_at 26 rfl)) dX4_readNumber_50 ?_
        refine mm_min (X := z_43.toInt) (Y := 100000) hx hb (hml.trans hl.1.symm) hown (hts _ (mm_at 22 rfl)) (hts _ (mm_at 23 rfl)) (hts _ (mm_at 24 rfl)) (hts _ (mm_at 25 rfl)) (Nat.le_of_ble_eq_true rfl) (Nat.le_of_ble_eq_true rfl) (Nat.le_of_ble_eq_true rfl) (Nat.le_of_ble_eq_true rfl) rfl num_100000 dX4_readNumber_52 (fun z_44 hz_44 => ?_)
        refine cr_puti (κ := 4) (ci := 4) (k := 9) (C := RX4) (T := TX4) (N := 10) (fs := cfs 4) (ty := .int) (v := z_44) E hM m_1 k_1 (fun _ _ => rfl) rfl hin4 tyX4 tyX4_ok nmX4 (by decide) (index := 89) (mm_at 2 rfl) rfl (Or.inl rfl) (by decide +kernel) rfl rfl (show (9 : Nat) < 10 from by decide) (fun _ _ _ => rfl) (cz_nb rfl) (cS_upd (hM.sp m_1 k_1) (by decide) (by decide)) (Or.inr (Or.inr rfl)) dX4_readNumber_55 (fun H locs I_45 eI_45 hM => ?_)
        refine mm_iinc (X := i.toInt) (v := 1) (lv2 := fun z => [(3, .int z), (0, .ref x0), (1, .int p0), (2, .int p1)]) hx hb dX4_readNumber_58 hl (k := 3) rfl rfl (by decide) num_1 (by omega) (by decide) (fun _ => rfl) (fun z_46 ls hz_46 hl => ?_)
        have hl : lv_has ls 4 [(3, .int z_46), (0, .ref x0), (1, .int p0), (2, .int p1)] := hl
        refine lv_goto (tgt := 24) hx hb dX4_readNumber_61 (by decide) ?_
        have b_47 : 0 ≤ (I_45 x0 7).toInt ∧ (I_45 x0 7).toInt ≤ 1000 := hM.ib m_1 k_1 7 rfl
        have e_48 : (I_45 x0 7).toInt = (Ic_24 x0 7).toInt := congrArg Int32.toInt (cu_k eI_45 (by decide))
        have b_49 : 0 ≤ (I_45 x0 8).toInt ∧ (I_45 x0 8).toInt ≤ 1000 := hM.ib m_1 k_1 8 rfl
        have e_50 : (I_45 x0 8).toInt = (Ic_24 x0 8).toInt := congrArg Int32.toInt (cu_k eI_45 (by decide))
        have b_51 : 0 ≤ (I_45 x0 6).toInt ∧ (I_45 x0 6).toInt ≤ 4 := hM.ib m_1 k_1 6 rfl
        have e_52 : (I_45 x0 6).toInt = (Ic_24 x0 6).toInt := congrArg Int32.toInt (cu_k eI_45 (by decide))
        have e_53 : (I_45 x0 9).toInt = z_44.toInt := (congrArg Int32.toInt (cu_s eI_45)).trans rfl
        exact ih_24 _ _ _ Lc_24 Kc_24 I_45 Oc_24 z_46    (show (0 ≤ z_46.toInt ∧ z_46.toInt ≤ 1000) from by omega) (show (I_45 x0 7).toInt = (ztp kz xz : Int) from by omega) (show (I_45 x0 8).toInt = (zty kz nz xz : Int) from by omega) (show (I_45 x0 6).toInt = zso kz nz (ztp kz xz) from by omega) (show zso kz nz (ztp kz xz) = 2 from by omega) (show (ztp kz xz : Int) ≤ z_46.toInt from by omega) (show z_46.toInt ≤ (zty kz nz xz : Int) from by omega) (show ((zval kz (ztp kz xz) (z_46.toInt.toNat - ztp kz xz) : Int) ≤ 100000 ∧ (I_45 x0 9).toInt = (zval kz (ztp kz xz) (z_46.toInt.toNat - ztp kz xz) : Int)) ∨ (100000 < (zval kz (ztp kz xz) (z_46.toInt.toNat - ztp kz xz) : Int) ∧ (I_45 x0 9).toInt = 100000) from by rw [show z_46.toInt.toNat - ztp kz xz = i.toInt.toNat + 1 - ztp kz xz from by omega]; omega) (show (I_45 x0 6).toInt = 0 ∨ (I_45 x0 7).toInt ≤ 999 from by omega) (show (1000 - z_46.toInt) < ((n_24 : Nat) : Int) from by omega) hM (lv_sub hl [1, 2, 3, 0] rfl)
  refine lv_aload_n hx hb dX4_readNumber_0 rfl (lv_at hl 0 rfl) ?_
  have b_54 : 0 ≤ (I x0 6).toInt ∧ (I x0 6).toInt ≤ 4 := hM.ib mx0 kx0 6 rfl
  refine cr_get (κ := 4) (ci := 4) (k := 6) (C := RX4) (T := TX4) (N := 10) (fs := cfs 4) (v := .int (I x0 6)) E hM mx0 kx0 (fun _ _ => rfl) rfl hin4 (by decide) (index := 37) (mm_at 21 rfl) rfl rfl dX4_readNumber_1 ?_
  refine lv_iconst (v := 2) hx hb dX4_readNumber_4 (by decide) ?_
  refine mm_icmp_eq (X := (I x0 6).toInt) (Y := 2) (tgt := 14) hx hb dX4_readNumber_5 (by decide) rfl num_2 (fun c_55 => ?_) (fun c_55 => ?_)
  · have hpy := zty_gt hou (show zso kz nz (ztp kz xz) = 2 from by omega)
    refine lv_aload_n hx hb dX4_readNumber_14 rfl (lv_at hl 0 rfl) ?_
    refine lv_iconst (v := 0) hx hb dX4_readNumber_15 (by decide) ?_
    refine cr_puti (κ := 4) (ci := 4) (k := 9) (C := RX4) (T := TX4) (N := 10) (fs := cfs 4) (ty := .int) (v := 0) E hM mx0 kx0 (fun _ _ => rfl) rfl hin4 tyX4 tyX4_ok nmX4 (by decide) (index := 89) (mm_at 2 rfl) rfl (Or.inl rfl) (by decide +kernel) rfl rfl (show (9 : Nat) < 10 from by decide) (fun _ _ _ => rfl) (cz_nb rfl) (cS_upd (hM.sp mx0 kx0) (by decide) (by decide)) (Or.inr (Or.inr rfl)) dX4_readNumber_16 (fun H locs I_56 eI_56 hM => ?_)
    refine lv_aload_n hx hb dX4_readNumber_19 rfl (lv_at hl 0 rfl) ?_
    have b_57 : 0 ≤ (I_56 x0 7).toInt ∧ (I_56 x0 7).toInt ≤ 1000 := hM.ib mx0 kx0 7 rfl
    have e_58 : (I_56 x0 7).toInt = (I x0 7).toInt := congrArg Int32.toInt (cu_k eI_56 (by decide))
    refine cr_get (κ := 4) (ci := 4) (k := 7) (C := RX4) (T := TX4) (N := 10) (fs := cfs 4) (v := .int (I_56 x0 7)) E hM mx0 kx0 (fun _ _ => rfl) rfl hin4 (by decide) (index := 54) (mm_at 9 rfl) rfl rfl dX4_readNumber_20 ?_
    refine lv_istore_n (lv' := [(3, .int (I_56 x0 7)), (0, .ref x0), (1, .int p0), (2, .int p1)]) hx hb dX4_readNumber_23 rfl hl (by decide) rfl (fun ls hl => ?_)
    have b_59 : 0 ≤ (I_56 x0 8).toInt ∧ (I_56 x0 8).toInt ≤ 1000 := hM.ib mx0 kx0 8 rfl
    have e_60 : (I_56 x0 8).toInt = (I x0 8).toInt := congrArg Int32.toInt (cu_k eI_56 (by decide))
    have b_61 : 0 ≤ (I_56 x0 6).toInt ∧ (I_56 x0 6).toInt ≤ 4 := hM.ib mx0 kx0 6 rfl
    have e_62 : (I_56 x0 6).toInt = (I x0 6).toInt := congrArg Int32.toInt (cu_k eI_56 (by decide))
    have e_63 : (I_56 x0 9).toInt = 0 := (congrArg Int32.toInt (cu_s eI_56)).trans num_0
    exact B_24 4294967296 _ _ _ L K I_56 O (I_56 x0 7)    (show (0 ≤ (I_56 x0 7).toInt ∧ (I_56 x0 7).toInt ≤ 1000) from by omega) (show (I_56 x0 7).toInt = (ztp kz xz : Int) from by omega) (show (I_56 x0 8).toInt = (zty kz nz xz : Int) from by omega) (show (I_56 x0 6).toInt = zso kz nz (ztp kz xz) from by omega) (show zso kz nz (ztp kz xz) = 2 from by omega) (show (ztp kz xz : Int) ≤ (I_56 x0 7).toInt from by omega) (show (I_56 x0 7).toInt ≤ (zty kz nz xz : Int) from by omega) (show ((zval kz (ztp kz xz) ((I_56 x0 7).toInt.toNat - ztp kz xz) : Int) ≤ 100000 ∧ (I_56 x0 9).toInt = (zval kz (ztp kz xz) ((I_56 x0 7).toInt.toNat - ztp kz xz) : Int)) ∨ (100000 < (zval kz (ztp kz xz) ((I_56 x0 7).toInt.toNat - ztp kz xz) : Int) ∧ (I_56 x0 9).toInt = 100000) from by have e0 : zval kz (ztp kz xz) ((I_56 x0 7).toInt.toNat - ztp kz xz) = 0 := (by rw [show (I_56 x0 7).toInt.toNat - ztp kz xz = 0 from by omega]; rfl); rw [e0]; omega) (show (I_56 x0 6).toInt = 0 ∨ (I_56 x0 7).toInt ≤ 999 from by omega) (show (1000 - (I_56 x0 7).toInt) < ((4294967296 : Nat) : Int) from by omega) hM (lv_sub hl [1, 2, 3, 0] rfl)
  · refine lv_aload_n hx hb dX4_readNumber_8 rfl (lv_at hl 0 rfl) ?_
    refine lv_iconst (v := 1) hx hb dX4_readNumber_9 (by decide) ?_
    refine cc_Vi (vs := [.int 1]) (rest := []) (b := x0) (κ := 4) E hV rfl hA hml hM mx0 kx0 rfl rfl (h4_X4_fail l D cA ad av L K I O _ x0 1 hM.2.2.2.1 mx0 kx0) (cwV 1 hts gz_X4_readNumber_X4_fail_64 rfl rfl rfl (by decide +kernel) ⟨Nat.le_of_ble_eq_true rfl, Nat.le_of_ble_eq_true rfl⟩) rfl hl.1 rfl (Nat.le_of_ble_eq_true rfl) dX4_readNumber_10 ⟨show (0 + 0 : Nat) ≤ 0 from by omega, show (0 + 0 : Nat) ≤ 0 from by omega⟩ (fun _ h => by cases h) (by decide) (by decide) (fun r_65 L_67 K_67 I_67 O_67 H locs fr_67 p_66 hM => ?_)
    have m_68 := (fr_67 x0 mx0 (fun z => by cases z)).1
    have k_68 : K_67 x0 = 4 := (fr_67 x0 mx0 (fun z => by cases z)).2.1.trans kx0
    replace p_66 : r_65.toInt = 0 := p_66
    have b_69 : 0 ≤ (I_67 x0 6).toInt ∧ (I_67 x0 6).toInt ≤ 4 := hM.ib m_68 k_68 6 rfl
    have e_70 : (I_67 x0 6).toInt = (I x0 6).toInt := congrArg Int32.toInt ((fr_67 x0 mx0 (fun z => by cases z)).2.2.1 6 (by rw [kx0]; rfl))
    have b_71 : 0 ≤ (I_67 x0 7).toInt ∧ (I_67 x0 7).toInt ≤ 1000 := hM.ib m_68 k_68 7 rfl
    have e_72 : (I_67 x0 7).toInt = (I x0 7).toInt := congrArg Int32.toInt ((fr_67 x0 mx0 (fun z => by cases z)).2.2.1 7 (by rw [kx0]; rfl))
    have e_73 : (I_67 x0 9).toInt = (I x0 9).toInt := congrArg Int32.toInt ((fr_67 x0 mx0 (fun z => by cases z)).2.2.1 9 (by rw [kx0]; rfl))
    have b_74 : 0 ≤ (I_67 x0 8).toInt ∧ (I_67 x0 8).toInt ≤ 1000 := hM.ib m_68 k_68 8 rfl
    have e_75 : (I_67 x0 8).toInt = (I x0 8).toInt := congrArg Int32.toInt ((fr_67 x0 mx0 (fun z => by cases z)).2.2.1 8 (by rw [kx0]; rfl))
    exact cr_rz (mc := 0) (ms := 0) (X := r_65.toInt) E hr hlk hsz hM ⟨show (0 : Nat) ≤ 0 from by omega, show (0 : Nat) ≤ 0 from by omega⟩ rfl (by omega) (show ((I_67 x0 6).toInt = 0 ∨ (I_67 x0 7).toInt ≤ 999) ∧ ((r_65.toInt = 1 ∧ zN kz nz xz p0.toInt p1.toInt (I_67 x0 9).toInt ∧ (I_67 x0 7).toInt = (ztp kz (zty kz nz xz) : Int) ∧ (I_67 x0 8).toInt = (zty kz nz (zty kz nz xz) : Int) ∧ (I_67 x0 6).toInt = zso kz nz (ztp kz (zty kz nz xz))) ∨ (r_65.toInt = 0 ∧ ∀ v : Int, ¬ zN kz nz xz p0.toInt p1.toInt v)) from by exact ⟨by omega, Or.inr ⟨by omega, fun v h => by have := h.1; omega⟩⟩) dX4_readNumber_13
