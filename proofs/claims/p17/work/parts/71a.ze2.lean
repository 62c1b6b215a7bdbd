def w5X0_addShooting : List Cond := .code yX0_addShooting cX0_addShooting 11 none :: ([.methodLink RX0 42 yX0_known, .instanceMethod yX0_known, .selects RX0 yX0_known yX0_known, .initialized RX0, .code yX0_known cX0_known 5 (some .int), .fieldLink RX0 19 "SkiShots$Event" "day" "I", .fieldLink RX0 33 "SkiShots$Event" "before" "LSkiShots$Event;", .fieldLink RX0 24 "SkiShots$Event" "sort" "I", .fieldLink RX0 27 "SkiShots$Event" "k" "I", .fieldLink RX0 30 "SkiShots$Event" "v" "I", .fieldLink RX0 15 "SkiShots$Entry" "latest" "LSkiShots$Event;", .methodLink RX0 81 yJ6_bitCount_0f7a4, .static yJ6_bitCount_0f7a4, .initialized RJ6, .code yJ6_bitCount_0f7a4 cJ6_bitCount_0f7a4 1 (some .int), .constant RJ6 265 (1431655765), .constant RJ6 266 (858993459), .constant RJ6 267 (252645135), .fieldLink RX0 86 "SkiShots$Format" "loops" "Z", .fieldLink RX0 89 "SkiShots$Format" "missSeconds" "I", .fieldLink RX0 50 "SkiShots$Entry" "fewestMisses" "I", .fieldLink RX0 53 "SkiShots$Entry" "mostMisses" "I", .fieldLink RX0 56 "SkiShots$Entry" "leastPenalty" "I", .methodLink RX0 92 Lib.Math.max.name, .static Lib.Math.max.name, .initialized "java/lang/Math", .code Lib.Math.max.name Lib.Math.max.code 2 (some .int), .fieldLink RX0 59 "SkiShots$Entry" "greatestPenalty" "I"] ++ wsX00 ++ wsX10 ++ wsX20)
set_option maxRecDepth 20000 in
theorem gz_X0_addShooting_X0_known_1 : GoodIn w5X0_addShooting (wsV RX0 42 RX0 yX0_known w5X0_known) := goodIn_p _ [5] rfl (by decide +kernel)
set_option maxRecDepth 20000 in
theorem gz_X0_addShooting_J6_bitCount_0f7a4_7 : GoodIn w5X0_addShooting (va_wsS RX0 81 yJ6_bitCount_0f7a4 w5J6_bitCount_0f7a4) := goodIn_p _ [15] rfl (by decide +kernel)
set_option maxRecDepth 20000 in
theorem gz_X0_addShooting_X0_known_49 : GoodIn w5X0_addShooting (wsV RX0 42 RX0 yX0_known w5X0_known) := goodIn_p _ [5] rfl (by decide +kernel)
set_option maxRecDepth 20000 in
theorem gz_X0_addShooting_X0_known_160 : GoodIn w5X0_addShooting (wsV RX0 42 RX0 yX0_known w5X0_known) := goodIn_p _ [5] rfl (by decide +kernel)
set_option maxHeartbeats 4000000 in
set_option maxRecDepth 100000 in
theorem h5_X0_addShooting (l : Launch) (D : va_G) (cA : Nat → ClassId) (ad av : Nat → Nat) (L : List Nat) (K : Nat → Nat) (I : Nat → Nat → Int32) (O : Nat → Nat → Option Nat) (sz : Nat) (x0 : Nat) (p0 : Nat) (p1 : Int32) (p2 : Int32) (hI : cI L K I O) (mx0 : x0 ∈ L) (kx0 : K x0 = 0) (mp0 : p0 ∈ L) (kp0 : K p0 = 2) (Fe : Nat → Int32) (Ge : Nat → Nat → Int32) (re : Int) (ve : Int) (hev : lEv Ge re ve L K I O (Fe 31).toInt.toNat (O x0 1)) (hb1 : -1 ≤ kN Ge re ve 1 p1.toInt p2.toInt (Fe 31).toInt.toNat ∧ kN Ge re ve 1 p1.toInt p2.toInt (Fe 31).toInt.toNat ≤ 31) (hb2 : -1 ≤ kN Ge re ve 2 p1.toInt p2.toInt (Fe 31).toInt.toNat ∧ kN Ge re ve 2 p1.toInt p2.toInt (Fe 31).toInt.toNat ≤ 9) (hco : 0 ≤ (I p0 5).toInt ∧ (I p0 5).toInt ≤ 600) (h6 : 0 ≤ (I x0 6).toInt ∧ (I x0 6).toInt ≤ 1000) (h7 : 0 ≤ (I x0 7).toInt ∧ (I x0 7).toInt ≤ 1000) (h8 : 0 ≤ (I x0 8).toInt ∧ (I x0 8).toInt ≤ 10000000) (h9 : 0 ≤ (I x0 9).toInt ∧ (I x0 9).toInt ≤ 10000000) : Met l yX0_addShooting w5X0_addShooting ({ frames := 1, cells := 0, slots := 0, locals := 24 }) (cPre D cA ad av L K I O sz [.ref x0, .ref p0, .int p1, .int p2]) (cQv D cA L K I O sz [] [(0, 6), (0, 7), (0, 8), (0, 9)] [] (fun L' K' I' O' => (I' x0 6).toInt = (I x0 6).toInt + fewS (kN Ge re ve 1 p1.toInt p2.toInt (Fe 31).toInt.toNat) ∧ (I' x0 7).toInt = (I x0 7).toInt + manyS (kN Ge re ve 1 p1.toInt p2.toInt (Fe 31).toInt.toNat) ∧ (I' x0 8).toInt = (I x0 8).toInt + penLo (I p0 4).toInt (10 * (I p0 5).toInt) (kN Ge re ve 1 p1.toInt p2.toInt (Fe 31).toInt.toNat) (kN Ge re ve 2 p1.toInt p2.toInt (Fe 31).toInt.toNat) ∧ (I' x0 9).toInt = (I x0 9).toInt + penHi (I p0 4).toInt (10 * (I p0 5).toInt) (kN Ge re ve 1 p1.toInt p2.toInt (Fe 31).toInt.toNat) (kN Ge re ve 2 p1.toInt p2.toInt (Fe 31).toInt.toNat) ∧ (∀ a : Nat, a ∈ L → K a = 0 → ¬ a = x0 → ∀ j : Nat, I' a j = I a j))) 0 0 (va_A (cW cA L K I O) sz) := by
  refine cr_met (own := RX0) (xs := []) (WI := [(0, 6), (0, 7), (0, 8), (0, 9)]) (WO := []) (cc := cX0_addShooting) (maxL := 11) (ret := none) (by decide) rfl rfl (Nat.le_of_ble_eq_true rfl) hI ?_
  intro p e s m args below meth c ls E hV hml hr hlk hname hsz hA hM hl
  have hx := E.1
  have hb := E.2.1
  have hts := E.2.2.1
  have hown := E.2.2.2.1
  have hl : lv_has ls 11 [(0, .ref x0), (1, .ref p0), (2, .int p1), (3, .int p2)] := hl
  have hin0 : ∀ w ∈ wsX00, w ∈ w5X0_addShooting := by decide +kernel
  have hin1 : ∀ w ∈ wsX10, w ∈ w5X0_addShooting := by decide +kernel
  have hin2 : ∀ w ∈ wsX20, w ∈ w5X0_addShooting := by decide +kernel
  refine lv_aload_n hx hb dX0_addShooting_0 rfl (lv_at hl 0 rfl) ?_
  refine lv_iconst (v := 1) hx hb dX0_addShooting_1 (by decide) ?_
  refine lv_iload_n hx hb dX0_addShooting_2 rfl (lv_at hl 2 rfl) ?_
  refine lv_iload_n hx hb dX0_addShooting_3 rfl (lv_at hl 3 rfl) ?_
  refine cc_Vip (vs := [.int 1, .int p1, .int p2]) (rest := []) (b := x0) (κ := 0) E hV rfl hA hml hM mx0 kx0 rfl rfl (h5_X0_known l D cA ad av L K I O _ x0 1 p1 p2 hM.2.2.2.1 mx0 kx0 Fe Ge re ve hev) (cwV 3 hts gz_X0_addShooting_X0_known_1 rfl rfl rfl (by decide +kernel) ⟨Nat.le_of_ble_eq_true rfl, Nat.le_of_ble_eq_true rfl⟩) rfl hl.1 rfl (Nat.le_of_ble_eq_true rfl) dX0_addShooting_4 ⟨show (0 : Nat) ≤ 0 from by omega, show (0 : Nat) ≤ 0 from by omega⟩ (fun r_2 H locs p_3 hM => ?_)
  replace p_3 : r_2.toInt = kN Ge re ve (1 : Int32).toInt p1.toInt p2.toInt (Fe 31).toInt.toNat := p_3
  have nn_5 := num_1
  have kb : kN Ge re ve 1 p1.toInt p2.toInt (Fe 31).toInt.toNat = r_2.toInt := by rw [p_3, show ((1 : Int32)).toInt = 1 from by decide]
  have kbb := hb1
  rw [kb] at kbb
  refine lv_istore (lv' := [(4, .int r_2), (0, .ref x0), (1, .ref p0), (2, .int p1), (3, .int p2)]) hx hb dX0_addShooting_7 hl (by decide) rfl (fun ls hl => ?_)
  refine lv_iload hx hb dX0_addShooting_9 (lv_at hl 0 rfl) ?_
  refine lv_iconst (v := (-1)) hx hb dX0_addShooting_11 (by decide) ?_
  refine mm_icmp_ne (X := r_2.toInt) (Y := (-1)) (tgt := 19) hx hb dX0_addShooting_12 (by decide) rfl num_m1 (fun c_6 => ?_) (fun c_6 => ?_)
  · refine lv_iconst (v := 5) hx hb dX0_addShooting_19 (by decide) ?_
    refine lv_iload hx hb dX0_addShooting_20 (lv_at hl 0 rfl) ?_
    refine cc_Sip (vs := [.int r_2]) (rest := [.int 5]) E hV rfl hA hml hM (h5_J6_bitCount_0f7a4 l D cA ad av L K I O _ r_2 hM.2.2.2.1 (show 0 ≤ r_2.toInt ∧ r_2.toInt ≤ 31 from by omega)) (va_cwS 1 hts gz_X0_addShooting_J6_bitCount_0f7a4_7 rfl rfl rfl (by decide +kernel) ⟨Nat.le_of_ble_eq_true rfl, Nat.le_of_ble_eq_true rfl⟩) rfl hl.1 rfl (Nat.le_of_ble_eq_true rfl) dX0_addShooting_22 ⟨show (0 : Nat) ≤ 0 from by omega, show (0 : Nat) ≤ 0 from by omega⟩ (fun r_8 H locs p_9 hM => ?_)
    replace p_9 : r_8.toInt = hB r_2.toInt := p_9
    have hbc := hB_bd r_2.toInt
    refine mm_isub (X := 5) (Y := r_8.toInt) hx hb dX0_addShooting_25 num_5 rfl (by omega) (fun z_11 hz_11 => ?_)
    refine lv_istore (lv' := [(5, .int z_11), (4, .int r_2), (0, .ref x0), (1, .ref p0), (2, .int p1), (3, .int p2)]) hx hb dX0_addShooting_26 hl (by decide) rfl (fun ls hl => ?_)
    refine lv_iload hx hb dX0_addShooting_28 (lv_at hl 1 rfl) ?_
    refine lv_iconst (v := (-1)) hx hb dX0_addShooting_30 (by decide) ?_
    refine mm_icmp_ne (X := r_2.toInt) (Y := (-1)) (tgt := 38) hx hb dX0_addShooting_31 (by decide) rfl num_m1 (fun c_12 => ?_) (fun c_12 => False.elim (by omega))
    refine lv_iload hx hb dX0_addShooting_38 (lv_at hl 0 rfl) ?_
    refine lv_istore (lv' := [(6, .int z_11), (5, .int z_11), (4, .int r_2), (0, .ref x0), (1, .ref p0), (2, .int p1), (3, .int p2)]) hx hb dX0_addShooting_40 hl (by decide) rfl (fun ls hl => ?_)
    refine lv_aload_n hx hb dX0_addShooting_42 rfl (lv_at hl 4 rfl) ?_
    refine cr_get (κ := 2) (ci := 2) (k := 4) (C := RX2) (T := TX2) (N := 8) (fs := cfs 2) (v := .int (I p0 4)) E hM mp0 kp0 (fun _ _ => rfl) rfl hin2 (by decide) (index := 86) (mm_at 19 rfl) rfl rfl dX0_addShooting_43 ?_
    refine mm_if_eq (X := (I p0 4).toInt) (tgt := 59) hx hb dX0_addShooting_46 (by decide) rfl (fun c_13 => ?_) (fun c_13 => ?_)
    · refine lv_iconst (v := 0) hx hb dX0_addShooting_59 (by decide) ?_
      refine lv_istore (lv' := [(7, .int 0), (6, .int z_11), (5, .int z_11), (4, .int r_2), (0, .ref x0), (1, .ref p0), (2, .int p1), (3, .int p2)]) hx hb dX0_addShooting_60 hl (by decide) rfl (fun ls hl => ?_)
      refine lv_iload hx hb dX0_addShooting_62 (lv_at hl 0 rfl) ?_
      refine lv_iconst (v := (-1)) hx hb dX0_addShooting_64 (by decide) ?_
      refine mm_icmp_ne (X := 0) (Y := (-1)) (tgt := 72) hx hb dX0_addShooting_65 (by decide) num_0 num_m1 (fun c_14 => ?_) (fun c_14 => False.elim (by omega))
      refine lv_iload hx hb dX0_addShooting_72 (lv_at hl 0 rfl) ?_
      refine lv_istore (lv' := [(8, .int 0), (7, .int 0), (6, .int z_11), (5, .int z_11), (4, .int r_2), (0, .ref x0), (1, .ref p0), (2, .int p1), (3, .int p2)]) hx hb dX0_addShooting_74 hl (by decide) rfl (fun ls hl => ?_)
      refine lv_iload hx hb dX0_addShooting_76 (lv_at hl 1 rfl) ?_
      refine lv_iconst (v := (-1)) hx hb dX0_addShooting_78 (by decide) ?_
      refine mm_icmp_ne (X := 0) (Y := (-1)) (tgt := 87) hx hb dX0_addShooting_79 (by decide) num_0 num_m1 (fun c_15 => ?_) (fun c_15 => False.elim (by omega))
      refine lv_iload hx hb dX0_addShooting_87 (lv_at hl 1 rfl) ?_
      refine lv_istore (lv' := [(9, .int 0), (8, .int 0), (7, .int 0), (6, .int z_11), (5, .int z_11), (4, .int r_2), (0, .ref x0), (1, .ref p0), (2, .int p1), (3, .int p2)]) hx hb dX0_addShooting_89 hl (by decide) rfl (fun ls hl => ?_)
      have hbb := hB_bd r_2.toInt
      have hfe : fewS r_2.toInt = z_11.toInt := by
        have n_2 := num_0; have n_3 := num_0; unfold fewS
        (repeat' split) <;> omega
      have hme : manyS r_2.toInt = z_11.toInt := by
        have n_2 := num_0; have n_3 := num_0; unfold manyS
        (repeat' split) <;> omega
      have hrl : runLo (I p0 4).toInt (kN Ge re ve 2 p1.toInt p2.toInt (Fe 31).toInt.toNat) = 0 := by
        have n_2 := num_0; have n_3 := num_0; unfold runLo
        (repeat' split) <;> omega
      have hrh : runHi (I p0 4).toInt (kN Ge re ve 2 p1.toInt p2.toInt (Fe 31).toInt.toNat) = 0 := by
        have n_2 := num_0; have n_3 := num_0; unfold runHi
        (repeat' split) <;> omega
      refine lv_aload_n hx hb dX0_addShooting_91 rfl (lv_at hl 7 rfl) ?_
      refine cr_get (κ := 2) (ci := 2) (k := 5) (C := RX2) (T := TX2) (N := 8) (fs := cfs 2) (v := .int (I p0 5)) E hM mp0 kp0 (fun _ _ => rfl) rfl hin2 (by decide) (index := 89) (mm_at 20 rfl) rfl rfl dX0_addShooting_92 ?_
      refine lv_bipush (v := 10) hx hb dX0_addShooting_95 (by decide) ?_
      refine mm_imul (X := (I p0 5).toInt) (Y := 10) hx hb dX0_addShooting_97 rfl num_10 (by omega) (fun z_16 hz_16 => ?_)
      refine lv_istore (lv' := [(10, .int z_16), (9, .int 0), (8, .int 0), (7, .int 0), (6, .int z_11), (5, .int z_11), (4, .int r_2), (0, .ref x0), (1, .ref p0), (2, .int p1), (3, .int p2)]) hx hb dX0_addShooting_98 hl (by decide) rfl (fun ls hl => ?_)
      refine lv_aload_n hx hb dX0_addShooting_100 rfl (lv_at hl 7 rfl) ?_
      refine lv_dup hx hb dX0_addShooting_101 rfl ?_
      refine cr_get (κ := 0) (ci := 0) (k := 6) (C := RX0) (T := TX0) (N := 10) (fs := cfs 0) (v := .int (I x0 6)) E hM mx0 kx0 (fun _ _ => rfl) rfl hin0 (by decide) (index := 50) (mm_at 21 rfl) rfl rfl dX0_addShooting_102 ?_
      refine lv_iload hx hb dX0_addShooting_105 (lv_at hl 5 rfl) ?_
      refine mm_iadd (X := (I x0 6).toInt) (Y := z_11.toInt) hx hb dX0_addShooting_107 rfl rfl (by omega) (fun z_17 hz_17 => ?_)
      refine cr_puti (κ := 0) (ci := 0) (k := 6) (C := RX0) (T := TX0) (N := 10) (fs := cfs 0) (ty := .int) (v := z_17) E hM mx0 kx0 (fun _ _ => rfl) rfl hin0 tyX0 tyX0_ok nmX0 (by decide) (index := 50) (mm_at 21 rfl) rfl (Or.inl rfl) (by decide +kernel) rfl rfl (show (6 : Nat) < 10 from by decide) (fun _ _ _ => rfl) (cz_nb rfl) (cS_upd (hM.sp mx0 kx0) (by decide) (by decide)) (Or.inr (Or.inr rfl)) dX0_addShooting_108 (fun H locs I_18 eI_18 hM => ?_)
      refine lv_aload_n hx hb dX0_addShooting_111 rfl (lv_at hl 7 rfl) ?_
      refine lv_dup hx hb dX0_addShooting_112 rfl ?_
      have e_19 : (I_18 x0 7).toInt = (I x0 7).toInt := congrArg Int32.toInt (cu_k eI_18 (by decide))
      refine cr_get (κ := 0) (ci := 0) (k := 7) (C := RX0) (T := TX0) (N := 10) (fs := cfs 0) (v := .int (I_18 x0 7)) E hM mx0 kx0 (fun _ _ => rfl) rfl hin0 (by decide) (index := 53) (mm_at 22 rfl) rfl rfl dX0_addShooting_113 ?_
      refine lv_iload hx hb dX0_addShooting_116 (lv_at hl 4 rfl) ?_
      refine mm_iadd (X := (I_18 x0 7).toInt) (Y := z_11.toInt) hx hb dX0_addShooting_118 rfl rfl (by omega) (fun z_20 hz_20 => ?_)
      refine cr_puti (κ := 0) (ci := 0) (k := 7) (C := RX0) (T := TX0) (N := 10) (fs := cfs 0) (ty := .int) (v := z_20) E hM mx0 kx0 (fun _ _ => rfl) rfl hin0 tyX0 tyX0_ok nmX0 (by decide) (index := 53) (mm_at 22 rfl) rfl (Or.inl rfl) (by decide +kernel) rfl rfl (show (7 : Nat) < 10 from by decide) (fun _ _ _ => rfl) (cz_nb rfl) (cS_upd (hM.sp mx0 kx0) (by decide) (by decide)) (Or.inr (Or.inr rfl)) dX0_addShooting_119 (fun H locs I_21 eI_21 hM => ?_)
      refine lv_aload_n hx hb dX0_addShooting_122 rfl (lv_at hl 7 rfl) ?_
      refine lv_dup hx hb dX0_addShooting_123 rfl ?_
      have e_22 : (I_18 x0 8).toInt = (I x0 8).toInt := congrArg Int32.toInt (cu_k eI_18 (by decide))
      have e_23 : (I_21 x0 8).toInt = (I_18 x0 8).toInt := congrArg Int32.toInt (cu_k eI_21 (by decide))
      refine cr_get (κ := 0) (ci := 0) (k := 8) (C := RX0) (T := TX0) (N := 10) (fs := cfs 0) (v := .int (I_21 x0 8)) E hM mx0 kx0 (fun _ _ => rfl) rfl hin0 (by decide) (index := 56) (mm_at 23 rfl) rfl rfl dX0_addShooting_124 ?_
      refine lv_iconst (v := 0) hx hb dX0_addShooting_127 (by decide) ?_
      refine lv_iload hx hb dX0_addShooting_128 (lv_at hl 5 rfl) ?_
      refine lv_iload hx hb dX0_addShooting_130 (lv_at hl 1 rfl) ?_
      refine mm_isub (X := z_11.toInt) (Y := 0) hx hb dX0_addShooting_132 rfl num_0 (by omega) (fun z_24 hz_24 => ?_)
      refine mm_max (X := 0) (Y := z_24.toInt) hx hb (hml.trans hl.1.symm) hown (hts _ (mm_at 24 rfl)) (hts _ (mm_at 25 rfl)) (hts _ (mm_at 26 rfl)) (hts _ (mm_at 27 rfl)) (Nat.le_of_ble_eq_true rfl) (Nat.le_of_ble_eq_true rfl) (Nat.le_of_ble_eq_true rfl) (Nat.le_of_ble_eq_true rfl) num_0 rfl dX0_addShooting_133 (fun z_25 hz_25 => ?_)
      refine lv_iload hx hb dX0_addShooting_136 (lv_at hl 0 rfl) ?_
      have hm_26 := wk_mul05 (a := z_25.toInt) (b := z_16.toInt) (by omega) (by omega)
      refine mm_imul (X := z_25.toInt) (Y := z_16.toInt) hx hb dX0_addShooting_138 rfl rfl (by omega) (fun z_27 hz_27 => ?_)
      have hza8 : z_27.toInt = penLo (I p0 4).toInt (10 * (I p0 5).toInt) r_2.toInt (kN Ge re ve 2 p1.toInt p2.toInt (Fe 31).toInt.toNat) := by
        unfold penLo
        rw [hfe, hrl, hz_27, ← show z_24.toInt = z_11.toInt - 0 from hz_24]
        exact wk_pen (by have n9 := num_0; omega) (by omega)
      refine mm_iadd (X := (I_21 x0 8).toInt) (Y := z_27.toInt) hx hb dX0_addShooting_139 rfl rfl (by omega) (fun z_28 hz_28 => ?_)
      refine cr_puti (κ := 0) (ci := 0) (k := 8) (C := RX0) (T := TX0) (N := 10) (fs := cfs 0) (ty := .int) (v := z_28) E hM mx0 kx0 (fun _ _ => rfl) rfl hin0 tyX0 tyX0_ok nmX0 (by decide) (index := 56) (mm_at 23 rfl) rfl (Or.inl rfl) (by decide +kernel) rfl rfl (show (8 : Nat) < 10 from by decide) (fun _ _ _ => rfl) (cz_nb rfl) (cS_upd (hM.sp mx0 kx0) (by decide) (by decide)) (Or.inr (Or.inr rfl)) dX0_addShooting_140 (fun H locs I_29 eI_29 hM => ?_)
      refine lv_aload_n hx hb dX0_addShooting_143 rfl (lv_at hl 7 rfl) ?_
      refine lv_dup hx hb dX0_addShooting_144 rfl ?_
      have e_30 : (I_18 x0 9).toInt = (I x0 9).toInt := congrArg Int32.toInt (cu_k eI_18 (by decide))
      have e_31 : (I_21 x0 9).toInt = (I_18 x0 9).toInt := congrArg Int32.toInt (cu_k eI_21 (by decide))
      have e_32 : (I_29 x0 9).toInt = (I_21 x0 9).toInt := congrArg Int32.toInt (cu_k eI_29 (by decide))
      refine cr_get (κ := 0) (ci := 0) (k := 9) (C := RX0) (T := TX0) (N := 10) (fs := cfs 0) (v := .int (I_29 x0 9)) E hM mx0 kx0 (fun _ _ => rfl) rfl hin0 (by decide) (index := 59) (mm_at 28 rfl) rfl rfl dX0_addShooting_145 ?_
      refine lv_iconst (v := 0) hx hb dX0_addShooting_148 (by decide) ?_
      refine lv_iload hx hb dX0_addShooting_149 (lv_at hl 4 rfl) ?_
      refine lv_iload hx hb dX0_addShooting_151 (lv_at hl 2 rfl) ?_
      refine mm_isub (X := z_11.toInt) (Y := 0) hx hb dX0_addShooting_153 rfl num_0 (by omega) (fun z_33 hz_33 => ?_)
      refine mm_max (X := 0) (Y := z_33.toInt) hx hb (hml.trans hl.1.symm) hown (hts _ (mm_at 24 rfl)) (hts _ (mm_at 25 rfl)) (hts _ (mm_at 26 rfl)) (hts _ (mm_at 27 rfl)) (Nat.le_of_ble_eq_true rfl) (Nat.le_of_ble_eq_true rfl) (Nat.le_of_ble_eq_true rfl) (Nat.le_of_ble_eq_true rfl) num_0 rfl dX0_addShooting_154 (fun z_34 hz_34 => ?_)
      refine lv_iload hx hb dX0_addShooting_157 (lv_at hl 0 rfl) ?_
      have hm_35 := wk_mul05 (a := z_34.toInt) (b := z_16.toInt) (by omega) (by omega)
      refine mm_imul (X := z_34.toInt) (Y := z_16.toInt) hx hb dX0_addShooting_159 rfl rfl (by omega) (fun z_36 hz_36 => ?_)
      have hza9 : z_36.toInt = penHi (I p0 4).toInt (10 * (I p0 5).toInt) r_2.toInt (kN Ge re ve 2 p1.toInt p2.toInt (Fe 31).toInt.toNat) := by
        unfold penHi
        rw [hme, hrh, hz_36, ← show z_33.toInt = z_11.toInt - 0 from hz_33]
        exact wk_pen (by have n9 := num_0; omega) (by omega)
      refine mm_iadd (X := (I_29 x0 9).toInt) (Y := z_36.toInt) hx hb dX0_addShooting_160 rfl rfl (by omega) (fun z_37 hz_37 => ?_)
      refine cr_puti (κ := 0) (ci := 0) (k := 9) (C := RX0) (T := TX0) (N := 10) (fs := cfs 0) (ty := .int) (v := z_37) E hM mx0 kx0 (fun _ _ => rfl) rfl hin0 tyX0 tyX0_ok nmX0 (by decide) (index := 59) (mm_at 28 rfl) rfl (Or.inl rfl) (by decide +kernel) rfl rfl (show (9 : Nat) < 10 from by decide) (fun _ _ _ => rfl) (cz_nb rfl) (cS_upd (hM.sp mx0 kx0) (by decide) (by decide)) (Or.inr (Or.inr rfl)) dX0_addShooting_161 (fun H locs I_38 eI_38 hM => ?_)
      have e_39 : (I_18 x0 6).toInt = z_17.toInt := (congrArg Int32.toInt (cu_s eI_18)).trans rfl
      have e_40 : (I_21 x0 6).toInt = (I_18 x0 6).toInt := congrArg Int32.toInt (cu_k eI_21 (by decide))
      have e_41 : (I_29 x0 6).toInt = (I_21 x0 6).toInt := congrArg Int32.toInt (cu_k eI_29 (by decide))
      have e_42 : (I_38 x0 6).toInt = (I_29 x0 6).toInt := congrArg Int32.toInt (cu_k eI_38 (by decide))
      have e_43 : (I_21 x0 7).toInt = z_20.toInt := (congrArg Int32.toInt (cu_s eI_21)).trans rfl
      have e_44 : (I_29 x0 7).toInt = (I_21 x0 7).toInt := congrArg Int32.toInt (cu_k eI_29 (by decide))
      have e_45 : (I_38 x0 7).toInt = (I_29 x0 7).toInt := congrArg Int32.toInt (cu_k eI_38 (by decide))
      have e_46 : (I_29 x0 8).toInt = z_28.toInt := (congrArg Int32.toInt (cu_s eI_29)).trans rfl
      have e_47 : (I_38 x0 8).toInt = (I_29 x0 8).toInt := congrArg Int32.toInt (cu_k eI_38 (by decide))
      have e_48 : (I_38 x0 9).toInt = z_37.toInt := (congrArg Int32.toInt (cu_s eI_38)).trans rfl
      exact cr_rv (mc := 0) (ms := 0) E hr hlk hsz hM ⟨show (0 : Nat) ≤ 0 from by omega, show (0 : Nat) ≤ 0 from by omega⟩ (show (I_38 x0 6).toInt = (I x0 6).toInt + fewS (kN Ge re ve 1 p1.toInt p2.toInt (Fe 31).toInt.toNat) ∧ (I_38 x0 7).toInt = (I x0 7).toInt + manyS (kN Ge re ve 1 p1.toInt p2.toInt (Fe 31).toInt.toNat) ∧ (I_38 x0 8).toInt = (I x0 8).toInt + penLo (I p0 4).toInt (10 * (I p0 5).toInt) (kN Ge re ve 1 p1.toInt p2.toInt (Fe 31).toInt.toNat) (kN Ge re ve 2 p1.toInt p2.toInt (Fe 31).toInt.toNat) ∧ (I_38 x0 9).toInt = (I x0 9).toInt + penHi (I p0 4).toInt (10 * (I p0 5).toInt) (kN Ge re ve 1 p1.toInt p2.toInt (Fe 31).toInt.toNat) (kN Ge re ve 2 p1.toInt p2.toInt (Fe 31).toInt.toNat) ∧ (∀ a : Nat, a ∈ L → K a = 0 → ¬ a = x0 → ∀ j : Nat, I_38 a j = I a j) from by exact ⟨by rw [kb, hfe]; omega, by rw [kb, hme]; omega, by rw [kb]; omega, by rw [kb]; omega, fun a ha ka na j => (by exact ((congrFun (cu_a eI_38 na) j).trans ((congrFun (cu_a eI_29 na) j).trans ((congrFun (cu_a eI_21 na) j).trans (congrFun (cu_a eI_18 na) j)))))⟩) dX0_addShooting_164
    · refine lv_aload_n hx hb dX0_addShooting_49 rfl (lv_at hl 3 rfl) ?_
      refine lv_iconst (v := 2) hx hb dX0_addShooting_50 (by decide) ?_
      refine lv_iload_n hx hb dX0_addShooting_51 rfl (lv_at hl 5 rfl) ?_
      refine lv_iload_n hx hb dX0_addShooting_52 rfl (lv_at hl 6 rfl) ?_
      refine cc_Vip (vs := [.int 2, .int p1, .int p2]) (rest := []) (b := x0) (κ := 0) E hV rfl hA hml hM mx0 kx0 rfl rfl (h5_X0_known l D cA ad av L K I O _ x0 2 p1 p2 hM.2.2.2.1 mx0 kx0 Fe Ge re ve hev) (cwV 3 hts gz_X0_addShooting_X0_known_49 rfl rfl rfl (by decide +kernel) ⟨Nat.le_of_ble_eq_true rfl, Nat.le_of_ble_eq_true rfl⟩) rfl hl.1 rfl (Nat.le_of_ble_eq_true rfl) dX0_addShooting_53 ⟨show (0 : Nat) ≤ 0 from by omega, show (0 : Nat) ≤ 0 from by omega⟩ (fun r_50 H locs p_51 hM => ?_)
      replace p_51 : r_50.toInt = kN Ge re ve (2 : Int32).toInt p1.toInt p2.toInt (Fe 31).toInt.toNat := p_51
      have nn_53 := num_2
      have kr : kN Ge re ve 2 p1.toInt p2.toInt (Fe 31).toInt.toNat = r_50.toInt := by rw [p_51, show ((2 : Int32)).toInt = 2 from by decide]
      have krb := hb2
      rw [kr] at krb
      refine lv_goto (tgt := 60) hx hb dX0_addShooting_56 (by decide) ?_
      refine lv_istore (lv' := [(7, .int r_50), (6, .int z_11), (5, .int z_11), (4, .int r_2), (0, .ref x0), (1, .ref p0), (2, .int p1), (3, .int p2)]) hx hb dX0_addShooting_60 hl (by decide) rfl (fun ls hl => ?_)
      refine lv_iload hx hb dX0_addShooting_62 (lv_at hl 0 rfl) ?_
      refine lv_iconst (v := (-1)) hx hb dX0_addShooting_64 (by decide) ?_
      refine mm_icmp_ne (X := r_50.toInt) (Y := (-1)) (tgt := 72) hx hb dX0_addShooting_65 (by decide) rfl num_m1 (fun c_54 => ?_) (fun c_54 => ?_)
      · refine lv_iload hx hb dX0_addShooting_72 (lv_at hl 0 rfl) ?_
        refine lv_istore (lv' := [(8, .int r_50), (7, .int r_50), (6, .int z_11), (5, .int z_11), (4, .int r_2), (0, .ref x0), (1, .ref p0), (2, .int p1), (3, .int p2)]) hx hb dX0_addShooting_74 hl (by decide) rfl (fun ls hl => ?_)
        refine lv_iload hx hb dX0_addShooting_76 (lv_at hl 1 rfl) ?_
        refine lv_iconst (v := (-1)) hx hb dX0_addShooting_78 (by decide) ?_
        refine mm_icmp_ne (X := r_50.toInt) (Y := (-1)) (tgt := 87) hx hb dX0_addShooting_79 (by decide) rfl num_m1 (fun c_55 => ?_) (fun c_55 => False.elim (by omega))
        refine lv_iload hx hb dX0_addShooting_87 (lv_at hl 1 rfl) ?_
        refine lv_istore (lv' := [(9, .int r_50), (8, .int r_50), (7, .int r_50), (6, .int z_11), (5, .int z_11), (4, .int r_2), (0, .ref x0), (1, .ref p0), (2, .int p1), (3, .int p2)]) hx hb dX0_addShooting_89 hl (by decide) rfl (fun ls hl => ?_)
        have hbb := hB_bd r_2.toInt
        have hfe : fewS r_2.toInt = z_11.toInt := by
          unfold fewS
          (repeat' split) <;> omega
        have hme : manyS r_2.toInt = z_11.toInt := by
          unfold manyS
          (repeat' split) <;> omega
        have hrl : runLo (I p0 4).toInt (r_50.toInt) = r_50.toInt := by
          unfold runLo
          (repeat' split) <;> omega
        have hrh : runHi (I p0 4).toInt (r_50.toInt) = r_50.toInt := by
          unfold runHi
          (repeat' split) <;> omega
        refine lv_aload_n hx hb dX0_addShooting_91 rfl (lv_at hl 7 rfl) ?_
        refine cr_get (κ := 2) (ci := 2) (k := 5) (C := RX2) (T := TX2) (N := 8) (fs := cfs 2) (v := .int (I p0 5)) E hM mp0 kp0 (fun _ _ => rfl) rfl hin2 (by decide) (index := 89) (mm_at 20 rfl) rfl rfl dX0_addShooting_92 ?_
        refine lv_bipush (v := 10) hx hb dX0_addShooting_95 (by decide) ?_
        refine mm_imul (X := (I p0 5).toInt) (Y := 10) hx hb dX0_addShooting_97 rfl num_10 (by omega) (fun z_56 hz_56 => ?_)
        refine lv_istore (lv' := [(10, .int z_56), (9, .int r_50), (8, .int r_50), (7, .int r_50), (6, .int z_11), (5, .int z_11), (4, .int r_2), (0, .ref x0), (1, .ref p0), (2, .int p1), (3, .int p2)]) hx hb dX0_addShooting_98 hl (by decide) rfl (fun ls hl => ?_)
        refine lv_aload_n hx hb dX0_addShooting_100 rfl (lv_at hl 7 rfl) ?_
        refine lv_dup hx hb dX0_addShooting_101 rfl ?_
        refine cr_get (κ := 0) (ci := 0) (k := 6) (C := RX0) (T := TX0) (N := 10) (fs := cfs 0) (v := .int (I x0 6)) E hM mx0 kx0 (fun _ _ => rfl) rfl hin0 (by decide) (index := 50) (mm_at 21 rfl) rfl rfl dX0_addShooting_102 ?_
        refine lv_iload hx hb dX0_addShooting_105 (lv_at hl 5 rfl) ?_
        refine mm_iadd (X := (I x0 6).toInt) (Y := z_11.toInt) hx hb dX0_addShooting_107 rfl rfl (by omega) (fun z_57 hz_57 => ?_)
        refine cr_puti (κ := 0) (ci := 0) (k := 6) (C := RX0) (T := TX0) (N := 10) (fs := cfs 0) (ty := .int) (v := z_57) E hM mx0 kx0 (fun _ _ => rfl) rfl hin0 tyX0 tyX0_ok nmX0 (by decide) (index := 50) (mm_at 21 rfl) rfl (Or.inl rfl) (by decide +kernel) rfl rfl (show (6 : Nat) < 10 from by decide) (fun _ _ _ => rfl) (cz_nb rfl) (cS_upd (hM.sp mx0 kx0) (by decide) (by decide)) (Or.inr (Or.inr rfl)) dX0_addShooting_108 (fun H locs I_58 eI_58 hM => ?_)
        refine lv_aload_n hx hb dX0_addShooting_111 rfl (lv_at hl 7 rfl) ?_
        refine lv_dup hx hb dX0_addShooting_112 rfl ?_
        have e_59 : (I_58 x0 7).toInt = (I x0 7).toInt := congrArg Int32.toInt (cu_k eI_58 (by decide))
        refine cr_get (κ := 0) (ci := 0) (k := 7) (C := RX0) (T := TX0) (N := 10) (fs := cfs 0) (v := .int (I_58 x0 7)) E hM mx0 kx0 (fun _ _ => rfl) rfl hin0 (by decide) (index := 53) (mm_at 22 rfl) rfl rfl dX0_addShooting_113 ?_
        refine lv_iload hx hb dX0_addShooting_116 (lv_at hl 4 rfl) ?_
        refine mm_iadd (X := (I_58 x0 7).toInt) (Y := z_11.toInt) hx hb dX0_addShooting_118 rfl rfl (by omega) (fun z_60 hz_60 => ?_)
        refine cr_puti (κ := 0) (ci := 0) (k := 7) (C := RX0) (T := TX0) (N := 10) (fs := cfs 0) (ty := .int) (v := z_60) E hM mx0 kx0 (fun _ _ => rfl) rfl hin0 tyX0 tyX0_ok nmX0 (by decide) (index := 53) (mm_at 22 rfl) rfl (Or.inl rfl) (by decide +kernel) rfl rfl (show (7 : Nat) < 10 from by decide) (fun _ _ _ => rfl) (cz_nb rfl) (cS_upd (hM.sp mx0 kx0) (by decide) (by decide)) (Or.inr (Or.inr rfl)) dX0_addShooting_119 (fun H locs I_61 eI_61 hM => ?_)
        refine lv_aload_n hx hb dX0_addShooting_122 rfl (lv_at hl 7 rfl) ?_
        refine lv_dup hx hb dX0_addShooting_123 rfl ?_
        have e_62 : (I_58 x0 8).toInt = (I x0 8).toInt := congrArg Int32.toInt (cu_k eI_58 (by decide))
        have e_63 : (I_61 x0 8).toInt = (I_58 x0 8).toInt := congrArg Int32.toInt (cu_k eI_61 (by decide))
        refine cr_get (κ := 0) (ci := 0) (k := 8) (C := RX0) (T := TX0) (N := 10) (fs := cfs 0) (v := .int (I_61 x0 8)) E hM mx0 kx0 (fun _ _ => rfl) rfl hin0 (by decide) (index := 56) (mm_at 23 rfl) rfl rfl dX0_addShooting_124 ?_
        refine lv_iconst (v := 0) hx hb dX0_addShooting_127 (by decide) ?_
        refine lv_iload hx hb dX0_addShooting_128 (lv_at hl 5 rfl) ?_
        refine lv_iload hx hb dX0_addShooting_130 (lv_at hl 1 rfl) ?_
        refine mm_isub (X := z_11.toInt) (Y := r_50.toInt) hx hb dX0_addShooting_132 rfl rfl (by omega) (fun z_64 hz_64 => ?_)
        refine mm_max (X := 0) (Y := z_64.toInt) hx hb (hml.trans hl.1.symm) hown (hts _ (mm_at 24 rfl)) (hts _ (mm_at 25 rfl)) (hts _ (mm_at 26 rfl)) (hts _ (mm_at 27 rfl)) (Nat.le_of_ble_eq_true rfl) (Nat.le_of_ble_eq_true rfl) (Nat.le_of_ble_eq_true rfl) (Nat.le_of_ble_eq_true rfl) num_0 rfl dX0_addShooting_133 (fun z_65 hz_65 => ?_)
        refine lv_iload hx hb dX0_addShooting_136 (lv_at hl 0 rfl) ?_
        have hm_66 := wk_mul05 (a := z_65.toInt) (b := z_56.toInt) (by omega) (by omega)
        refine mm_imul (X := z_65.toInt) (Y := z_56.toInt) hx hb dX0_addShooting_138 rfl rfl (by omega) (fun z_67 hz_67 => ?_)
        have hza8 : z_67.toInt = penLo (I p0 4).toInt (10 * (I p0 5).toInt) r_2.toInt (r_50.toInt) := by
          unfold penLo
          rw [hfe, hrl, hz_67, ← show z_64.toInt = z_11.toInt - r_50.toInt from hz_64]
          exact wk_pen (by have n9 := num_0; omega) (by omega)
        refine mm_iadd (X := (I_61 x0 8).toInt) (Y := z_67.toInt) hx hb dX0_addShooting_139 rfl rfl (by omega) (fun z_68 hz_68 => ?_)
        refine cr_puti (κ := 0) (ci := 0) (k := 8) (C := RX0) (T := TX0) (N := 10) (fs := cfs 0) (ty := .int) (v := z_68) E hM mx0 kx0 (fun _ _ => rfl) rfl hin0 tyX0 tyX0_ok nmX0 (by decide) (index := 56) (mm_at 23 rfl) rfl (Or.inl rfl) (by decide +kernel) rfl rfl (show (8 : Nat) < 10 from by decide) (fun _ _ _ => rfl) (cz_nb rfl) (cS_upd (hM.sp mx0 kx0) (by decide) (by decide)) (Or.inr (Or.inr rfl)) dX0_addShooting_140 (fun H locs I_69 eI_69 hM => ?_)
        refine lv_aload_n hx hb dX0_addShooting_143 rfl (lv_at hl 7 rfl) ?_
        refine lv_dup hx hb dX0_addShooting_144 rfl ?_
        have e_70 : (I_58 x0 9).toInt = (I x0 9).toInt := congrArg Int32.toInt (cu_k eI_58 (by decide))
        have e_71 : (I_61 x0 9).toInt = (I_58 x0 9).toInt := congrArg Int32.toInt (cu_k eI_61 (by decide))
        have e_72 : (I_69 x0 9).toInt = (I_61 x0 9).toInt := congrArg Int32.toInt (cu_k eI_69 (by decide))
        refine cr_get (κ := 0) (ci := 0) (k := 9) (C := RX0) (T := TX0) (N := 10) (fs := cfs 0) (v := .int (I_69 x0 9)) E hM mx0 kx0 (fun _ _ => rfl) rfl hin0 (by decide) (index := 59) (mm_at 28 rfl) rfl rfl dX0_addShooting_145 ?_
        refine lv_iconst (v := 0) hx hb dX0_addShooting_148 (by decide) ?_
        refine lv_iload hx hb dX0_addShooting_149 (lv_at hl 4 rfl) ?_
        refine lv_iload hx hb dX0_addShooting_151 (lv_at hl 2 rfl) ?_
        refine mm_isub (X := z_11.toInt) (Y := r_50.toInt) hx hb dX0_addShooting_153 rfl rfl (by omega) (fun z_73 hz_73 => ?_)
        refine mm_max (X := 0) (Y := z_73.toInt) hx hb (hml.trans hl.1.symm) hown (hts _ (mm_at 24 rfl)) (hts _ (mm_at 25 rfl)) (hts _ (mm_at 26 rfl)) (hts _ (mm_at 27 rfl)) (Nat.le_of_ble_eq_true rfl) (Nat.le_of_ble_eq_true rfl) (Nat.le_of_ble_eq_true rfl) (Nat.le_of_ble_eq_true rfl) num_0 rfl dX0_addShooting_154 (fun z_74 hz_74 => ?_)
        refine lv_iload hx hb dX0_addShooting_157 (lv_at hl 0 rfl) ?_
        have hm_75 := wk_mul05 (a := z_74.toInt) (b := z_56.toInt) (by omega) (by omega)
        refine mm_imul (X := z_74.toInt) (Y := z_56.toInt) hx hb dX0_addShooting_159 rfl rfl (by omega) (fun z_76 hz_76 => ?_)
        have hza9 : z_76.toInt = penHi (I p0 4).toInt (10 * (I p0 5).toInt) r_2.toInt (r_50.toInt) := by
          unfold penHi
          rw [hme, hrh, hz_76, ← show z_73.toInt = z_11.toInt - r_50.toInt from hz_73]
          exact wk_pen (by have n9 := num_0; omega) (by omega)
        refine mm_iadd (X := (I_69 x0 9).toInt) (Y := z_76.toInt) hx hb dX0_addShooting_160 rfl rfl (by omega) (fun z_77 hz_77 => ?_)
        refine cr_puti (κ := 0) (ci := 0) (k := 9) (C := RX0) (T := TX0) (N := 10) (fs := cfs 0) (ty := .int) (v := z_77) E hM mx0 kx0 (fun _ _ => rfl) rfl hin0 tyX0 tyX0_ok nmX0 (by decide) (index := 59) (mm_at 28 rfl) rfl (Or.inl rfl) (by decide +kernel) rfl rfl (show (9 : Nat) < 10 from by decide) (fun _ _ _ => rfl) (cz_nb rfl) (cS_upd (hM.sp mx0 kx0) (by decide) (by decide)) (Or.inr (Or.inr rfl)) dX0_addShooting_161 (fun H locs I_78 eI_78 hM => ?_)
        have e_79 : (I_58 x0 6).toInt = z_57.toInt := (congrArg Int32.toInt (cu_s eI_58)).trans rfl
        have e_80 : (I_61 x0 6).toInt = (I_58 x0 6).toInt := congrArg Int32.toInt (cu_k eI_61 (by decide))
        have e_81 : (I_69 x0 6).toInt = (I_61 x0 6).toInt := congrArg Int32.toInt (cu_k eI_69 (by decide))
        have e_82 : (I_78 x0 6).toInt = (I_69 x0 6).toInt := congrArg Int32.toInt (cu_k eI_78 (by decide))
        have e_83 : (I_61 x0 7).toInt = z_60.toInt := (congrArg Int32.toInt (cu_s eI_61)).trans rfl
        have e_84 : (I_69 x0 7).toInt = (I_61 x0 7).toInt := congrArg Int32.toInt (cu_k eI_69 (by decide))
        have e_85 : (I_78 x0 7).toInt = (I_69 x0 7).toInt := congrArg Int32.toInt (cu_k eI_78 (by decide))
        have e_86 : (I_69 x0 8).toInt = z_68.toInt := (congrArg Int32.toInt (cu_s eI_69)).trans rfl
        have e_87 : (I_78 x0 8).toInt = (I_69 x0 8).toInt := congrArg Int32.toInt (cu_k eI_78 (by decide))
        have e_88 : (I_78 x0 9).toInt = z_77.toInt := (congrArg Int32.toInt (cu_s eI_78)).trans rfl
        exact cr_rv (mc := 0) (ms := 0) E hr hlk hsz hM ⟨show (0 : Nat) ≤ 0 from by omega, show (0 : Nat) ≤ 0 from by omega⟩ (show (I_78 x0 6).toInt = (I x0 6).toInt + fewS (kN Ge re ve 1 p1.toInt p2.toInt (Fe 31).toInt.toNat) ∧ (I_78 x0 7).toInt = (I x0 7).toInt + manyS (kN Ge re ve 1 p1.toInt p2.toInt (Fe 31).toInt.toNat) ∧ (I_78 x0 8).toInt = (I x0 8).toInt + penLo (I p0 4).toInt (10 * (I p0 5).toInt) (kN Ge re ve 1 p1.toInt p2.toInt (Fe 31).toInt.toNat) (kN Ge re ve 2 p1.toInt p2.toInt (Fe 31).toInt.toNat) ∧ (I_78 x0 9).toInt = (I x0 9).toInt + penHi (I p0 4).toInt (10 * (I p0 5).toInt) (kN Ge re ve 1 p1.toInt p2.toInt (Fe 31).toInt.toNat) (kN Ge re ve 2 p1.toInt p2.toInt (Fe 31).toInt.toNat) ∧ (∀ a : Nat, a ∈ L → K a = 0 → ¬ a = x0 → ∀ j : Nat, I_78 a j = I a j) from by exact ⟨by rw [kb, hfe]; omega, by rw [kb, hme]; omega, by rw [kb, kr]; omega, by rw [kb, kr]; omega, fun a ha ka na j => (by exact ((congrFun (cu_a eI_78 na) j).trans ((congrFun (cu_a eI_69 na) j).trans ((congrFun (cu_a eI_61 na) j).trans (congrFun (cu_a eI_58 na) j)))))⟩) dX0_addShooting_164
      · refine lv_iconst (v := 0) hx hb dX0_addShooting_68 (by decide) ?_
        refine lv_goto (tgt := 74) hx hb dX0_addShooting_69 (by decide) ?_
        refine lv_istore (lv' := [(8, .int 0), (7, .int r_50), (6, .int z_11), (5, .int z_11), (4, .int r_2), (0, .ref x0), (1, .ref p0), (2, .int p1), (3, .int p2)]) hx hb dX0_addShooting_74 hl (by decide) rfl (fun ls hl => ?_)
        refine lv_iload hx hb dX0_addShooting_76 (lv_at hl 1 rfl) ?_
        refine lv_iconst (v := (-1)) hx hb dX0_addShooting_78 (by decide) ?_
        refine mm_icmp_ne (X := r_50.toInt) (Y := (-1)) (tgt := 87) hx hb dX0_addShooting_79 (by decide) rfl num_m1 (fun c_89 => False.elim (by omega)) (fun c_89 => ?_)
        refine lv_bipush (v := 9) hx hb dX0_addShooting_82 (by decide) ?_
        refine lv_goto (tgt := 89) hx hb dX0_addShooting_84 (by decide) ?_
        refine lv_istore (lv' := [(9, .int 9), (8, .int 0), (7, .int r_50), (6, .int z_11), (5, .int z_11), (4, .int r_2), (0, .ref x0), (1, .ref p0), (2, .int p1), (3, .int p2)]) hx hb dX0_addShooting_89 hl (by decide) rfl (fun ls hl => ?_)
        have hbb := hB_bd r_2.toInt
        have hfe : fewS r_2.toInt = z_11.toInt := by
          have n_2 := num_0; have n_3 := num_9; unfold fewS
          (repeat' split) <;> omega
        have hme : manyS r_2.toInt = z_11.toInt := by
          have n_2 := num_0; have n_3 := num_9; unfold manyS
          (repeat' split) <;> omega
        have hrl : runLo (I p0 4).toInt (r_50.toInt) = 9 := by
          have n_2 := num_0; have n_3 := num_9; unfold runLo
          (repeat' split) <;> omega
        have hrh : runHi (I p0 4).toInt (r_50.toInt) = 0 := by
          have n_2 := num_0; have n_3 := num_9; unfold runHi
          (repeat' split) <;> omega
        refine lv_aload_n hx hb dX0_addShooting_91 rfl (lv_at hl 7 rfl) ?_
        refine cr_get (κ := 2) (ci := 2) (k := 5) (C := RX2) (T := TX2) (N := 8) (fs := cfs 2) (v := .int (I p0 5)) E hM mp0 kp0 (fun _ _ => rfl) rfl hin2 (by decide) (index := 89) (mm_at 20 rfl) rfl rfl dX0_addShooting_92 ?_
        refine lv_bipush (v := 10) hx hb dX0_addShooting_95 (by decide) ?_
        refine mm_imul (X := (I p0 5).toInt) (Y := 10) hx hb dX0_addShooting_97 rfl num_10 (by omega) (fun z_90 hz_90 => ?_)
        refine lv_istore (lv' := [(10, .int z_90), (9, .int 9), (8, .int 0), (7, .int r_50), (6, .int z_11), (5, .int z_11), (4, .int r_2), (0, .ref x0), (1, .ref p0), (2, .int p1), (3, .int p2)]) hx hb dX0_addShooting_98 hl (by decide) rfl (fun ls hl => ?_)
        refine lv_aload_n hx hb dX0_addShooting_100 rfl (lv_at hl 7 rfl) ?_
        refine lv_dup hx hb dX0_addShooting_101 rfl ?_
        refine cr_get (κ := 0) (ci := 0) (k := 6) (C := RX0) (T := TX0) (N := 10) (fs := cfs 0) (v := .int (I x0 6)) E hM mx0 kx0 (fun _ _ => rfl) rfl hin0 (by decide) (index := 50) (mm_at 21 rfl) rfl rfl dX0_addShooting_102 ?_
        refine lv_iload hx hb dX0_addShooting_105 (lv_at hl 5 rfl) ?_
        refine mm_iadd (X := (I x0 6).toInt) (Y := z_11.toInt) hx hb dX0_addShooting_107 rfl rfl (by omega) (fun z_91 hz_91 => ?_)
        refine cr_puti (κ := 0) (ci := 0) (k := 6) (C := RX0) (T := TX0) (N := 10) (fs := cfs 0) (ty := .int) (v := z_91) E hM mx0 kx0 (fun _ _ => rfl) rfl hin0 tyX0 tyX0_ok nmX0 (by decide) (index := 50) (mm_at 21 rfl) rfl (Or.inl rfl) (by decide +kernel) rfl rfl (show (6 : Nat) < 10 from by decide) (fun _ _ _ => rfl) (cz_nb rfl) (cS_upd (hM.sp mx0 kx0) (by decide) (by decide)) (Or.inr (Or.inr rfl)) dX0_addShooting_108 (fun H locs I_92 eI_92 hM => ?_)
        refine lv_aload_n hx hb dX0_addShooting_111 rfl (lv_at hl 7 rfl) ?_
        refine lv_dup hx hb dX0_addShooting_112 rfl ?_
        have e_93 : (I_92 x0 7).toInt = (I x0 7).toInt := congrArg Int32.toInt (cu_k eI_92 (by decide))
        refine cr_get (κ := 0) (ci := 0) (k := 7) (C := RX0) (T := TX0) (N := 10) (fs := cfs 0) (v := .int (I_92 x0 7)) E hM mx0 kx0 (fun _ _ => rfl) rfl hin0 (by decide) (index := 53) (mm_at 22 rfl) rfl rfl dX0_addShooting_113 ?_
        refine lv_iload hx hb dX0_addShooting_116 (lv_at hl 4 rfl) ?_
        refine mm_iadd (X := (I_92 x0 7).toInt) (Y := z_11.toInt) hx hb dX0_addShooting_118 rfl rfl (by omega) (fun z_94 hz_94 => ?_)
        refine cr_puti (κ := 0) (ci := 0) (k := 7) (C := RX0) (T := TX0) (N := 10) (fs := cfs 0) (ty := .int) (v := z_94) E hM mx0 kx0 (fun _ _ => rfl) rfl hin0 tyX0 tyX0_ok nmX0 (by decide) (index := 53) (mm_at 22 rfl) rfl (Or.inl rfl) (by decide +kernel) rfl rfl (show (7 : Nat) < 10 from by decide) (fun _ _ _ => rfl) (cz_nb rfl) (cS_upd (hM.sp mx0 kx0) (by decide) (by decide)) (Or.inr (Or.inr rfl)) dX0_addShooting_119 (fun H locs I_95 eI_95 hM => ?_)
        refine lv_aload_n hx hb dX0_addShooting_122 rfl (lv_at hl 7 rfl) ?_
        refine lv_dup hx hb dX0_addShooting_123 rfl ?_
        have e_96 : (I_92 x0 8).toInt = (I x0 8).toInt := congrArg Int32.toInt (cu_k eI_92 (by decide))
        have e_97 : (I_95 x0 8).toInt = (I_92 x0 8).toInt := congrArg Int32.toInt (cu_k eI_95 (by decide))
        refine cr_get (κ := 0) (ci := 0) (k := 8) (C := RX0) (T := TX0) (N := 10) (fs := cfs 0) (v := .int (I_95 x0 8)) E hM mx0 kx0 (fun _ _ => rfl) rfl hin0 (by decide) (index := 56) (mm_at 23 rfl) rfl rfl dX0_addShooting_124 ?_
        refine lv_iconst (v := 0) hx hb dX0_addShooting_127 (by decide) ?_
        refine lv_iload hx hb dX0_addShooting_128 (lv_at hl 5 rfl) ?_
        refine lv_iload hx hb dX0_addShooting_130 (lv_at hl 1 rfl) ?_
        refine mm_isub (X := z_11.toInt) (Y := 9) hx hb dX0_addShooting_132 rfl num_9 (by omega) (fun z_98 hz_98 => ?_)
        refine mm_max (X := 0) (Y := z_98.toInt) hx hb (hml.trans hl.1.symm) hown (hts _ (mm_at 24 rfl)) (hts _ (mm_at 25 rfl)) (hts _ (mm_at 26 rfl)) (hts _ (mm_at 27 rfl)) (Nat.le_of_ble_eq_true rfl) (Nat.le_of_ble_eq_true rfl) (Nat.le_of_ble_eq_true rfl) (Nat.le_of_ble_eq_true rfl) num_0 rfl dX0_addShooting_133 (fun z_99 hz_99 => ?_)
        refine lv_iload hx hb dX0_addShooting_136 (lv_at hl 0 rfl) ?_
        have hm_100 := wk_mul05 (a := z_99.toInt) (b := z_90.toInt) (by omega) (by omega)
        refine mm_imul (X := z_99.toInt) (Y := z_90.toInt) hx hb dX0_addShooting_138 rfl rfl (by omega) (fun z_101 hz_101 => ?_)
        have hza8 : z_101.toInt = penLo (I p0 4).toInt (10 * (I p0 5).toInt) r_2.toInt (r_50.toInt) := by
          unfold penLo
          rw [hfe, hrl, hz_101, ← show z_98.toInt = z_11.toInt - 9 from hz_98]
          exact wk_pen (by have n9 := num_0; omega) (by omega)
        refine mm_iadd (X := (I_95 x0 8).toInt) (Y := z_101.toInt) hx hb dX0_addShooting_139 rfl rfl (by omega) (fun z_102 hz_102 => ?_)
        refine cr_puti (κ := 0) (ci := 0) (k := 8) (C := RX0) (T := TX0) (N := 10) (fs := cfs 0) (ty := .int) (v := z_102) E hM mx0 kx0 (fun _ _ => rfl) rfl hin0 tyX0 tyX0_ok nmX0 (by decide) (index := 56) (mm_at 23 rfl) rfl (Or.inl rfl) (by decide +kernel) rfl rfl (show (8 : Nat) < 10 from by decide) (fun _ _ _ => rfl) (cz_nb rfl) (cS_upd (hM.sp mx0 kx0) (by decide) (by decide)) (Or.inr (Or.inr rfl)) dX0_addShooting_140 (fun H locs I_103 eI_103 hM => ?_)
        refine lv_aload_n hx hb dX0_addShooting_143 rfl (lv_at hl 7 rfl) ?_
        refine lv_dup hx hb dX0_addShooting_144 rfl ?_
        have e_104 : (I_92 x0 9).toInt = (I x0 9).toInt := congrArg Int32.toInt (cu_k eI_92 (by decide))
        have e_105 : (I_95 x0 9).toInt = (I_92 x0 9).toInt := congrArg Int32.toInt (cu_k eI_95 (by decide))
        have e_106 : (I_103 x0 9).toInt = (I_95 x0 9).toInt := congrArg Int32.toInt (cu_k eI_103 (by decide))
        refine cr_get (κ := 0) (ci := 0) (k := 9) (C := RX0) (T := TX0) (N := 10) (fs := cfs 0) (v := .int (I_103 x0 9)) E hM mx0 kx0 (fun _ _ => rfl) rfl hin0 (by decide) (index := 59) (mm_at 28 rfl) rfl rfl dX0_addShooting_145 ?_
        refine lv_iconst (v := 0) hx hb dX0_addShooting_148 (by decide) ?_
        refine lv_iload hx hb dX0_addShooting_149 (lv_at hl 4 rfl) ?_
        refine lv_iload hx hb dX0_addShooting_151 (lv_at hl 2 rfl) ?_
        refine mm_isub (X := z_11.toInt) (Y := 0) hx hb dX0_addShooting_153 rfl num_0 (by omega) (fun z_107 hz_107 => ?_)
        refine mm_max (X := 0) (Y := z_107.toInt) hx hb (hml.trans hl.1.symm) hown (hts _ (mm_at 24 rfl)) (hts _ (mm_at 25 rfl)) (hts _ (mm_at 26 rfl)) (hts _ (mm_at 27 rfl)) (Nat.le_of_ble_eq_true rfl) (Nat.le_of_ble_eq_true rfl) (Nat.le_of_ble_eq_true rfl) (Nat.le_of_ble_eq_true rfl) num_0 rfl dX0_addShooting_154 (fun z_108 hz_108 => ?_)
        refine lv_iload hx hb dX0_addShooting_157 (lv_at hl 0 rfl) ?_
        have hm_109 := wk_mul05 (a := z_108.toInt) (b := z_90.toInt) (by omega) (by omega)
        refine mm_imul (X := z_108.toInt) (Y := z_90.toInt) hx hb dX0_addShooting_159 rfl rfl (by omega) (fun z_110 hz_110 => ?_)
        have hza9 : z_110.toInt = penHi (I p0 4).toInt (10 * (I p0 5).toInt) r_2.toInt (r_50.toInt) := by
          unfold penHi
          rw [hme, hrh, hz_110, ← show z_107.toInt = z_11.toInt - 0 from hz_107]
          exact wk_pen (by have n9 := num_0; omega) (by omega)
        refine mm_iadd (X := (I_103 x0 9).toInt) (Y := z_110.toInt) hx hb dX0_addShooting_160 rfl rfl (by omega) (fun z_111 hz_111 => ?_)
        refine cr_puti (κ := 0) (ci := 0) (k := 9) (C := RX0) (T := TX0) (N := 10) (fs := cfs 0) (ty := .int) (v := z_111) E hM mx0 kx0 (fun _ _ => rfl) rfl hin0 tyX0 tyX0_ok nmX0 (by decide) (index := 59) (mm_at 28 rfl) rfl (Or.inl rfl) (by decide +kernel) rfl rfl (show (9 : Nat) < 10 from by decide) (fun _ _ _ => rfl) (cz_nb rfl) (cS_upd (hM.sp mx0 kx0) (by decide) (by decide)) (Or.inr (Or.inr rfl)) dX0_addShooting_161 (fun H locs I_112 eI_112 hM => ?_)
        have e_113 : (I_92 x0 6).toInt = z_91.toInt := (congrArg Int32.toInt (cu_s eI_92)).trans rfl
        have e_114 : (I_95 x0 6).toInt = (I_92 x0 6).toInt := congrArg Int32.toInt (cu_k eI_95 (by decide))
        have e_115 : (I_103 x0 6).toInt = (I_95 x0 6).toInt := congrArg Int32.toInt (cu_k eI_103 (by decide))
        have e_116 : (I_112 x0 6).toInt = (I_103 x0 6).toInt := congrArg Int32.toInt (cu_k eI_112 (by decide))
        have e_117 : (I_95 x0 7).toInt = z_94.toInt := (congrArg Int32.toInt (cu_s eI_95)).trans rfl
        have e_118 : (I_103 x0 7).toInt = (I_95 x0 7).toInt := congrArg Int32.toInt (cu_k eI_103 (by decide))
        have e_119 : (I_112 x0 7).toInt = (I_103 x0 7).toInt := congrArg Int32.toInt (cu_k eI_112 (by decide))
        have e_120 : (I_103 x0 8).toInt = z_102.toInt := (congrArg Int32.toInt (cu_s eI_103)).trans rfl
        have e_121 : (I_112 x0 8).toInt = (I_103 x0 8).toInt := congrArg Int32.toInt (cu_k eI_112 (by decide))
        have e_122 : (I_112 x0 9).toInt = z_111.toInt := (congrArg Int32.toInt (cu_s eI_112)).trans rfl
        exact cr_rv (mc := 0) (ms := 0) E hr hlk hsz hM ⟨show (0 : Nat) ≤ 0 from by omega, show (0 : Nat) ≤ 0 from by omega⟩ (show (I_112 x0 6).toInt = (I x0 6).toInt + fewS (kN Ge re ve 1 p1.toInt p2.toInt (Fe 31).toInt.toNat) ∧ (I_112 x0 7).toInt = (I x0 7).toInt + manyS (kN Ge re ve 1 p1.toInt p2.toInt (Fe 31).toInt.toNat) ∧ (I_112 x0 8).toInt = (I x0 8).toInt + penLo (I p0 4).toInt (10 * (I p0 5).toInt) (kN Ge re ve 1 p1.toInt p2.toInt (Fe 31).toInt.toNat) (kN Ge re ve 2 p1.toInt p2.toInt (Fe 31).toInt.toNat) ∧ (I_112 x0 9).toInt = (I x0 9).toInt + penHi (I p0 4).toInt (10 * (I p0 5).toInt) (kN Ge re ve 1 p1.toInt p2.toInt (Fe 31).toInt.toNat) (kN Ge re ve 2 p1.toInt p2.toInt (Fe 31).toInt.toNat) ∧ (∀ a : Nat, a ∈ L → K a = 0 → ¬ a = x0 → ∀ j : Nat, I_112 a j = I a j) from by exact ⟨by rw [kb, hfe]; omega, by rw [kb, hme]; omega, by rw [kb, kr]; omega, by rw [kb, kr]; omega, fun a ha ka na j => (by exact ((congrFun (cu_a eI_112 na) j).trans ((congrFun (cu_a eI_103 na) j).trans ((congrFun (cu_a eI_95 na) j).trans (congrFun (cu_a eI_92 na) j)))))⟩) dX0_addShooting_164
  · refine lv_iconst (v := 0) hx hb dX0_addShooting_15 (by decide) ?_
    refine lv_goto (tgt := 26) hx hb dX0_addShooting_16 (by decide) ?_
    refine lv_istore (lv' := [(5, .int 0), (4, .int r_2), (0, .ref x0), (1, .ref p0), (2, .int p1), (3, .int p2)]) hx hb dX0_addShooting_26 hl (by decide) rfl (fun ls hl => ?_)
    refine lv_iload hx hb dX0_addShooting_28 (lv_at hl 1 rfl) ?_
    refine lv_iconst (v := (-1)) hx hb dX0_addShooting_30 (by decide) ?_
    refine mm_icmp_ne (X := r_2.toInt) (Y := (-1)) (tgt := 38) hx hb dX0_addShooting_31 (by decide) rfl num_m1 (fun c_123 => False.elim (by omega)) (fun c_123 => ?_)
    refine lv_iconst (v := 5) hx hb dX0_addShooting_34 (by decide) ?_
    refine lv_goto (tgt := 40) hx hb dX0_addShooting_35 (by decide) ?_
    refine lv_istore (lv' := [(6, .int 5), (5, .int 0), (4, .int r_2), (0, .ref x0), (1, .ref p0), (2, .int p1), (3, .int p2)]) hx hb dX0_addShooting_40 hl (by decide) rfl (fun ls hl => ?_)
    refine lv_aload_n hx hb dX0_addShooting_42 rfl (lv_at hl 4 rfl) ?_
    refine cr_get (κ := 2) (ci := 2) (k := 4) (C := RX2) (T := TX2) (N := 8) (fs := cfs 2) (v := .int (I p0 4)) E hM mp0 kp0 (fun _ _ => rfl) rfl hin2 (by decide) (index := 86) (mm_at 19 rfl) rfl rfl dX0_addShooting_43 ?_
    refine mm_if_eq (X := (I p0 4).toInt) (tgt := 59) hx hb dX0_addShooting_46 (by decide) rfl (fun c_124 => ?_) (fun c_124 => ?_)
    · refine lv_iconst (v := 0) hx hb dX0_addShooting_59 (by decide) ?_
      refine lv_istore (lv' := [(7, .int 0), (6, .int 5), (5, .int 0), (4, .int r_2), (0, .ref x0), (1, .ref p0), (2, .int p1), (3, .int p2)]) hx hb dX0_addShooting_60 hl (by decide) rfl (fun ls hl => ?_)
      refine lv_iload hx hb dX0_addShooting_62 (lv_at hl 0 rfl) ?_
      refine lv_iconst (v := (-1)) hx hb dX0_addShooting_64 (by decide) ?_
      refine mm_icmp_ne (X := 0) (Y := (-1)) (tgt := 72) hx hb dX0_addShooting_65 (by decide) num_0 num_m1 (fun c_125 => ?_) (fun c_125 => False.elim (by omega))
      refine lv_iload hx hb dX0_addShooting_72 (lv_at hl 0 rfl) ?_
      refine lv_istore (lv' := [(8, .int 0), (7, .int 0), (6, .int 5), (5, .int 0), (4, .int r_2), (0, .ref x0), (1, .ref p0), (2, .int p1), (3, .int p2)]) hx hb dX0_addShooting_74 hl (by decide) rfl (fun ls hl => ?_)
      refine lv_iload hx hb dX0_addShooting_76 (lv_at hl 1 rfl) ?_
      refine lv_iconst (v := (-1)) hx hb dX0_addShooting_78 (by decide) ?_
      refine mm_icmp_ne (X := 0) (Y := (-1)) (tgt := 87) hx hb dX0_addShooting_79 (by decide) num_0 num_m1 (fun c_126 => ?_) (fun c_126 => False.elim (by omega))
      refine lv_iload hx hb dX0_addShooting_87 (lv_at hl 1 rfl) ?_
      refine lv_istore (lv' := [(9, .int 0), (8, .int 0), (7, .int 0), (6, .int 5), (5, .int 0), (4, .int r_2), (0, .ref x0), (1, .ref p0), (2, .int p1), (3, .int p2)]) hx hb dX0_addShooting_89 hl (by decide) rfl (fun ls hl => ?_)
      have hbb := hB_bd r_2.toInt
      have hfe : fewS r_2.toInt = 0 := by
        have n_0 := num_0; have n_1 := num_5; have n_2 := num_0; have n_3 := num_0; unfold fewS
        (repeat' split) <;> omega
      have hme : manyS r_2.toInt = 5 := by
        have n_0 := num_0; have n_1 := num_5; have n_2 := num_0; have n_3 := num_0; unfold manyS
        (repeat' split) <;> omega
      have hrl : runLo (I p0 4).toInt (kN Ge re ve 2 p1.toInt p2.toInt (Fe 31).toInt.toNat) = 0 := by
        have n_0 := num_0; have n_1 := num_5; have n_2 := num_0; have n_3 := num_0; unfold runLo
        (repeat' split) <;> omega
      have hrh : runHi (I p0 4).toInt (kN Ge re ve 2 p1.toInt p2.toInt (Fe 31).toInt.toNat) = 0 := by
        have n_0 := num_0; have n_1 := num_5; have n_2 := num_0; have n_3 := num_0; unfold runHi
        (repeat' split) <;> omega
      refine lv_aload_n hx hb dX0_addShooting_91 rfl (lv_at hl 7 rfl) ?_
      refine cr_get (κ := 2) (ci := 2) (k := 5) (C := RX2) (T := TX2) (N := 8) (fs := cfs 2) (v := .int (I p0 5)) E hM mp0 kp0 (fun _ _ => rfl) rfl hin2 (by decide) (index := 89) (mm_at 20 rfl) rfl rfl dX0_addShooting_92 ?_
      refine lv_bipush (v := 10) hx hb dX0_addShooting_95 (by decide) ?_
      refine mm_imul (X := (I p0 5).toInt) (Y := 10) hx hb dX0_addShooting_97 rfl num_10 (by omega) (fun z_127 hz_127 => ?_)
      refine lv_istore (lv' := [(10, .int z_127), (9, .int 0), (8, .int 0), (7, .int 0), (6, .int 5), (5, .int 0), (4, .int r_2), (0, .ref x0), (1, .ref p0), (2, .int p1), (3, .int p2)]) hx hb dX0_addShooting_98 hl (by decide) rfl (fun ls hl => ?_)
      refine lv_aload_n hx hb dX0_addShooting_100 rfl (lv_at hl 7 rfl) ?_
      refine lv_dup hx hb dX0_addShooting_101 rfl ?_
      refine cr_get (κ := 0) (ci := 0) (k := 6) (C := RX0) (T := TX0) (N := 10) (fs := cfs 0) (v := .int (I x0 6)) E hM mx0 kx0 (fun _ _ => rfl) rfl hin0 (by decide) (index := 50) (mm_at 21 rfl) rfl rfl dX0_addShooting_102 ?_
      refine lv_iload hx hb dX0_addShooting_105 (lv_at hl 5 rfl) ?_
      refine mm_iadd (X := (I x0 6).toInt) (Y := 0) hx hb dX0_addShooting_107 rfl num_0 (by omega) (fun z_128 hz_128 => ?_)
      refine cr_puti (κ := 0) (ci := 0) (k := 6) (C := RX0) (T := TX0) (N := 10) (fs := cfs 0) (ty := .int) (v := z_128) E hM mx0 kx0 (fun _ _ => rfl) rfl hin0 tyX0 tyX0_ok nmX0 (by decide) (index := 50) (mm_at 21 rfl) rfl (Or.inl rfl) (by decide +kernel) rfl rfl (show (6 : Nat) < 10 from by decide) (fun _ _ _ => rfl) (cz_nb rfl) (cS_upd (hM.sp mx0 kx0) (by decide) (by decide)) (Or.inr (Or.inr rfl)) dX0_addShooting_108 (fun H locs I_129 eI_129 hM => ?_)
      refine lv_aload_n hx hb dX0_addShooting_111 rfl (lv_at hl 7 rfl) ?_
      refine lv_dup hx hb dX0_addShooting_112 rfl ?_
      have e_130 : (I_129 x0 7).toInt = (I x0 7).toInt := congrArg Int32.toInt (cu_k eI_129 (by decide))
      refine cr_get (κ := 0) (ci := 0) (k := 7) (C := RX0) (T := TX0) (N := 10) (fs := cfs 0) (v := .int (I_129 x0 7)) E hM mx0 kx0 (fun _ _ => rfl) rfl hin0 (by decide) (index := 53) (mm_at 22 rfl) rfl rfl dX0_addShooting_113 ?_
      refine lv_iload hx hb dX0_addShooting_116 (lv_at hl 4 rfl) ?_
      refine mm_iadd (X := (I_129 x0 7).toInt) (Y := 5) hx hb dX0_addShooting_118 rfl num_5 (by omega) (fun z_131 hz_131 => ?_)
      refine cr_puti (κ := 0) (ci := 0) (k := 7) (C := RX0) (T := TX0) (N := 10) (fs := cfs 0) (ty := .int) (v := z_131) E hM mx0 kx0 (fun _ _ => rfl) rfl hin0 tyX0 tyX0_ok nmX0 (by decide) (index := 53) (mm_at 22 rfl) rfl (Or.inl rfl) (by decide +kernel) rfl rfl (show (7 : Nat) < 10 from by decide) (fun _ _ _ => rfl) (cz_nb rfl) (cS_upd (hM.sp mx0 kx0) (by decide) (by decide)) (Or.inr (Or.inr rfl)) dX0_addShooting_119 (fun H locs I_132 eI_132 hM => ?_)
      refine lv_aload_n hx hb dX0_addShooting_122 rfl (lv_at hl 7 rfl) ?_
      refine lv_dup hx hb dX0_addShooting_123 rfl ?_
      have e_133 : (I_129 x0 8).toInt = (I x0 8).toInt := congrArg Int32.toInt (cu_k eI_129 (by decide))
      have e_134 : (I_132 x0 8).toInt = (I_129 x0 8).toInt := congrArg Int32.toInt (cu_k eI_132 (by decide))
      refine cr_get (κ := 0) (ci := 0) (k := 8) (C := RX0) (T := TX0) (N := 10) (fs := cfs 0) (v := .int (I_132 x0 8)) E hM mx0 kx0 (fun _ _ => rfl) rfl hin0 (by decide) (index := 56) (mm_at 23 rfl) rfl rfl dX0_addShooting_124 ?_
      refine lv_iconst (v := 0) hx hb dX0_addShooting_127 (by decide) ?_
      refine lv_iload hx hb dX0_addShooting_128 (lv_at hl 5 rfl) ?_
      refine lv_iload hx hb dX0_addShooting_130 (lv_at hl 1 rfl) ?_
      refine mm_isub (X := 0) (Y := 0) hx hb dX0_addShooting_132 num_0 num_0 (by omega) (fun z_135 hz_135 => ?_)
      refine mm_max (X := 0) (Y := z_135.toInt) hx hb (hml.trans hl.1.symm) hown (hts _ (mm_at 24 rfl)) (hts _ (mm_at 25 rfl)) (hts _ (mm_at 26 rfl)) (hts _ (mm_at 27 rfl)) (Nat.le_of_ble_eq_true rfl) (Nat.le_of_ble_eq_true rfl) (Nat.le_of_ble_eq_true rfl) (Nat.le_of_ble_eq_true rfl) num_0 rfl dX0_addShooting_133 (fun z_136 hz_136 => ?_)
      refine lv_iload hx hb dX0_addShooting_136 (lv_at hl 0 rfl) ?_
      have hm_137 := wk_mul05 (a := z_136.toInt) (b := z_127.toInt) (by omega) (by omega)
      refine mm_imul (X := z_136.toInt) (Y := z_127.toInt) hx hb dX0_addShooting_138 rfl rfl (by omega) (fun z_138 hz_138 => ?_)
      have hza8 : z_138.toInt = penLo (I p0 4).toInt (10 * (I p0 5).toInt) r_2.toInt (kN Ge re ve 2 p1.toInt p2.toInt (Fe 31).toInt.toNat) := by
        unfold penLo
        rw [hfe, hrl, hz_138, ← show z_135.toInt = 0 - 0 from hz_135]
        exact wk_pen (by have n9 := num_0; omega) (by omega)
      refine mm_iadd (X := (I_132 x0 8).toInt) (Y := z_138.toInt) hx hb dX0_addShooting_139 rfl rfl (by omega) (fun z_139 hz_139 => ?_)
      refine cr_puti (κ := 0) (ci := 0) (k := 8) (C := RX0) (T := TX0) (N := 10) (fs := cfs 0) (ty := .int) (v := z_139) E hM mx0 kx0 (fun _ _ => rfl) rfl hin0 tyX0 tyX0_ok nmX0 (by decide) (index := 56) (mm_at 23 rfl) rfl (Or.inl rfl) (by decide +kernel) rfl rfl (show (8 : Nat) < 10 from by decide) (fun _ _ _ => rfl) (cz_nb rfl) (cS_upd (hM.sp mx0 kx0) (by decide) (by decide)) (Or.inr (Or.inr rfl)) dX0_addShooting_140 (fun H locs I_140 eI_140 hM => ?_)
      refine lv_aload_n hx hb dX0_addShooting_143 rfl (lv_at hl 7 rfl) ?_
      refine lv_dup hx hb dX0_addShooting_144 rfl ?_
      have e_141 : (I_129 x0 9).toInt = (I x0 9).toInt := congrArg Int32.toInt (cu_k eI_129 (by decide))
      have e_142 : (I_132 x0 9).toInt = (I_129 x0 9).toInt := congrArg Int32.toInt (cu_k eI_132 (by decide))
      have e_143 : (I_140 x0 9).toInt = (I_132 x0 9).toInt := congrArg Int32.toInt (cu_k eI_140 (by decide))
      refine cr_get (κ := 0) (ci := 0) (k := 9) (C := RX0) (T := TX0) (N := 10) (fs := cfs 0) (v := .int (I_140 x0 9)) E hM mx0 kx0 (fun _ _ => rfl) rfl hin0 (by decide) (index := 59) (mm_at 28 rfl) rfl rfl dX0_addShooting_145 ?_
      refine lv_iconst (v := 0) hx hb dX0_addShooting_148 (by decide) ?_
      refine lv_iload hx hb dX0_addShooting_149 (lv_at hl 4 rfl) ?_
      refine lv_iload hx hb dX0_addShooting_151 (lv_at hl 2 rfl) ?_
      refine mm_isub (X := 5) (Y := 0) hx hb dX0_addShooting_153 num_5 num_0 (by omega) (fun z_144 hz_144 => ?_)
      refine mm_max (X := 0) (Y := z_144.toInt) hx hb (hml.trans hl.1.symm) hown (hts _ (mm_at 24 rfl)) (hts _ (mm_at 25 rfl)) (hts _ (mm_at 26 rfl)) (hts _ (mm_at 27 rfl)) (Nat.le_of_ble_eq_true rfl) (Nat.le_of_ble_eq_true rfl) (Nat.le_of_ble_eq_true rfl) (Nat.le_of_ble_eq_true rfl) num_0 rfl dX0_addShooting_154 (fun z_145 hz_145 => ?_)
      refine lv_iload hx hb dX0_addShooting_157 (lv_at hl 0 rfl) ?_
      have hm_146 := wk_mul05 (a := z_145.toInt) (b := z_127.toInt) (by omega) (by omega)
      refine mm_imul (X := z_145.toInt) (Y := z_127.toInt) hx hb dX0_addShooting_159 rfl rfl (by omega) (fun z_147 hz_147 => ?_)
      have hza9 : z_147.toInt = penHi (I p0 4).toInt (10 * (I p0 5).toInt) r_2.toInt (kN Ge re ve 2 p1.toInt p2.toInt (Fe 31).toInt.toNat) := by
        unfold penHi
        rw [hme, hrh, hz_147, ← show z_144.toInt = 5 - 0 from hz_144]
        exact wk_pen (by have n9 := num_0; omega) (by omega)
      refine mm_iadd (X := (I_140 x0 9).toInt) (Y := z_147.toInt) hx hb dX0_addShooting_160 rfl rfl (by omega) (fun z_148 hz_148 => ?_)
      refine cr_puti (κ := 0) (ci := 0) (k := 9) (C := RX0) (T := TX0) (N := 10) (fs := cfs 0) (ty := .int) (v := z_148) E hM mx0 kx0 (fun _ _ => rfl) rfl hin0 tyX0 tyX0_ok nmX0 (by decide) (index := 59) (mm_at 28 rfl) rfl (Or.inl rfl) (by decide +kernel) rfl rfl (show (9 : Nat) < 10 from by decide) (fun _ _ _ => rfl) (cz_nb rfl) (cS_upd (hM.sp mx0 kx0) (by decide) (by decide)) (Or.inr (Or.inr rfl)) dX0_addShooting_161 (fun H locs I_149 eI_149 hM => ?_)
      have e_150 : (I_129 x0 6).toInt = z_128.toInt := (congrArg Int32.toInt (cu_s eI_129)).trans rfl
      have e_151 : (I_132 x0 6).toInt = (I_129 x0 6).toInt := congrArg Int32.toInt (cu_k eI_132 (by decide))
      have e_152 : (I_140 x0 6).toInt = (I_132 x0 6).toInt := congrArg Int32.toInt (cu_k eI_140 (by decide))
      have e_153 : (I_149 x0 6).toInt = (I_140 x0 6).toInt := congrArg Int32.toInt (cu_k eI_149 (by decide))
      have e_154 : (I_132 x0 7).toInt = z_131.toInt := (congrArg Int32.toInt (cu_s eI_132)).trans rfl
      have e_155 : (I_140 x0 7).toInt = (I_132 x0 7).toInt := congrArg Int32.toInt (cu_k eI_140 (by decide))
      have e_156 : (I_149 x0 7).toInt = (I_140 x0 7).toInt := congrArg Int32.toInt (cu_k eI_149 (by decide))
      have e_157 : (I_140 x0 8).toInt = z_139.toInt := (congrArg Int32.toInt (cu_s eI_140)).trans rfl
      have e_158 : (I_149 x0 8).toInt = (I_140 x0 8).toInt := congrArg Int32.toInt (cu_k eI_149 (by decide))
      have e_159 : (I_149 x0 9).toInt = z_148.toInt := (congrArg Int32.toInt (cu_s eI_149)).trans rfl
      exact cr_rv (mc := 0) (ms := 0) E hr hlk hsz hM ⟨show (0 : Nat) ≤ 0 from by omega, show (0 : Nat) ≤ 0 from by omega⟩ (show (I_149 x0 6).toInt = (I x0 6).toInt + fewS (kN Ge re ve 1 p1.toInt p2.toInt (Fe 31).toInt.toNat) ∧ (I_149 x0 7).toInt = (I x0 7).toInt + manyS (kN Ge re ve 1 p1.toInt p2.toInt (Fe 31).toInt.toNat) ∧ (I_149 x0 8).toInt = (I x0 8).toInt + penLo (I p0 4).toInt (10 * (I p0 5).toInt) (kN Ge re ve 1 p1.toInt p2.toInt (Fe 31).toInt.toNat) (kN Ge re ve 2 p1.toInt p2.toInt (Fe 31).toInt.toNat) ∧ (I_149 x0 9).toInt = (I x0 9).toInt + penHi (I p0 4).toInt (10 * (I p0 5).toInt) (kN Ge re ve 1 p1.toInt p2.toInt (Fe 31).toInt.toNat) (kN Ge re ve 2 p1.toInt p2.toInt (Fe 31).toInt.toNat) ∧ (∀ a : Nat, a ∈ L → K a = 0 → ¬ a = x0 → ∀ j : Nat, I_149 a j = I a j) from by exact ⟨by rw [kb, hfe]; omega, by rw [kb, hme]; omega, by rw [kb]; omega, by rw [kb]; omega, fun a ha ka na j => (by exact ((congrFun (cu_a eI_149 na) j).trans ((congrFun (cu_a eI_140 na) j).trans ((congrFun (cu_a eI_132 na) j).trans (congrFun (cu_a eI_129 na) j)))))⟩) dX0_addShooting_164
    · refine lv_aload_n hx hb dX0_addShooting_49 rfl (lv_at hl 3 rfl) ?_
      refine lv_iconst (v := 2) hx hb dX0_addShooting_50 (by decide) ?_
      refine lv_iload_n hx hb dX0_addShooting_51 rfl (lv_at hl 5 rfl) ?_
      refine lv_iload_n hx hb dX0_addShooting_52 rfl (lv_at hl 6 rfl) ?_
      refine cc_Vip (vs := [.int 2, .int p1, .int p2]) (rest := []) (b := x0) (κ := 0) E hV rfl hA hml hM mx0 kx0 rfl rfl (h5_X0_known l D cA ad av L K I O _ x0 2 p1 p2 hM.2.2.2.1 mx0 kx0 Fe Ge re ve hev) (cwV 3 hts gz_X0_addShooting_X0_known_160 rfl rfl rfl (by decide +kernel) ⟨Nat.le_of_ble_eq_true rfl, Nat.le_of_ble_eq_true rfl⟩) rfl hl.1 rfl (Nat.le_of_ble_eq_true rfl) dX0_addShooting_53 ⟨show (0 : Nat) ≤ 0 from by omega, show (0 : Nat) ≤ 0 from by omega⟩ (fun r_161 H locs p_162 hM => ?_)
      replace p_162 : r_161.toInt = kN Ge re ve (2 : Int32).toInt p1.toInt p2.toInt (Fe 31).toInt.toNat := p_162
      have nn_164 := num_2
      have kr : kN Ge re ve 2 p1.toInt p2.toInt (Fe 31).toInt.toNat = r_161.toInt := by rw [p_162, show ((2 : Int32)).toInt = 2 from by decide]
      have krb := hb2
      rw [kr] at krb
      refine lv_goto (tgt := 60) hx hb dX0_addShooting_56 (by decide) ?_
      refine lv_istore (lv' := [(7, .int r_161), (6, .int 5), (5, .int 0), (4, .int r_2), (0, .ref x0), (1, .ref p0), (2, .int p1), (3, .int p2)]) hx hb dX0_addShooting_60 hl (by decide) rfl (fun ls hl => ?_)
      refine lv_iload hx hb dX0_addShooting_62 (lv_at hl 0 rfl) ?_
      refine lv_iconst (v := (-1)) hx hb dX0_addShooting_64 (by decide) ?_
      refine mm_icmp_ne (X := r_161.toInt) (Y := (-1)) (tgt := 72) hx hb dX0_addShooting_65 (by decide) rfl num_m1 (fun c_165 => ?_) (fun c_165 => ?_)
      · refine lv_iload hx hb dX0_addShooting_72 (lv_at hl 0 rfl) ?_
        refine lv_istore (lv' := [(8, .int r_161), (7, .int r_161), (6, .int 5), (5, .int 0), (4, .int r_2), (0, .ref x0), (1, .ref p0), (2, .int p1), (3, .int p2)]) hx hb dX0_addShooting_74 hl (by decide) rfl (fun ls hl => ?_)
        refine lv_iload hx hb dX0_addShooting_76 (lv_at hl 1 rfl) ?_
        refine lv_iconst (v := (-1)) hx hb dX0_addShooting_78 (by decide) ?_
        refine mm_icmp_ne (X := r_161.toInt) (Y := (-1)) (tgt := 87) hx hb dX0_addShooting_79 (by decide) rfl num_m1 (fun c_166 => ?_) (fun c_166 => False.elim (by omega))
        refine lv_iload hx hb dX0_addShooting_87 (lv_at hl 1 rfl) ?_
        refine lv_istore (lv' := [(9, .int r_161), (8, .int r_161), (7, .int r_161), (6, .int 5), (5, .int 0), (4, .int r_2), (0, .ref x0), (1, .ref p0), (2, .int p1), (3, .int p2)]) hx hb dX0_addShooting_89 hl (by decide) rfl (fun ls hl => ?_)
        have hbb := hB_bd r_2.toInt
        have hfe : fewS r_2.toInt = 0 := by
          have n_0 := num_0; have n_1 := num_5; unfold fewS
          (repeat' split) <;> omega
        have hme : manyS r_2.toInt = 5 := by
          have n_0 := num_0; have n_1 := num_5; unfold manyS
          (repeat' split) <;> omega
        have hrl : runLo (I p0 4).toInt (r_161.toInt) = r_161.toInt := by
          have n_0 := num_0; have n_1 := num_5; unfold runLo
          (repeat' split) <;> omega
        have hrh : runHi (I p0 4).toInt (r_161.toInt) = r_161.toInt := by
          have n_0 := num_0; have n_1 := num_5; unfold runHi
          (repeat' split) <;> omega
        refine lv_aload_n hx hb dX0_addShooting_91 rfl (lv_at hl 7 rfl) ?_
        refine cr_get (κ := 2) (ci := 2) (k := 5) (C := RX2) (T := TX2) (N := 8) (fs := cfs 2) (v := .int (I p0 5)) E hM mp0 kp0 (fun _ _ => rfl) rfl hin2 (by decide) (index := 89) (mm_at 20 rfl) rfl rfl dX0_addShooting_92 ?_
        refine lv_bipush (v := 10) hx hb dX0_addShooting_95 (by decide) ?_
        refine mm_imul (X := (I p0 5).toInt) (Y := 10) hx hb dX0_addShooting_97 rfl num_10 (by omega) (fun z_167 hz_167 => ?_)
        refine lv_istore (lv' := [(10, .int z_167), (9, .int r_161), (8, .int r_161), (7, .int r_161), (6, .int 5), (5, .int 0), (4, .int r_2), (0, .ref x0), (1, .ref p0), (2, .int p1), (3, .int p2)]) hx hb dX0_addShooting_98 hl (by decide) rfl (fun ls hl => ?_)
        refine lv_aload_n hx hb dX0_addShooting_100 rfl (lv_at hl 7 rfl) ?_
        refine lv_dup hx hb dX0_addShooting_101 rfl ?_
        refine cr_get (κ := 0) (ci := 0) (k := 6) (C := RX0) (T := TX0) (N := 10) (fs := cfs 0) (v := .int (I x0 6)) E hM mx0 kx0 (fun _ _ => rfl) rfl hin0 (by decide) (index := 50) (mm_at 21 rfl) rfl rfl dX0_addShooting_102 ?_
        refine lv_iload hx hb dX0_addShooting_105 (lv_at hl 5 rfl) ?_
        refine mm_iadd (X := (I x0 6).toInt) (Y := 0) hx hb dX0_addShooting_107 rfl num_0 (by omega) (fun z_168 hz_168 => ?_)
        refine cr_puti (κ := 0) (ci := 0) (k := 6) (C := RX0) (T := TX0) (N := 10) (fs := cfs 0) (ty := .int) (v := z_168) E hM mx0 kx0 (fun _ _ => rfl) rfl hin0 tyX0 tyX0_ok nmX0 (by decide) (index := 50) (mm_at 21 rfl) rfl (Or.inl rfl) (by decide +kernel) rfl rfl (show (6 : Nat) < 10 from by decide) (fun _ _ _ => rfl) (cz_nb rfl) (cS_upd (hM.sp mx0 kx0) (by decide) (by decide)) (Or.inr (Or.inr rfl)) dX0_addShooting_108 (fun H locs I_169 eI_169 hM => ?_)
        refine lv_aload_n hx hb dX0_addShooting_111 rfl (lv_at hl 7 rfl) ?_
        refine lv_dup hx hb dX0_addShooting_112 rfl ?_
        have e_170 : (I_169 x0 7).toInt = (I x0 7).toInt := congrArg Int32.toInt (cu_k eI_169 (by decide))
        refine cr_get (κ := 0) (ci := 0) (k := 7) (C := RX0) (T := TX0) (N := 10) (fs := cfs 0) (v := .int (I_169 x0 7)) E hM mx0 kx0 (fun _ _ => rfl) rfl hin0 (by decide) (index := 53) (mm_at 22 rfl) rfl rfl dX0_addShooting_113 ?_
        refine lv_iload hx hb dX0_addShooting_116 (lv_at hl 4 rfl) ?_
        refine mm_iadd (X := (I_169 x0 7).toInt) (Y := 5) hx hb dX0_addShooting_118 rfl num_5 (by omega) (fun z_171 hz_171 => ?_)
        refine cr_puti (κ := 0) (ci := 0) (k := 7) (C := RX0) (T := TX0) (N := 10) (fs := cfs 0) (ty := .int) (v := z_171) E hM mx0 kx0 (fun _ _ => rfl) rfl hin0 tyX0 tyX0_ok nmX0 (by decide) (index := 53) (mm_at 22 rfl) rfl (Or.inl rfl) (by decide +kernel) rfl rfl (show (7 : Nat) < 10 from by decide) (fun _ _ _ => rfl) (cz_nb rfl) (cS_upd (hM.sp mx0 kx0) (by decide) (by decide)) (Or.inr (Or.inr rfl)) dX0_addShooting_119 (fun H locs I_172 eI_172 hM => ?_)
        refine lv_aload_n hx hb dX0_addShooting_122 rfl (lv_at hl 7 rfl) ?_
        refine lv_dup hx hb dX0_addShooting_123 rfl ?_
        have e_173 : (I_169 x0 8).toInt = (I x0 8).toInt := congrArg Int32.toInt (cu_k eI_169 (by decide))
        have e_174 : (I_172 x0 8).toInt = (I_169 x0 8).toInt := congrArg Int32.toInt (cu_k eI_172 (by decide))
        refine cr_get (κ := 0) (ci := 0) (k := 8) (C := RX0) (T := TX0) (N := 10) (fs := cfs 0) (v := .int (I_172 x0 8)) E hM mx0 kx0 (fun _ _ => rfl) rfl hin0 (by decide) (index := 56) (mm_at 23 rfl) rfl rfl dX0_addShooting_124 ?_
        refine lv_iconst (v := 0) hx hb dX0_addShooting_127 (by decide) ?_
        refine lv_iload hx hb dX0_addShooting_128 (lv_at hl 5 rfl) ?_
        refine lv_iload hx hb dX0_addShooting_130 (lv_at hl 1 rfl) ?_
        refine mm_isub (X := 0) (Y := r_161.toInt) hx hb dX0_addShooting_132 num_0 rfl (by omega) (fun z_175 hz_175 => ?_)
        refine mm_max (X := 0) (Y := z_175.toInt) hx hb (hml.trans hl.1.symm) hown (hts _ (mm_at 24 rfl)) (hts _ (mm_at 25 rfl)) (hts _ (mm_at 26 rfl)) (hts _ (mm_at 27 rfl)) (Nat.le_of_ble_eq_true rfl) (Nat.le_of_ble_eq_true rfl) (Nat.le_of_ble_eq_true rfl) (Nat.le_of_ble_eq_true rfl) num_0 rfl dX0_addShooting_133 (fun z_176 hz_176 => ?_)
        refine lv_iload hx hb dX0_addShooting_136 (lv_at hl 0 rfl) ?_
        have hm_177 := wk_mul05 (a := z_176.toInt) (b := z_167.toInt) (by omega) (by omega)
        refine mm_imul (X := z_176.toInt) (Y := z_167.toInt) hx hb dX0_addShooting_138 rfl rfl (by omega) (fun z_178 hz_178 => ?_)
        have hza8 : z_178.toInt = penLo (I p0 4).toInt (10 * (I p0 5).toInt) r_2.toInt (r_161.toInt) := by
          unfold penLo
          rw [hfe, hrl, hz_178, ← show z_175.toInt = 0 - r_161.toInt from hz_175]
          exact wk_pen (by have n9 := num_0; omega) (by omega)
        refine mm_iadd (X := (I_172 x0 8).toInt) (Y := z_178.toInt) hx hb dX0_addShooting_139 rfl rfl (by omega) (fun z_179 hz_179 => ?_)
        refine cr_puti (κ := 0) (ci := 0) (k := 8) (C := RX0) (T := TX0) (N := 10) (fs := cfs 0) (ty := .int) (v := z_179) E hM mx0 kx0 (fun _ _ => rfl) rfl hin0 tyX0 tyX0_ok nmX0 (by decide) (index := 56) (mm_at 23 rfl) rfl (Or.inl rfl) (by decide +kernel) rfl rfl (show (8 : Nat) < 10 from by decide) (fun _ _ _ => rfl) (cz_nb rfl) (cS_upd (hM.sp mx0 kx0) (by decide) (by decide)) (Or.inr (Or.inr rfl)) dX0_addShooting_140 (fun H locs I_180 eI_180 hM => ?_)
        refine lv_aload_n hx hb dX0_addShooting_143 rfl (lv_at hl 7 rfl) ?_
        refine lv_dup hx hb dX0_addShooting_144 rfl ?_
        have e_181 : (I_169 x0 9).toInt = (I x0 9).toInt := congrArg Int32.toInt (cu_k eI_169 (by decide))
        have e_182 : (I_172 x0 9).toInt = (I_169 x0 9).toInt := congrArg Int32.toInt (cu_k eI_172 (by decide))
        have e_183 : (I_180 x0 9).toInt = (I_172 x0 9).toInt := congrArg Int32.toInt (cu_k eI_180 (by decide))
        refine cr_get (κ := 0) (ci := 0) (k := 9) (C := RX0) (T := TX0) (N := 10) (fs := cfs 0) (v := .int (I_180 x0 9)) E hM mx0 kx0 (fun _ _ => rfl) rfl hin0 (by decide) (index := 59) (mm_at 28 rfl) rfl rfl dX0_addShooting_145 ?_
        refine lv_iconst (v := 0) hx hb dX0_addShooting_148 (by decide) ?_
        refine lv_iload hx hb dX0_addShooting_149 (lv_at hl 4 rfl) ?_
        refine lv_iload hx hb dX0_addShooting_151 (lv_at hl 2 rfl) ?_
        refine mm_isub (X := 5) (Y := r_161.toInt) hx hb dX0_addShooting_153 num_5 rfl (by omega) (fun z_184 hz_184 => ?_)
        refine mm_max (X := 0) (Y := z_184.toInt) hx hb (hml.trans hl.1.symm) hown (hts _ (mm_at 24 rfl)) (hts _ (mm_at 25 rfl)) (hts _ (mm_at 26 rfl)) (hts _ (mm_at 27 rfl)) (Nat.le_of_ble_eq_true rfl) (Nat.le_of_ble_eq_true rfl) (Nat.le_of_ble_eq_true rfl) (Nat.le_of_ble_eq_true rfl) num_0 rfl dX0_addShooting_154 (fun z_185 hz_185 => ?_)
        refine lv_iload hx hb dX0_addShooting_157 (lv_at hl 0 rfl) ?_
        have hm_186 := wk_mul05 (a := z_185.toInt) (b := z_167.toInt) (by omega) (by omega)
        refine mm_imul (X := z_185.toInt) (Y := z_167.toInt) hx hb dX0_addShooting_159 rfl rfl (by omega) (fun z_187 hz_187 => ?_)
        have hza9 : z_187.toInt = penHi (I p0 4).toInt (10 * (I p0 5).toInt) r_2.toInt (r_161.toInt) := by
          unfold penHi
          rw [hme, hrh, hz_187, ← show z_184.toInt = 5 - r_161.toInt from hz_184]
          exact wk_pen (by have n9 := num_0; omega) (by omega)
        refine mm_iadd (X := (I_180 x0 9).toInt) (Y := z_187.toInt) hx hb dX0_addShooting_160 rfl rfl (by omega) (fun z_188 hz_188 => ?_)
        refine cr_puti (κ := 0) (ci := 0) (k := 9) (C := RX0) (T := TX0) (N := 10) (fs := cfs 0) (ty := .int) (v := z_188) E hM mx0 kx0 (fun _ _ => rfl) rfl hin0 tyX0 tyX0_ok nmX0 (by decide) (index := 59) (mm_at 28 rfl) rfl (Or.inl rfl) (by decide +kernel) rfl rfl (show (9 : Nat) < 10 from by decide) (fun _ _ _ => rfl) (cz_nb rfl) (cS_upd (hM.sp mx0 kx0) (by decide) (by decide)) (Or.inr (Or.inr rfl)) dX0_addShooting_161 (fun H locs I_189 eI_189 hM => ?_)
        have e_190 : (I_169 x0 6).toInt = z_168.toInt := (congrArg Int32.toInt (cu_s eI_169)).trans rfl
        have e_191 : (I_172 x0 6).toInt = (I_169 x0 6).toInt := congrArg Int32.toInt (cu_k eI_172 (by decide))
        have e_192 : (I_180 x0 6).toInt = (I_172 x0 6).toInt := congrArg Int32.toInt (cu_k eI_180 (by decide))
        have e_193 : (I_189 x0 6).toInt = (I_180 x0 6).toInt := congrArg Int32.toInt (cu_k eI_189 (by decide))
        have e_194 : (I_172 x0 7).toInt = z_171.toInt := (congrArg Int32.toInt (cu_s eI_172)).trans rfl
        have e_195 : (I_180 x0 7).toInt = (I_172 x0 7).toInt := congrArg Int32.toInt (cu_k eI_180 (by decide))
        have e_196 : (I_189 x0 7).toInt = (I_180 x0 7).toInt := congrArg Int32.toInt (cu_k eI_189 (by decide))
        have e_197 : (I_180 x0 8).toInt = z_179.toInt := (congrArg Int32.toInt (cu_s eI_180)).trans rfl
        have e_198 : (I_189 x0 8).toInt = (I_180 x0 8).toInt := congrArg Int32.toInt (cu_k eI_189 (by decide))
        have e_199 : (I_189 x0 9).toInt = z_188.toInt := (congrArg Int32.toInt (cu_s eI_189)).trans rfl
        exact cr_rv (mc := 0) (ms := 0) E hr hlk hsz hM ⟨show (0 : Nat) ≤ 0 from by omega, show (0 : Nat) ≤ 0 from by omega⟩ (show (I_189 x0 6).toInt = (I x0 6).toInt + fewS (kN Ge re ve 1 p1.toInt p2.toInt (Fe 31).toInt.toNat) ∧ (I_189 x0 7).toInt = (I x0 7).toInt + manyS (kN Ge re ve 1 p1.toInt p2.toInt (Fe 31).toInt.toNat) ∧ (I_189 x0 8).toInt = (I x0 8).toInt + penLo (I p0 4).toInt (10 * (I p0 5).toInt) (kN Ge re ve 1 p1.toInt p2.toInt (Fe 31).toInt.toNat) (kN Ge re ve 2 p1.toInt p2.toInt (Fe 31).toInt.toNat) ∧ (I_189 x0 9).toInt = (I x0 9).toInt + penHi (I p0 4).toInt (10 * (I p0 5).toInt) (kN Ge re ve 1 p1.toInt p2.toInt (Fe 31).toInt.toNat) (kN Ge re ve 2 p1.toInt p2.toInt (Fe 31).toInt.toNat) ∧ (∀ a : Nat, a ∈ L → K a = 0 → ¬ a = x0 → ∀ j : Nat, I_189 a j = I a j) from by exact ⟨by rw [kb, hfe]; omega, by rw [kb, hme]; omega, by rw [kb, kr]; omega, by rw [kb, kr]; omega, fun a ha ka na j => (by exact ((congrFun (cu_a eI_189 na) j).trans ((congrFun (cu_a eI_180 na) j).trans ((congrFun (cu_a eI_172 na) j).trans (congrFun (cu_a eI_169 na) j)))))⟩) dX0_addShooting_164
      · refine lv_iconst (v := 0) hx hb dX0_addShooting_68 (by decide) ?_
        refine lv_goto (tgt := 74) hx hb dX0_addShooting_69 (by decide) ?_
        refine lv_istore (lv' := [(8, .int 0), (7, .int r_161), (6, .int 5), (5, .int 0), (4, .int r_2), (0, .ref x0), (1, .ref p0), (2, .int p1), (3, .int p2)]) hx hb dX0_addShooting_74 hl (by decide) rfl (fun ls hl => ?_)
        refine lv_iload hx hb dX0_addShooting_76 (lv_at hl 1 rfl) ?_
        refine lv_iconst (v := (-1)) hx hb dX0_addShooting_78 (by decide) ?_
        refine mm_icmp_ne (X := r_161.toInt) (Y := (-1)) (tgt := 87) hx hb dX0_addShooting_79 (by decide) rfl num_m1 (fun c_200 => False.elim (by omega)) (fun c_200 => ?_)
        refine lv_bipush (v := 9) hx hb dX0_addShooting_82 (by decide) ?_
        refine lv_goto (tgt := 89) hx hb dX0_addShooting_84 (by decide) ?_
        refine lv_istore (lv' := [(9, .int 9), (8, .int 0), (7, .int r_161), (6, .int 5), (5, .int 0), (4, .int r_2), (0, .ref x0), (1, .ref p0), (2, .int p1), (3, .int p2)]) hx hb dX0_addShooting_89 hl (by decide) rfl (fun ls hl => ?_)
        have hbb := hB_bd r_2.toInt
        have hfe : fewS r_2.toInt = 0 := by
          have n_0 := num_0; have n_1 := num_5; have n_2 := num_0; have n_3 := num_9; unfold fewS
          (repeat' split) <;> omega
        have hme : manyS r_2.toInt = 5 := by
          have n_0 := num_0; have n_1 := num_5; have n_2 := num_0; have n_3 := num_9; unfold manyS
          (repeat' split) <;> omega
        have hrl : runLo (I p0 4).toInt (r_161.toInt) = 9 := by
          have n_0 := num_0; have n_1 := num_5; have n_2 := num_0; have n_3 := num_9; unfold runLo
          (repeat' split) <;> omega
        have hrh : runHi (I p0 4).toInt (r_161.toInt) = 0 := by
          have n_0 := num_0; have n_1 := num_5; have n_2 := num_0; have n_3 := num_9; unfold runHi
          (repeat' split) <;> omega
        refine lv_aload_n hx hb dX0_addShooting_91 rfl (lv_at hl 7 rfl) ?_
        refine cr_get (κ := 2) (ci := 2) (k := 5) (C := RX2) (T := TX2) (N := 8) (fs := cfs 2) (v := .int (I p0 5)) E hM mp0 kp0 (fun _ _ => rfl) rfl hin2 (by decide) (index := 89) (mm_at 20 rfl) rfl rfl dX0_addShooting_92 ?_
        refine lv_bipush (v := 10) hx hb dX0_addShooting_95 (by decide) ?_
        refine mm_imul (X := (I p0 5).toInt) (Y := 10) hx hb dX0_addShooting_97 rfl num_10 (by omega) (fun z_201 hz_201 => ?_)
        refine lv_istore (lv' := [(10, .int z_201), (9, .int 9), (8, .int 0), (7, .int r_161), (6, .int 5), (5, .int 0), (4, .int r_2), (0, .ref x0), (1, .ref p0), (2, .int p1), (3, .int p2)]) hx hb dX0_addShooting_98 hl (by decide) rfl (fun ls hl => ?_)
        refine lv_aload_n hx hb dX0_addShooting_100 rfl (lv_at hl 7 rfl) ?_
        refine lv_dup hx hb dX0_addShooting_101 rfl ?_
        refine cr_get (κ := 0) (ci := 0) (k := 6) (C := RX0) (T := TX0) (N := 10) (fs := cfs 0) (v := .int (I x0 6)) E hM mx0 kx0 (fun _ _ => rfl) rfl hin0 (by decide) (index := 50) (mm_at 21 rfl) rfl rfl dX0_addShooting_102 ?_
        refine lv_iload hx hb dX0_addShooting_105 (lv_at hl 5 rfl) ?_
        refine mm_iadd (X := (I x0 6).toInt) (Y := 0) hx hb dX0_addShooting_107 rfl num_0 (by omega) (fun z_202 hz_202 => ?_)
        refine cr_puti (κ := 0) (ci := 0) (k := 6) (C := RX0) (T := TX0) (N := 10) (fs := cfs 0) (ty := .int) (v := z_202) E hM mx0 kx0 (fun _ _ => rfl) rfl hin0 tyX0 tyX0_ok nmX0 (by decide) (index := 50) (mm_at 21 rfl) rfl (Or.inl rfl) (by decide +kernel) rfl rfl (show (6 : Nat) < 10 from by decide) (fun _ _ _ => rfl) (cz_nb rfl) (cS_upd (hM.sp mx0 kx0) (by decide) (by decide)) (Or.inr (Or.inr rfl)) dX0_addShooting_108 (fun H locs I_203 eI_203 hM => ?_)
        refine lv_aload_n hx hb dX0_addShooting_111 rfl (lv_at hl 7 rfl) ?_
        refine lv_dup hx hb dX0_addShooting_112 rfl ?_
        have e_204 : (I_203 x0 7).toInt = (I x0 7).toInt := congrArg Int32.toInt (cu_k eI_203 (by decide))
        refine cr_get (κ := 0) (ci := 0) (k := 7) (C := RX0) (T := TX0) (N := 10) (fs := cfs 0) (v := .int (I_203 x0 7)) E hM mx0 kx0 (fun _ _ => rfl) rfl hin0 (by decide) (index := 53) (mm_at 22 rfl) rfl rfl dX0_addShooting_113 ?_
        refine lv_iload hx hb dX0_addShooting_116 (lv_at hl 4 rfl) ?_
        refine mm_iadd (X := (I_203 x0 7).toInt) (Y := 5) hx hb dX0_addShooting_118 rfl num_5 (by omega) (fun z_205 hz_205 => ?_)
        refine cr_puti (κ := 0) (ci := 0) (k := 7) (C := RX0) (T := TX0) (N := 10) (fs := cfs 0) (ty := .int) (v := z_205) E hM mx0 kx0 (fun _ _ => rfl) rfl hin0 tyX0 tyX0_ok nmX0 (by decide) (index := 53) (mm_at 22 rfl) rfl (Or.inl rfl) (by decide +kernel) rfl rfl (show (7 : Nat) < 10 from by decide) (fun _ _ _ => rfl) (cz_nb rfl) (cS_upd (hM.sp mx0 kx0) (by decide) (by decide)) (Or.inr (Or.inr rfl)) dX0_addShooting_119 (fun H locs I_206 eI_206 hM => ?_)
        refine lv_aload_n hx hb dX0_addShooting_122 rfl (lv_at hl 7 rfl) ?_
        refine lv_dup hx hb dX0_addShooting_123 rfl ?_
        have e_207 : (I_203 x0 8).toInt = (I x0 8).toInt := congrArg Int32.toInt (cu_k eI_203 (by decide))
        have e_208 : (I_206 x0 8).toInt = (I_203 x0 8).toInt := congrArg Int32.toInt (cu_k eI_206 (by decide))
        refine cr_get (κ := 0) (ci := 0) (k := 8) (C := RX0) (T := TX0) (N := 10) (fs := cfs 0) (v := .int (I_206 x0 8)) E hM mx0 kx0 (fun _ _ => rfl) rfl hin0 (by decide) (index := 56) (mm_at 23 rfl) rfl rfl dX0_addShooting_124 ?_
        refine lv_iconst (v := 0) hx hb dX0_addShooting_127 (by decide) ?_
        refine lv_iload hx hb dX0_addShooting_128 (lv_at hl 5 rfl) ?_
        refine lv_iload hx hb dX0_addShooting_130 (lv_at hl 1 rfl) ?_
        refine mm_isub (X := 0) (Y := 9) hx hb dX0_addShooting_132 num_0 num_9 (by omega) (fun z_209 hz_209 => ?_)
        refine mm_max (X := 0) (Y := z_209.toInt) hx hb (hml.trans hl.1.symm) hown (hts _ (mm_at 24 rfl)) (hts _ (mm_at 25 rfl)) (hts _ (mm_at 26 rfl)) (hts _ (mm_at 27 rfl)) (Nat.le_of_ble_eq_true rfl) (Nat.le_of_ble_eq_true rfl) (Nat.le_of_ble_eq_true rfl) (Nat.le_of_ble_eq_true rfl) num_0 rfl dX0_addShooting_133 (fun z_210 hz_210 => ?_)
        refine lv_iload hx hb dX0_addShooting_136 (lv_at hl 0 rfl) ?_
        have hm_211 := wk_mul05 (a := z_210.toInt) (b := z_201.toInt) (by omega) (by omega)
        refine mm_imul (X := z_210.toInt) (Y := z_201.toInt) hx hb dX0_addShooting_138 rfl rfl (by omega) (fun z_212 hz_212 => ?_)
        have hza8 : z_212.toInt = penLo (I p0 4).toInt (10 * (I p0 5).toInt) r_2.toInt (r_161.toInt) := by
          unfold penLo
          rw [hfe, hrl, hz_212, ← show z_209.toInt = 0 - 9 from hz_209]
          exact wk_pen (by have n9 := num_0; omega) (by omega)
        refine mm_iadd (X := (I_206 x0 8).toInt) (Y := z_212.toInt) hx hb dX0_addShooting_139 rfl rfl (by omega) (fun z_213 hz_213 => ?_)
        refine cr_puti (κ := 0) (ci := 0) (k := 8) (C := RX0) (T := TX0) (N := 10) (fs := cfs 0) (ty := .int) (v := z_213) E hM mx0 kx0 (fun _ _ => rfl) rfl hin0 tyX0 tyX0_ok nmX0 (by decide) (index := 56) (mm_at 23 rfl) rfl (Or.inl rfl) (by decide +kernel) rfl rfl (show (8 : Nat) < 10 from by decide) (fun _ _ _ => rfl) (cz_nb rfl) (cS_upd (hM.sp mx0 kx0) (by decide) (by decide)) (Or.inr (Or.inr rfl)) dX0_addShooting_140 (fun H locs I_214 eI_214 hM => ?_)
        refine lv_aload_n hx hb dX0_addShooting_143 rfl (lv_at hl 7 rfl) ?_
        refine lv_dup hx hb dX0_addShooting_144 rfl ?_
        have e_215 : (I_203 x0 9).toInt = (I x0 9).toInt := congrArg Int32.toInt (cu_k eI_203 (by decide))
        have e_216 : (I_206 x0 9).toInt = (I_203 x0 9).toInt := congrArg Int32.toInt (cu_k eI_206 (by decide))
        have e_217 : (I_214 x0 9).toInt = (I_206 x0 9).toInt := congrArg Int32.toInt (cu_k eI_214 (by decide))
        refine cr_get (κ := 0) (ci := 0) (k := 9) (C := RX0) (T := TX0) (N := 10) (fs := cfs 0) (v := .int (I_214 x0 9)) E hM mx0 kx0 (fun _ _ => rfl) rfl hin0 (by decide) (index := 59) (mm_at 28 rfl) rfl rfl dX0_addShooting_145 ?_
        refine lv_iconst (v := 0) hx hb dX0_addShooting_148 (by decide) ?_
        refine lv_iload hx hb dX0_addShooting_149 (lv_at hl 4 rfl) ?_
        refine lv_iload hx hb dX0_addShooting_151 (lv_at hl 2 rfl) ?_
        refine mm_isub (X := 5) (Y := 0) hx hb dX0_addShooting_153 num_5 num_0 (by omega) (fun z_218 hz_218 => ?_)
        refine mm_max (X := 0) (Y := z_218.toInt) hx hb (hml.trans hl.1.symm) hown (hts _ (mm_at 24 rfl)) (hts _ (mm_at 25 rfl)) (hts _ (mm_at 26 rfl)) (hts _ (mm_at 27 rfl)) (Nat.le_of_ble_eq_true rfl) (Nat.le_of_ble_eq_true rfl) (Nat.le_of_ble_eq_true rfl) (Nat.le_of_ble_eq_true rfl) num_0 rfl dX0_addShooting_154 (fun z_219 hz_219 => ?_)
        refine lv_iload hx hb dX0_addShooting_157 (lv_at hl 0 rfl) ?_
        have hm_220 := wk_mul05 (a := z_219.toInt) (b := z_201.toInt) (by omega) (by omega)
        refine mm_imul (X := z_219.toInt) (Y := z_201.toInt) hx hb dX0_addShooting_159 rfl rfl (by omega) (fun z_221 hz_221 => ?_)
        have hza9 : z_221.toInt = penHi (I p0 4).toInt (10 * (I p0 5).toInt) r_2.toInt (r_161.toInt) := by
          unfold penHi
          rw [hme, hrh, hz_221, ← show z_218.toInt = 5 - 0 from hz_218]
          exact wk_pen (by have n9 := num_0; omega) (by omega)
        refine mm_iadd (X := (I_214 x0 9).toInt) (Y := z_221.toInt) hx hb dX0_addShooting_160 rfl rfl (by omega) (fun z_222 hz_222 => ?_)
        refine cr_puti (κ := 0) (ci := 0) (k := 9) (C := RX0) (T := TX0) (N := 10) (fs := cfs 0) (ty := .int) (v := z_222) E hM mx0 kx0 (fun _ _ => rfl) rfl hin0 tyX0 tyX0_ok nmX0 (by decide) (index := 59) (mm_at 28 rfl) rfl (Or.inl rfl) (by decide +kernel) rfl rfl (show (9 : Nat) < 10 from by decide) (fun _ _ _ => rfl) (cz_nb rfl) (cS_upd (hM.sp mx0 kx0) (by decide) (by decide)) (Or.inr (Or.inr rfl)) dX0_addShooting_161 (fun H locs I_223 eI_223 hM => ?_)
        have e_224 : (I_203 x0 6).toInt = z_202.toInt := (congrArg Int32.toInt (cu_s eI_203)).trans rfl
        have e_225 : (I_206 x0 6).toInt = (I_203 x0 6).toInt := congrArg Int32.toInt (cu_k eI_206 (by decide))
        have e_226 : (I_214 x0 6).toInt = (I_206 x0 6).toInt := congrArg Int32.toInt (cu_k eI_214 (by decide))
        have e_227 : (I_223 x0 6).toInt = (I_214 x0 6).toInt := congrArg Int32.toInt (cu_k eI_223 (by decide))
        have e_228 : (I_206 x0 7).toInt = z_205.toInt := (congrArg Int32.toInt (cu_s eI_206)).trans rfl
        have e_229 : (I_214 x0 7).toInt = (I_206 x0 7).toInt := congrArg Int32.toInt (cu_k eI_214 (by decide))
        have e_230 : (I_223 x0 7).toInt = (I_214 x0 7).toInt := congrArg Int32.toInt (cu_k eI_223 (by decide))
        have e_231 : (I_214 x0 8).toInt = z_213.toInt := (congrArg Int32.toInt (cu_s eI_214)).trans rfl
        have e_232 : (I_223 x0 8).toInt = (I_214 x0 8).toInt := congrArg Int32.toInt (cu_k eI_223 (by decide))
        have e_233 : (I_223 x0 9).toInt = z_222.toInt := (congrArg Int32.toInt (cu_s eI_223)).trans rfl
        exact cr_rv (mc := 0) (ms := 0) E hr hlk hsz hM ⟨show (0 : Nat) ≤ 0 from by omega, show (0 : Nat) ≤ 0 from by omega⟩ (show (I_223 x0 6).toInt = (I x0 6).toInt + fewS (kN Ge re ve 1 p1.toInt p2.toInt (Fe 31).toInt.toNat) ∧ (I_223 x0 7).toInt = (I x0 7).toInt + manyS (kN Ge re ve 1 p1.toInt p2.toInt (Fe 31).toInt.toNat) ∧ (I_223 x0 8).toInt = (I x0 8).toInt + penLo (I p0 4).toInt (10 * (I p0 5).toInt) (kN Ge re ve 1 p1.toInt p2.toInt (Fe 31).toInt.toNat) (kN Ge re ve 2 p1.toInt p2.toInt (Fe 31).toInt.toNat) ∧ (I_223 x0 9).toInt = (I x0 9).toInt + penHi (I p0 4).toInt (10 * (I p0 5).toInt) (kN Ge re ve 1 p1.toInt p2.toInt (Fe 31).toInt.toNat) (kN Ge re ve 2 p1.toInt p2.toInt (Fe 31).toInt.toNat) ∧ (∀ a : Nat, a ∈ L → K a = 0 → ¬ a = x0 → ∀ j : Nat, I_223 a j = I a j) from by exact ⟨by rw [kb, hfe]; omega, by rw [kb, hme]; omega, by rw [kb, kr]; omega, by rw [kb, kr]; omega, fun a ha ka na j => (by exact ((congrFun (cu_a eI_223 na) j).trans ((congrFun (cu_a eI_214 na) j).trans ((congrFun (cu_a eI_206 na) j).trans (congrFun (cu_a eI_203 na) j)))))⟩) dX0_addShooting_164
