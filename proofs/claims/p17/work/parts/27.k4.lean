def w4X0_addShooting : List Cond := .code yX0_addShooting cX0_addShooting 11 none :: ([.fieldLink RX0 89 "SkiShots$Format" "missSeconds" "I", .fieldLink RX0 50 "SkiShots$Entry" "fewestMisses" "I", .fieldLink RX0 53 "SkiShots$Entry" "mostMisses" "I", .fieldLink RX0 56 "SkiShots$Entry" "leastPenalty" "I", .methodLink RX0 92 Lib.Math.max.name, .static Lib.Math.max.name, .initialized "java/lang/Math", .code Lib.Math.max.name Lib.Math.max.code 2 (some .int), .fieldLink RX0 59 "SkiShots$Entry" "greatestPenalty" "I", .methodLink RX0 42 yX0_known, .instanceMethod yX0_known, .selects RX0 yX0_known yX0_known, .initialized RX0, .code yX0_known cX0_known 5 (some .int), .fieldLink RX0 19 "SkiShots$Event" "day" "I", .fieldLink RX0 33 "SkiShots$Event" "before" "LSkiShots$Event;", .fieldLink RX0 24 "SkiShots$Event" "sort" "I", .fieldLink RX0 27 "SkiShots$Event" "k" "I", .fieldLink RX0 30 "SkiShots$Event" "v" "I", .fieldLink RX0 15 "SkiShots$Entry" "latest" "LSkiShots$Event;", .methodLink RX0 81 yJ6_bitCount_0f7a4, .static yJ6_bitCount_0f7a4, .initialized RJ6, .code yJ6_bitCount_0f7a4 cJ6_bitCount_0f7a4 1 (some .int), .constant RJ6 265 (1431655765), .constant RJ6 266 (858993459), .constant RJ6 267 (252645135), .fieldLink RX0 86 "SkiShots$Format" "loops" "Z"] ++ wsX00 ++ wsX10 ++ wsX20)
set_option maxRecDepth 20000 in
theorem gk_X0_addShooting_X0_known_30 : GoodIn w4X0_addShooting (wsV RX0 42 RX0 yX0_known w4X0_known) := goodIn_p _ [14] rfl (by decide +kernel)
set_option maxRecDepth 20000 in
theorem gk_X0_addShooting_J6_bitCount_0f7a4_35 : GoodIn w4X0_addShooting (va_wsS RX0 81 yJ6_bitCount_0f7a4 w4J6_bitCount_0f7a4) := goodIn_p _ [24] rfl (by decide +kernel)
set_option maxRecDepth 20000 in
theorem gk_X0_addShooting_X0_known_42 : GoodIn w4X0_addShooting (wsV RX0 42 RX0 yX0_known w4X0_known) := goodIn_p _ [14] rfl (by decide +kernel)
set_option maxRecDepth 20000 in
theorem gk_X0_addShooting_X0_known_47 : GoodIn w4X0_addShooting (wsV RX0 42 RX0 yX0_known w4X0_known) := goodIn_p _ [14] rfl (by decide +kernel)
set_option maxRecDepth 20000 in
theorem gk_X0_addShooting_X0_known_53 : GoodIn w4X0_addShooting (wsV RX0 42 RX0 yX0_known w4X0_known) := goodIn_p _ [14] rfl (by decide +kernel)
set_option maxHeartbeats 4000000 in
set_option maxRecDepth 100000 in
theorem h4_X0_addShooting (l : Launch) (D : va_G) (cA : Nat → ClassId) (ad av : Nat → Nat) (L : List Nat) (K : Nat → Nat) (I : Nat → Nat → Int32) (O : Nat → Nat → Option Nat) (sz : Nat) (x0 : Nat) (p0 : Nat) (p1 : Int32) (p2 : Int32) (hI : cI L K I O) (mx0 : x0 ∈ L) (kx0 : K x0 = 0) (mp0 : p0 ∈ L) (kp0 : K p0 = 2)  : Met l yX0_addShooting w4X0_addShooting ({ frames := 1, cells := 0, slots := 0, locals := 24 }) (cPre D cA ad av L K I O sz [.ref x0, .ref p0, .int p1, .int p2]) (cQv D cA L K I O sz [] [(0, 6), (0, 7), (0, 8), (0, 9)] [] (fun L' K' I' O' => True)) 0 0 (va_A (cW cA L K I O) sz) := by
  refine cr_met (own := RX0) (xs := []) (WI := [(0, 6), (0, 7), (0, 8), (0, 9)]) (WO := []) (cc := cX0_addShooting) (maxL := 11) (ret := none) (by decide) rfl rfl (Nat.le_of_ble_eq_true rfl) hI ?_
  intro p e s m args below meth c ls E hV hml hr hlk hname hsz hA hM hl
  have hx := E.1
  have hb := E.2.1
  have hts := E.2.2.1
  have hown := E.2.2.2.1
  have hl : lv_has ls 11 [(0, .ref x0), (1, .ref p0), (2, .int p1), (3, .int p2)] := hl
  have hin0 : ∀ w ∈ wsX00, w ∈ w4X0_addShooting := by decide +kernel
  have hin1 : ∀ w ∈ wsX10, w ∈ w4X0_addShooting := by decide +kernel
  have hin2 : ∀ w ∈ wsX20, w ∈ w4X0_addShooting := by decide +kernel
  have B_91 : ∀ (H : Heap) (locs : List Loc) (ls : Array Slot) (Lc_91 : List Nat) (Kc_91 : Nat → Nat) (Ic_91 : Nat → Nat → Int32) (Oc_91 : Nat → Nat → Option Nat) (a b c8 c9 : Int32), cQ D cA (va_A (cW cA L K I O) sz) s.heap [] [(0, 6), (0, 7), (0, 8), (0, 9)] [] L K I O H locs Lc_91 Kc_91 Ic_91 Oc_91 → lv_has ls 11 [(0, .ref x0), (1, .ref p0), (2, .int p1), (3, .int p2), (5, .int a), (6, .int b), (8, .int c8), (9, .int c9)] → W p l e ({ frames := 1, cells := 0, slots := 0, locals := 24 }) s m args below meth c H locs 0 0 (MQ below (cQv D cA L K I O sz [] [(0, 6), (0, 7), (0, 8), (0, 9)] [] (fun L' K' I' O' => True)) args s 0 0 (va_A (cW cA L K I O) sz)) (F0 m 91 ls []) := by
    intro H locs ls Lc_91 Kc_91 Ic_91 Oc_91 a b c8 c9 hM hl
    have hfr_91 := hM.2.2.2.2
    have m_1 := (hfr_91 x0 mx0 (fun z => by cases z)).1
    have k_1 : Kc_91 x0 = 0 := (hfr_91 x0 mx0 (fun z => by cases z)).2.1.trans kx0
    have m_2 := (hfr_91 p0 mp0 (fun z => by cases z)).1
    have k_2 : Kc_91 p0 = 2 := (hfr_91 p0 mp0 (fun z => by cases z)).2.1.trans kp0
    refine lv_aload_n hx hb dX0_addShooting_91 rfl (lv_at hl 1 rfl) ?_
    have e_3 : (Ic_91 p0 5).toInt = (I p0 5).toInt := congrArg Int32.toInt ((hfr_91 p0 mp0 (fun z => by cases z)).2.2.1 5 (by rw [kp0]; rfl))
    refine cr_get (κ := 2) (ci := 2) (k := 5) (C := RX2) (T := TX2) (N := 8) (fs := cfs 2) (v := .int (Ic_91 p0 5)) E hM m_2 k_2 (fun _ _ => rfl) rfl hin2 (by decide) (index := 89) (mm_at 1 rfl) rfl rfl dX0_addShooting_92 ?_
    refine lv_bipush (v := 10) hx hb dX0_addShooting_95 (by decide) ?_
    refine mm_imulU hx hb dX0_addShooting_97 (fun z_4 => ?_)
    refine lv_istore (lv' := [(10, .int z_4), (0, .ref x0), (1, .ref p0), (2, .int p1), (3, .int p2), (5, .int a), (6, .int b), (8, .int c8), (9, .int c9)]) hx hb dX0_addShooting_98 hl (by decide) rfl (fun ls hl => ?_)
    refine lv_aload_n hx hb dX0_addShooting_100 rfl (lv_at hl 1 rfl) ?_
    refine lv_dup hx hb dX0_addShooting_101 rfl ?_
    refine cr_get (κ := 0) (ci := 0) (k := 6) (C := RX0) (T := TX0) (N := 10) (fs := cfs 0) (v := .int (Ic_91 x0 6)) E hM m_1 k_1 (fun _ _ => rfl) rfl hin0 (by decide) (index := 50) (mm_at 2 rfl) rfl rfl dX0_addShooting_102 ?_
    refine lv_iload hx hb dX0_addShooting_105 (lv_at hl 5 rfl) ?_
    refine mm_iaddU hx hb dX0_addShooting_107 (fun z_5 => ?_)
    refine cr_puti (κ := 0) (ci := 0) (k := 6) (C := RX0) (T := TX0) (N := 10) (fs := cfs 0) (ty := .int) (v := z_5) E hM m_1 k_1 (fun _ _ => rfl) rfl hin0 tyX0 tyX0_ok nmX0 (by decide) (index := 50) (mm_at 2 rfl) rfl (Or.inl rfl) (by decide +kernel) rfl rfl (show (6 : Nat) < 10 from by decide) (fun _ _ _ => rfl) (cz_nb rfl) (cS_upd (hM.sp m_1 k_1) (by decide) (by decide)) (Or.inr (Or.inr rfl)) dX0_addShooting_108 (fun H locs I_6 eI_6 hM => ?_)
    refine lv_aload_n hx hb dX0_addShooting_111 rfl (lv_at hl 1 rfl) ?_
    refine lv_dup hx hb dX0_addShooting_112 rfl ?_
    have e_7 : (I_6 x0 7).toInt = (Ic_91 x0 7).toInt := congrArg Int32.toInt (cu_k eI_6 (by decide))
    refine cr_get (κ := 0) (ci := 0) (k := 7) (C := RX0) (T := TX0) (N := 10) (fs := cfs 0) (v := .int (I_6 x0 7)) E hM m_1 k_1 (fun _ _ => rfl) rfl hin0 (by decide) (index := 53) (mm_at 3 rfl) rfl rfl dX0_addShooting_113 ?_
    refine lv_iload hx hb dX0_addShooting_116 (lv_at hl 6 rfl) ?_
    refine mm_iaddU hx hb dX0_addShooting_118 (fun z_8 => ?_)
    refine cr_puti (κ := 0) (ci := 0) (k := 7) (C := RX0) (T := TX0) (N := 10) (fs := cfs 0) (ty := .int) (v := z_8) E hM m_1 k_1 (fun _ _ => rfl) rfl hin0 tyX0 tyX0_ok nmX0 (by decide) (index := 53) (mm_at 3 rfl) rfl (Or.inl rfl) (by decide +kernel) rfl rfl (show (7 : Nat) < 10 from by decide) (fun _ _ _ => rfl) (cz_nb rfl) (cS_upd (hM.sp m_1 k_1) (by decide) (by decide)) (Or.inr (Or.inr rfl)) dX0_addShooting_119 (fun H locs I_9 eI_9 hM => ?_)
    refine lv_aload_n hx hb dX0_addShooting_122 rfl (lv_at hl 1 rfl) ?_
    refine lv_dup hx hb dX0_addShooting_123 rfl ?_
    have e_10 : (I_6 x0 8).toInt = (Ic_91 x0 8).toInt := congrArg Int32.toInt (cu_k eI_6 (by decide))
    have e_11 : (I_9 x0 8).toInt = (I_6 x0 8).toInt := congrArg Int32.toInt (cu_k eI_9 (by decide))
    refine cr_get (κ := 0) (ci := 0) (k := 8) (C := RX0) (T := TX0) (N := 10) (fs := cfs 0) (v := .int (I_9 x0 8)) E hM m_1 k_1 (fun _ _ => rfl) rfl hin0 (by decide) (index := 56) (mm_at 4 rfl) rfl rfl dX0_addShooting_124 ?_
    refine lv_iconst (v := 0) hx hb dX0_addShooting_127 (by decide) ?_
    refine lv_iload hx hb dX0_addShooting_128 (lv_at hl 5 rfl) ?_
    refine lv_iload hx hb dX0_addShooting_130 (lv_at hl 8 rfl) ?_
    refine mm_isubU hx hb dX0_addShooting_132 (fun z_12 => ?_)
    refine mm_max (X := 0) (Y := z_12.toInt) hx hb (hml.trans hl.1.symm) hown (hts _ (mm_at 5 rfl)) (hts _ (mm_at 6 rfl)) (hts _ (mm_at 7 rfl)) (hts _ (mm_at 8 rfl)) (Nat.le_of_ble_eq_true rfl) (Nat.le_of_ble_eq_true rfl) (Nat.le_of_ble_eq_true rfl) (Nat.le_of_ble_eq_true rfl) num_0 rfl dX0_addShooting_133 (fun z_13 hz_13 => ?_)
    refine lv_iload hx hb dX0_addShooting_136 (lv_at hl 0 rfl) ?_
    refine mm_imulU hx hb dX0_addShooting_138 (fun z_14 => ?_)
    refine mm_iaddU hx hb dX0_addShooting_139 (fun z_15 => ?_)
    refine cr_puti (κ := 0) (ci := 0) (k := 8) (C := RX0) (T := TX0) (N := 10) (fs := cfs 0) (ty := .int) (v := z_15) E hM m_1 k_1 (fun _ _ => rfl) rfl hin0 tyX0 tyX0_ok nmX0 (by decide) (index := 56) (mm_at 4 rfl) rfl (Or.inl rfl) (by decide +kernel) rfl rfl (show (8 : Nat) < 10 from by decide) (fun _ _ _ => rfl) (cz_nb rfl) (cS_upd (hM.sp m_1 k_1) (by decide) (by decide)) (Or.inr (Or.inr rfl)) dX0_addShooting_140 (fun H locs I_16 eI_16 hM => ?_)
    refine lv_aload_n hx hb dX0_addShooting_143 rfl (lv_at hl 1 rfl) ?_
    refine lv_dup hx hb dX0_addShooting_144 rfl ?_
    have e_17 : (I_6 x0 9).toInt = (Ic_91 x0 9).toInt := congrArg Int32.toInt (cu_k eI_6 (by decide))
    have e_18 : (I_9 x0 9).toInt = (I_6 x0 9).toInt := congrArg Int32.toInt (cu_k eI_9 (by decide))
    have e_19 : (I_16 x0 9).toInt = (I_9 x0 9).toInt := congrArg Int32.toInt (cu_k eI_16 (by decide))
    refine cr_get (κ := 0) (ci := 0) (k := 9) (C := RX0) (T := TX0) (N := 10) (fs := cfs 0) (v := .int (I_16 x0 9)) E hM m_1 k_1 (fun _ _ => rfl) rfl hin0 (by decide) (index := 59) (mm_at 9 rfl) rfl rfl dX0_addShooting_145 ?_
    refine lv_iconst (v := 0) hx hb dX0_addShooting_148 (by decide) ?_
    refine lv_iload hx hb dX0_addShooting_149 (lv_at hl 6 rfl) ?_
    refine lv_iload hx hb dX0_addShooting_151 (lv_at hl 7 rfl) ?_
    refine mm_isubU hx hb dX0_addShooting_153 (fun z_20 => ?_)
    refine mm_max (X := 0) (Y := z_20.toInt) hx hb (hml.trans hl.1.symm) hown (hts _ (mm_at 5 rfl)) (hts _ (mm_at 6 rfl)) (hts _ (mm_at 7 rfl)) (hts _ (mm_at 8 rfl)) (Nat.le_of_ble_eq_true rfl) (Nat.le_of_ble_eq_true rfl) (Nat.le_of_ble_eq_true rfl) (Nat.le_of_ble_eq_true rfl) num_0 rfl dX0_addShooting_154 (fun z_21 hz_21 => ?_)
    refine lv_iload hx hb dX0_addShooting_157 (lv_at hl 0 rfl) ?_
    refine mm_imulU hx hb dX0_addShooting_159 (fun z_22 => ?_)
    refine mm_iaddU hx hb dX0_addShooting_160 (fun z_23 => ?_)
    refine cr_puti (κ := 0) (ci := 0) (k := 9) (C := RX0) (T := TX0) (N := 10) (fs := cfs 0) (ty := .int) (v := z_23) E hM m_1 k_1 (fun _ _ => rfl) rfl hin0 tyX0 tyX0_ok nmX0 (by decide) (index := 59) (mm_at 9 rfl) rfl (Or.inl rfl) (by decide +kernel) rfl rfl (show (9 : Nat) < 10 from by decide) (fun _ _ _ => rfl) (cz_nb rfl) (cS_upd (hM.sp m_1 k_1) (by decide) (by decide)) (Or.inr (Or.inr rfl)) dX0_addShooting_161 (fun H locs I_24 eI_24 hM => ?_)
    exact cr_rv (mc := 0) (ms := 0) E hr hlk hsz hM ⟨show (0 : Nat) ≤ 0 from by omega, show (0 : Nat) ≤ 0 from by omega⟩ trivial dX0_addShooting_164
  have B_60 : ∀ (H : Heap) (locs : List Loc) (ls : Array Slot) (Lc_60 : List Nat) (Kc_60 : Nat → Nat) (Ic_60 : Nat → Nat → Int32) (Oc_60 : Nat → Nat → Option Nat) (a b ru : Int32), cQ D cA (va_A (cW cA L K I O) sz) s.heap [] [(0, 6), (0, 7), (0, 8), (0, 9)] [] L K I O H locs Lc_60 Kc_60 Ic_60 Oc_60 → lv_has ls 11 [(0, .ref x0), (1, .ref p0), (2, .int p1), (3, .int p2), (5, .int a), (6, .int b)] → W p l e ({ frames := 1, cells := 0, slots := 0, locals := 24 }) s m args below meth c H locs 0 0 (MQ below (cQv D cA L K I O sz [] [(0, 6), (0, 7), (0, 8), (0, 9)] [] (fun L' K' I' O' => True)) args s 0 0 (va_A (cW cA L K I O) sz)) (F0 m 60 ls [.int ru]) := by
    intro H locs ls Lc_60 Kc_60 Ic_60 Oc_60 a b ru hM hl
    have hfr_60 := hM.2.2.2.2
    have m_25 := (hfr_60 x0 mx0 (fun z => by cases z)).1
    have k_25 : Kc_60 x0 = 0 := (hfr_60 x0 mx0 (fun z => by cases z)).2.1.trans kx0
    have m_26 := (hfr_60 p0 mp0 (fun z => by cases z)).1
    have k_26 : Kc_60 p0 = 2 := (hfr_60 p0 mp0 (fun z => by cases z)).2.1.trans kp0
    refine lv_istore (lv' := [(7, .int ru), (0, .ref x0), (1, .ref p0), (2, .int p1), (3, .int p2), (5, .int a), (6, .int b)]) hx hb dX0_addShooting_60 hl (by decide) rfl (fun ls hl => ?_)
    refine lv_iload hx hb dX0_addShooting_62 (lv_at hl 0 rfl) ?_
    refine lv_iconst (v := (-1)) hx hb dX0_addShooting_64 (by decide) ?_
    refine mm_icmp_ne (X := ru.toInt) (Y := (-1)) (tgt := 72) hx hb dX0_addShooting_65 (by decide) rfl num_m1 (fun c_27 => ?_) (fun c_27 => ?_)
    · refine lv_iload hx hb dX0_addShooting_72 (lv_at hl 0 rfl) ?_
      refine lv_istore (lv' := [(8, .int ru), (7, .int ru), (0, .ref x0), (1, .ref p0), (2, .int p1), (3, .int p2), (5, .int a), (6, .int b)]) hx hb dX0_addShooting_74 hl (by decide) rfl (fun ls hl => ?_)
      refine lv_iload hx hb dX0_addShooting_76 (lv_at hl 1 rfl) ?_
      refine lv_iconst (v := (-1)) hx hb dX0_addShooting_78 (by decide) ?_
      refine mm_icmp_ne (X := ru.toInt) (Y := (-1)) (tgt := 87) hx hb dX0_addShooting_79 (by decide) rfl num_m1 (fun c_28 => ?_) (fun c_28 => ?_)
      · refine lv_iload hx hb dX0_addShooting_87 (lv_at hl 1 rfl) ?_
        refine lv_istore (lv' := [(9, .int ru), (8, .int ru), (7, .int ru), (0, .ref x0), (1, .ref p0), (2, .int p1), (3, .int p2), (5, .int a), (6, .int b)]) hx hb dX0_addShooting_89 hl (by decide) rfl (fun ls hl => ?_)
        exact B_91 _ _ _ Lc_60 Kc_60 Ic_60 Oc_60 a b ru ru     hM (lv_sub hl [3, 4, 5, 6, 7, 8, 1, 0] rfl)
      · refine lv_bipush (v := 9) hx hb dX0_addShooting_82 (by decide) ?_
        refine lv_goto (tgt := 89) hx hb dX0_addShooting_84 (by decide) ?_
        refine lv_istore (lv' := [(9, .int 9), (8, .int ru), (7, .int ru), (0, .ref x0), (1, .ref p0), (2, .int p1), (3, .int p2), (5, .int a), (6, .int b)]) hx hb dX0_addShooting_89 hl (by decide) rfl (fun ls hl => ?_)
        exact B_91 _ _ _ Lc_60 Kc_60 Ic_60 Oc_60 a b ru 9     hM (lv_sub hl [3, 4, 5, 6, 7, 8, 1, 0] rfl)
    · refine lv_iconst (v := 0) hx hb dX0_addShooting_68 (by decide) ?_
      refine lv_goto (tgt := 74) hx hb dX0_addShooting_69 (by decide) ?_
      refine lv_istore (lv' := [(8, .int 0), (7, .int ru), (0, .ref x0), (1, .ref p0), (2, .int p1), (3, .int p2), (5, .int a), (6, .int b)]) hx hb dX0_addShooting_74 hl (by decide) rfl (fun ls hl => ?_)
      refine lv_iload hx hb dX0_addShooting_76 (lv_at hl 1 rfl) ?_
      refine lv_iconst (v := (-1)) hx hb dX0_addShooting_78 (by decide) ?_
      refine mm_icmp_ne (X := ru.toInt) (Y := (-1)) (tgt := 87) hx hb dX0_addShooting_79 (by decide) rfl num_m1 (fun c_29 => False.elim (by omega)) (fun c_29 => ?_)
      refine lv_bipush (v := 9) hx hb dX0_addShooting_82 (by decide) ?_
      refine lv_goto (tgt := 89) hx hb dX0_addShooting_84 (by decide) ?_
      refine lv_istore (lv' := [(9, .int 9), (8, .int 0), (7, .int ru), (0, .ref x0), (1, .ref p0), (2, .int p1), (3, .int p2), (5, .int a), (6, .int b)]) hx hb dX0_addShooting_89 hl (by decide) rfl (fun ls hl => ?_)
      exact B_91 _ _ _ Lc_60 Kc_60 Ic_60 Oc_60 a b 0 9     hM (lv_sub hl [3, 4, 5, 6, 7, 8, 1, 0] rfl)
  refine lv_aload_n hx hb dX0_addShooting_0 rfl (lv_at hl 0 rfl) ?_
  refine lv_iconst (v := 1) hx hb dX0_addShooting_1 (by decide) ?_
  refine lv_iload_n hx hb dX0_addShooting_2 rfl (lv_at hl 2 rfl) ?_
  refine lv_iload_n hx hb dX0_addShooting_3 rfl (lv_at hl 3 rfl) ?_
  refine cc_Vip (vs := [.int 1, .int p1, .int p2]) (rest := []) (b := x0) (κ := 0) E hV rfl hA hml hM mx0 kx0 rfl rfl (h4_X0_known l D cA ad av L K I O _ x0 1 p1 p2 hM.2.2.2.1 mx0 kx0) (cwV 3 hts gk_X0_addShooting_X0_known_30 rfl rfl rfl (by decide +kernel) ⟨Nat.le_of_ble_eq_true rfl, Nat.le_of_ble_eq_true rfl⟩) rfl hl.1 rfl (Nat.le_of_ble_eq_true rfl) dX0_addShooting_4 ⟨show (0 : Nat) ≤ 0 from by omega, show (0 : Nat) ≤ 0 from by omega⟩ (fun r_31 H locs p_32 hM => ?_)
  refine lv_istore (lv' := [(4, .int r_31), (0, .ref x0), (1, .ref p0), (2, .int p1), (3, .int p2)]) hx hb dX0_addShooting_7 hl (by decide) rfl (fun ls hl => ?_)
  refine lv_iload hx hb dX0_addShooting_9 (lv_at hl 0 rfl) ?_
  refine lv_iconst (v := (-1)) hx hb dX0_addShooting_11 (by decide) ?_
  refine mm_icmp_ne (X := r_31.toInt) (Y := (-1)) (tgt := 19) hx hb dX0_addShooting_12 (by decide) rfl num_m1 (fun c_34 => ?_) (fun c_34 => ?_)
  · refine lv_iconst (v := 5) hx hb dX0_addShooting_19 (by decide) ?_
    refine lv_iload hx hb dX0_addShooting_20 (lv_at hl 0 rfl) ?_
    refine cc_Sip (vs := [.int r_31]) (rest := [.int 5]) E hV rfl hA hml hM (h4_J6_bitCount_0f7a4 l D cA ad av L K I O _ r_31 hM.2.2.2.1 ) (va_cwS 1 hts gk_X0_addShooting_J6_bitCount_0f7a4_35 rfl rfl rfl (by decide +kernel) ⟨Nat.le_of_ble_eq_true rfl, Nat.le_of_ble_eq_true rfl⟩) rfl hl.1 rfl (Nat.le_of_ble_eq_true rfl) dX0_addShooting_22 ⟨show (0 : Nat) ≤ 0 from by omega, show (0 : Nat) ≤ 0 from by omega⟩ (fun r_36 H locs p_37 hM => ?_)
    refine mm_isubU hx hb dX0_addShooting_25 (fun z_39 => ?_)
    refine lv_istore (lv' := [(5, .int z_39), (4, .int r_31), (0, .ref x0), (1, .ref p0), (2, .int p1), (3, .int p2)]) hx hb dX0_addShooting_26 hl (by decide) rfl (fun ls hl => ?_)
    refine lv_iload hx hb dX0_addShooting_28 (lv_at hl 1 rfl) ?_
    refine lv_iconst (v := (-1)) hx hb dX0_addShooting_30 (by decide) ?_
    refine mm_icmp_ne (X := r_31.toInt) (Y := (-1)) (tgt := 38) hx hb dX0_addShooting_31 (by decide) rfl num_m1 (fun c_40 => ?_) (fun c_40 => ?_)
    · refine lv_iload hx hb dX0_addShooting_38 (lv_at hl 0 rfl) ?_
      refine lv_istore (lv' := [(6, .int z_39), (5, .int z_39), (4, .int r_31), (0, .ref x0), (1, .ref p0), (2, .int p1), (3, .int p2)]) hx hb dX0_addShooting_40 hl (by decide) rfl (fun ls hl => ?_)
      refine lv_aload_n hx hb dX0_addShooting_42 rfl (lv_at hl 4 rfl) ?_
      refine cr_get (κ := 2) (ci := 2) (k := 4) (C := RX2) (T := TX2) (N := 8) (fs := cfs 2) (v := .int (I p0 4)) E hM mp0 kp0 (fun _ _ => rfl) rfl hin2 (by decide) (index := 86) (mm_at 28 rfl) rfl rfl dX0_addShooting_43 ?_
      refine mm_if_eq (X := (I p0 4).toInt) (tgt := 59) hx hb dX0_addShooting_46 (by decide) rfl (fun c_41 => ?_) (fun c_41 => ?_)
      · refine lv_iconst (v := 0) hx hb dX0_addShooting_59 (by decide) ?_
        exact B_60 _ _ _ L K I O z_39 z_39 0     hM (lv_sub hl [3, 4, 5, 6, 1, 0] rfl)
      · refine lv_aload_n hx hb dX0_addShooting_49 rfl (lv_at hl 3 rfl) ?_
        refine lv_iconst (v := 2) hx hb dX0_addShooting_50 (by decide) ?_
        refine lv_iload_n hx hb dX0_addShooting_51 rfl (lv_at hl 5 rfl) ?_
        refine lv_iload_n hx hb dX0_addShooting_52 rfl (lv_at hl 6 rfl) ?_
        refine cc_Vip (vs := [.int 2, .int p1, .int p2]) (rest := []) (b := x0) (κ := 0) E hV rfl hA hml hM mx0 kx0 rfl rfl (h4_X0_known l D cA ad av L K I O _ x0 2 p1 p2 hM.2.2.2.1 mx0 kx0) (cwV 3 hts gk_X0_addShooting_X0_known_42 rfl rfl rfl (by decide +kernel) ⟨Nat.le_of_ble_eq_true rfl, Nat.le_of_ble_eq_true rfl⟩) rfl hl.1 rfl (Nat.le_of_ble_eq_true rfl) dX0_addShooting_53 ⟨show (0 : Nat) ≤ 0 from by omega, show (0 : Nat) ≤ 0 from by omega⟩ (fun r_43 H locs p_44 hM => ?_)
        refine lv_goto (tgt := 60) hx hb dX0_addShooting_56 (by decide) ?_
        exact B_60 _ _ _ L K I O z_39 z_39 r_43     hM (lv_sub hl [3, 4, 5, 6, 1, 0] rfl)
    · refine lv_iconst (v := 5) hx hb dX0_addShooting_34 (by decide) ?_
      refine lv_goto (tgt := 40) hx hb dX0_addShooting_35 (by decide) ?_
      refine lv_istore (lv' := [(6, .int 5), (5, .int z_39), (4, .int r_31), (0, .ref x0), (1, .ref p0), (2, .int p1), (3, .int p2)]) hx hb dX0_addShooting_40 hl (by decide) rfl (fun ls hl => ?_)
      refine lv_aload_n hx hb dX0_addShooting_42 rfl (lv_at hl 4 rfl) ?_
      refine cr_get (κ := 2) (ci := 2) (k := 4) (C := RX2) (T := TX2) (N := 8) (fs := cfs 2) (v := .int (I p0 4)) E hM mp0 kp0 (fun _ _ => rfl) rfl hin2 (by decide) (index := 86) (mm_at 28 rfl) rfl rfl dX0_addShooting_43 ?_
      refine mm_if_eq (X := (I p0 4).toInt) (tgt := 59) hx hb dX0_addShooting_46 (by decide) rfl (fun c_46 => ?_) (fun c_46 => ?_)
      · refine lv_iconst (v := 0) hx hb dX0_addShooting_59 (by decide) ?_
        exact B_60 _ _ _ L K I O z_39 5 0     hM (lv_sub hl [3, 4, 5, 6, 1, 0] rfl)
      · refine lv_aload_n hx hb dX0_addShooting_49 rfl (lv_at hl 3 rfl) ?_
        refine lv_iconst (v := 2) hx hb dX0_addShooting_50 (by decide) ?_
        refine lv_iload_n hx hb dX0_addShooting_51 rfl (lv_at hl 5 rfl) ?_
        refine lv_iload_n hx hb dX0_addShooting_52 rfl (lv_at hl 6 rfl) ?_
        refine cc_Vip (vs := [.int 2, .int p1, .int p2]) (rest := []) (b := x0) (κ := 0) E hV rfl hA hml hM mx0 kx0 rfl rfl (h4_X0_known l D cA ad av L K I O _ x0 2 p1 p2 hM.2.2.2.1 mx0 kx0) (cwV 3 hts gk_X0_addShooting_X0_known_47 rfl rfl rfl (by decide +kernel) ⟨Nat.le_of_ble_eq_true rfl, Nat.le_of_ble_eq_true rfl⟩) rfl hl.1 rfl (Nat.le_of_ble_eq_true rfl) dX0_addShooting_53 ⟨show (0 : Nat) ≤ 0 from by omega, show (0 : Nat) ≤ 0 from by omega⟩ (fun r_48 H locs p_49 hM => ?_)
        refine lv_goto (tgt := 60) hx hb dX0_addShooting_56 (by decide) ?_
        exact B_60 _ _ _ L K I O z_39 5 r_48     hM (lv_sub hl [3, 4, 5, 6, 1, 0] rfl)
  · refine lv_iconst (v := 0) hx hb dX0_addShooting_15 (by decide) ?_
    refine lv_goto (tgt := 26) hx hb dX0_addShooting_16 (by decide) ?_
    refine lv_istore (lv' := [(5, .int 0), (4, .int r_31), (0, .ref x0), (1, .ref p0), (2, .int p1), (3, .int p2)]) hx hb dX0_addShooting_26 hl (by decide) rfl (fun ls hl => ?_)
    refine lv_iload hx hb dX0_addShooting_28 (lv_at hl 1 rfl) ?_
    refine lv_iconst (v := (-1)) hx hb dX0_addShooting_30 (by decide) ?_
    refine mm_icmp_ne (X := r_31.toInt) (Y := (-1)) (tgt := 38) hx hb dX0_addShooting_31 (by decide) rfl num_m1 (fun c_51 => False.elim (by omega)) (fun c_51 => ?_)
    refine lv_iconst (v := 5) hx hb dX0_addShooting_34 (by decide) ?_
    refine lv_goto (tgt := 40) hx hb dX0_addShooting_35 (by decide) ?_
    refine lv_istore (lv' := [(6, .int 5), (5, .int 0), (4, .int r_31), (0, .ref x0), (1, .ref p0), (2, .int p1), (3, .int p2)]) hx hb dX0_addShooting_40 hl (by decide) rfl (fun ls hl => ?_)
    refine lv_aload_n hx hb dX0_addShooting_42 rfl (lv_at hl 4 rfl) ?_
    refine cr_get (κ := 2) (ci := 2) (k := 4) (C := RX2) (T := TX2) (N := 8) (fs := cfs 2) (v := .int (I p0 4)) E hM mp0 kp0 (fun _ _ => rfl) rfl hin2 (by decide) (index := 86) (mm_at 28 rfl) rfl rfl dX0_addShooting_43 ?_
    refine mm_if_eq (X := (I p0 4).toInt) (tgt := 59) hx hb dX0_addShooting_46 (by decide) rfl (fun c_52 => ?_) (fun c_52 => ?_)
    · refine lv_iconst (v := 0) hx hb dX0_addShooting_59 (by decide) ?_
      exact B_60 _ _ _ L K I O 0 5 0     hM (lv_sub hl [3, 4, 5, 6, 1, 0] rfl)
    · refine lv_aload_n hx hb dX0_addShooting_49 rfl (lv_at hl 3 rfl) ?_
      refine lv_iconst (v := 2) hx hb dX0_addShooting_50 (by decide) ?_
      refine lv_iload_n hx hb dX0_addShooting_51 rfl (lv_at hl 5 rfl) ?_
      refine lv_iload_n hx hb dX0_addShooting_52 rfl (lv_at hl 6 rfl) ?_
      refine cc_Vip (vs := [.int 2, .int p1, .int p2]) (rest := []) (b := x0) (κ := 0) E hV rfl hA hml hM mx0 kx0 rfl rfl (h4_X0_known l D cA ad av L K I O _ x0 2 p1 p2 hM.2.2.2.1 mx0 kx0) (cwV 3 hts gk_X0_addShooting_X0_known_53 rfl rfl rfl (by decide +kernel) ⟨Nat.le_of_ble_eq_true rfl, Nat.le_of_ble_eq_true rfl⟩) rfl hl.1 rfl (Nat.le_of_ble_eq_true rfl) dX0_addShooting_53 ⟨show (0 : Nat) ≤ 0 from by omega, show (0 : Nat) ≤ 0 from by omega⟩ (fun r_54 H locs p_55 hM => ?_)
      refine lv_goto (tgt := 60) hx hb dX0_addShooting_56 (by decide) ?_
      exact B_60 _ _ _ L K I O 0 5 r_54     hM (lv_sub hl [3, 4, 5, 6, 1, 0] rfl)
def w4X0_workOut : List Cond := .code yX0_workOut cX0_workOut 5 none :: ([.fieldLink RX0 56 "SkiShots$Entry" "leastPenalty" "I", .fieldLink RX0 39 "SkiShots$Entry" "low" "I", .fieldLink RX0 59 "SkiShots$Entry" "greatestPenalty" "I", .fieldLink RX0 78 "SkiShots$Entry" "high" "I", .fieldLink RX0 62 "SkiShots$Format" "shootings" "I", .fieldLink RX0 46 "SkiShots$Entry" "struck" "Z", .fieldLink RX0 71 "SkiShots$Format" "laps" "I", .methodLink RX0 42 yX0_known, .instanceMethod yX0_known, .selects RX0 yX0_known yX0_known, .initialized RX0, .code yX0_known cX0_known 5 (some .int), .fieldLink RX0 19 "SkiShots$Event" "day" "I", .fieldLink RX0 33 "SkiShots$Event" "before" "LSkiShots$Event;", .fieldLink RX0 24 "SkiShots$Event" "sort" "I", .fieldLink RX0 27 "SkiShots$Event" "k" "I", .fieldLink RX0 30 "SkiShots$Event" "v" "I", .fieldLink RX0 15 "SkiShots$Entry" "latest" "LSkiShots$Event;", .methodLink RX0 74 yX0_sinceStart, .instanceMethod yX0_sinceStart, .selects RX0 yX0_sinceStart yX0_sinceStart, .code yX0_sinceStart cX0_sinceStart 2 (some .int), .fieldLink RX0 36 "SkiShots$Entry" "start" "I", .methodLink RX0 67 yX0_addShooting, .instanceMethod yX0_addShooting, .selects RX0 yX0_addShooting yX0_addShooting, .code yX0_addShooting cX0_addShooting 11 none, .fieldLink RX0 89 "SkiShots$Format" "missSeconds" "I", .fieldLink RX0 50 "SkiShots$Entry" "fewestMisses" "I", .fieldLink RX0 53 "SkiShots$Entry" "mostMisses" "I", .methodLink RX0 92 Lib.Math.max.name, .static Lib.Math.max.name, .initialized "java/lang/Math", .code Lib.Math.max.name Lib.Math.max.code 2 (some .int), .methodLink RX0 81 yJ6_bitCount_0f7a4, .static yJ6_bitCount_0f7a4, .initialized RJ6, .code yJ6_bitCount_0f7a4 cJ6_bitCount_0f7a4 1 (some .int), .constant RJ6 265 (1431655765), .constant RJ6 266 (858993459), .constant RJ6 267 (252645135), .fieldLink RX0 86 "SkiShots$Format" "loops" "Z"] ++ wsX00 ++ wsX10 ++ wsX20)
set_option maxRecDepth 20000 in
theorem gk_X0_workOut_X0_known_20 : GoodIn w4X0_workOut (wsV RX0 42 RX0 yX0_known w4X0_known) := goodIn_p _ [12] rfl (by decide +kernel)
set_option maxRecDepth 20000 in
theorem gk_X0_workOut_X0_sinceStart_24 : GoodIn w4X0_workOut (wsV RX0 74 RX0 yX0_sinceStart w4X0_sinceStart) := goodIn_p _ [22] rfl (by decide +kernel)
set_option maxRecDepth 20000 in
theorem gk_X0_workOut_X0_addShooting_29 : GoodIn w4X0_workOut (wsV RX0 67 RX0 yX0_addShooting w4X0_addShooting) := goodIn_p _ [27, 34, 12, 38] rfl (by decide +kernel)
set_option maxRecDepth 20000 in
theorem gk_X0_workOut_X0_known_37 : GoodIn w4X0_workOut (wsV RX0 42 RX0 yX0_known w4X0_known) := goodIn_p _ [12] rfl (by decide +kernel)
set_option maxHeartbeats 4000000 in
set_option maxRecDepth 100000 in
theorem h4_X0_workOut (l : Launch) (D : va_G) (cA : Nat → ClassId) (ad av : Nat → Nat) (L : List Nat) (K : Nat → Nat) (I : Nat → Nat → Int32) (O : Nat → Nat → Option Nat) (sz : Nat) (x0 : Nat) (p0 : Nat) (p1 : Int32) (p2 : Int32) (hI : cI L K I O) (mx0 : x0 ∈ L) (kx0 : K x0 = 0) (mp0 : p0 ∈ L) (kp0 : K p0 = 2)  : Met l yX0_workOut w4X0_workOut ({ frames := 2, cells := 0, slots := 0, locals := 54 }) (cPre D cA ad av L K I O sz [.ref x0, .ref p0, .int p1, .int p2]) (cQv D cA L K I O sz [] [(0, 2), (0, 3), (0, 4), (0, 5), (0, 6), (0, 7), (0, 8), (0, 9)] [] (fun L' K' I' O' => True)) 0 0 (va_A (cW cA L K I O) sz) := by
  refine cr_met (own := RX0) (xs := []) (WI := [(0, 2), (0, 3), (0, 4), (0, 5), (0, 6), (0, 7), (0, 8), (0, 9)]) (WO := []) (cc := cX0_workOut) (maxL := 5) (ret := none) (by decide) rfl rfl (Nat.le_of_ble_eq_true rfl) hI ?_
  intro p e s m args below meth c ls E hV hml hr hlk hname hsz hA hM hl
  have hx := E.1
  have hb := E.2.1
  have hts := E.2.2.1
  have hown := E.2.2.2.1
  have hl : lv_has ls 5 [(0, .ref x0), (1, .ref p0), (2, .int p1), (3, .int p2)] := hl
  have hin0 : ∀ w ∈ wsX00, w ∈ w4X0_workOut := by decide +kernel
  have hin1 : ∀ w ∈ wsX10, w ∈ w4X0_workOut := by decide +kernel
  have hin2 : ∀ w ∈ wsX20, w ∈ w4X0_workOut := by decide +kernel
  have B_96 : ∀ (H : Heap) (locs : List Loc) (ls : Array Slot) (Lc_96 : List Nat) (Kc_96 : Nat → Nat) (Ic_96 : Nat → Nat → Int32) (Oc_96 : Nat → Nat → Option Nat) (sk : Int32), cQ D cA (va_A (cW cA L K I O) sz) s.heap [] [(0, 2), (0, 3), (0, 4), (0, 5), (0, 6), (0, 7), (0, 8), (0, 9)] [] L K I O H locs Lc_96 Kc_96 Ic_96 Oc_96 → lv_has ls 5 [(0, .ref x0), (1, .ref p0), (2, .int p1), (3, .int p2)] → W p l e ({ frames := 2, cells := 0, slots := 0, locals := 54 }) s m args below meth c H locs 0 0 (MQ below (cQv D cA L K I O sz [] [(0, 2), (0, 3), (0, 4), (0, 5), (0, 6), (0, 7), (0, 8), (0, 9)] [] (fun L' K' I' O' => True)) args s 0 0 (va_A (cW cA L K I O) sz)) (F0 m 96 ls [.int sk]) := by
    intro H locs ls Lc_96 Kc_96 Ic_96 Oc_96 sk hM hl
    have hfr_96 := hM.2.2.2.2
    have m_1 := (hfr_96 x0 mx0 (fun z => by cases z)).1
    have k_1 : Kc_96 x0 = 0 := (hfr_96 x0 mx0 (fun z => by cases z)).2.1.trans kx0
    have m_2 := (hfr_96 p0 mp0 (fun z => by cases z)).1
    have k_2 : Kc_96 p0 = 2 := (hfr_96 p0 mp0 (fun z => by cases z)).2.1.trans kp0
    refine lv_istore (lv' := [(4, .int sk), (0, .ref x0), (1, .ref p0), (2, .int p1), (3, .int p2)]) hx hb dX0_workOut_96 hl (by decide) rfl (fun ls hl => ?_)
    refine lv_aload_n hx hb dX0_workOut_98 rfl (lv_at hl 1 rfl) ?_
    refine lv_iload hx hb dX0_workOut_99 (lv_at hl 0 rfl) ?_
    refine lv_iconst (v := (-1)) hx hb dX0_workOut_101 (by decide) ?_
    refine mm_icmp_ne (X := sk.toInt) (Y := (-1)) (tgt := 109) hx hb dX0_workOut_102 (by decide) rfl num_m1 (fun c_3 => ?_) (fun c_3 => ?_)
    · refine lv_iload hx hb dX0_workOut_109 (lv_at hl 0 rfl) ?_
      refine lv_aload_n hx hb dX0_workOut_111 rfl (lv_at hl 1 rfl) ?_
      refine cr_get (κ := 0) (ci := 0) (k := 8) (C := RX0) (T := TX0) (N := 10) (fs := cfs 0) (v := .int (Ic_96 x0 8)) E hM m_1 k_1 (fun _ _ => rfl) rfl hin0 (by decide) (index := 56) (mm_at 1 rfl) rfl rfl dX0_workOut_112 ?_
      refine mm_iaddU hx hb dX0_workOut_115 (fun z_4 => ?_)
      refine cr_puti (κ := 0) (ci := 0) (k := 3) (C := RX0) (T := TX0) (N := 10) (fs := cfs 0) (ty := .int) (v := z_4) E hM m_1 k_1 (fun _ _ => rfl) rfl hin0 tyX0 tyX0_ok nmX0 (by decide) (index := 39) (mm_at 2 rfl) rfl (Or.inl rfl) (by decide +kernel) rfl rfl (show (3 : Nat) < 10 from by decide) (fun _ _ _ => rfl) (cz_nb rfl) (cS_upd (hM.sp m_1 k_1) (by decide) (by decide)) (Or.inr (Or.inr rfl)) dX0_workOut_116 (fun H locs I_5 eI_5 hM => ?_)
      refine lv_aload_n hx hb dX0_workOut_119 rfl (lv_at hl 1 rfl) ?_
      refine lv_iload hx hb dX0_workOut_120 (lv_at hl 0 rfl) ?_
      refine lv_iconst (v := (-1)) hx hb dX0_workOut_122 (by decide) ?_
      refine mm_icmp_ne (X := sk.toInt) (Y := (-1)) (tgt := 130) hx hb dX0_workOut_123 (by decide) rfl num_m1 (fun c_6 => ?_) (fun c_6 => ?_)
      · refine lv_iload hx hb dX0_workOut_130 (lv_at hl 0 rfl) ?_
        refine lv_aload_n hx hb dX0_workOut_132 rfl (lv_at hl 1 rfl) ?_
        have e_7 : (I_5 x0 9).toInt = (Ic_96 x0 9).toInt := congrArg Int32.toInt (cu_k eI_5 (by decide))
        refine cr_get (κ := 0) (ci := 0) (k := 9) (C := RX0) (T := TX0) (N := 10) (fs := cfs 0) (v := .int (I_5 x0 9)) E hM m_1 k_1 (fun _ _ => rfl) rfl hin0 (by decide) (index := 59) (mm_at 3 rfl) rfl rfl dX0_workOut_133 ?_
        refine mm_iaddU hx hb dX0_workOut_136 (fun z_8 => ?_)
        refine cr_puti (κ := 0) (ci := 0) (k := 4) (C := RX0) (T := TX0) (N := 10) (fs := cfs 0) (ty := .int) (v := z_8) E hM m_1 k_1 (fun _ _ => rfl) rfl hin0 tyX0 tyX0_ok nmX0 (by decide) (index := 78) (mm_at 4 rfl) rfl (Or.inl rfl) (by decide +kernel) rfl rfl (show (4 : Nat) < 10 from by decide) (fun _ _ _ => rfl) (cz_nb rfl) (cS_upd (hM.sp m_1 k_1) (by decide) (by decide)) (Or.inr (Or.inr rfl)) dX0_workOut_137 (fun H locs I_9 eI_9 hM => ?_)
        exact cr_rv (mc := 0) (ms := 0) E hr hlk hsz hM ⟨show (0 : Nat) ≤ 0 from by omega, show (0 : Nat) ≤ 0 from by omega⟩ trivial dX0_workOut_140
      · refine lv_iconst (v := (-1)) hx hb dX0_workOut_126 (by decide) ?_
        refine lv_goto (tgt := 137) hx hb dX0_workOut_127 (by decide) ?_
        refine cr_puti (κ := 0) (ci := 0) (k := 4) (C := RX0) (T := TX0) (N := 10) (fs := cfs 0) (ty := .int) (v := (-1)) E hM m_1 k_1 (fun _ _ => rfl) rfl hin0 tyX0 tyX0_ok nmX0 (by decide) (index := 78) (mm_at 4 rfl) rfl (Or.inl rfl) (by decide +kernel) rfl rfl (show (4 : Nat) < 10 from by decide) (fun _ _ _ => rfl) (cz_nb rfl) (cS_upd (hM.sp m_1 k_1) (by decide) (by decide)) (Or.inr (Or.inr rfl)) dX0_workOut_137 (fun H locs I_10 eI_10 hM => ?_)
        exact cr_rv (mc := 0) (ms := 0) E hr hlk hsz hM ⟨show (0 : Nat) ≤ 0 from by omega, show (0 : Nat) ≤ 0 from by omega⟩ trivial dX0_workOut_140
    · refine lv_iconst (v := (-1)) hx hb dX0_workOut_105 (by decide) ?_
      refine lv_goto (tgt := 116) hx hb dX0_workOut_106 (by decide) ?_
      refine cr_puti (κ := 0) (ci := 0) (k := 3) (C := RX0) (T := TX0) (N := 10) (fs := cfs 0) (ty := .int) (v := (-1)) E hM m_1 k_1 (fun _ _ => rfl) rfl hin0 tyX0 tyX0_ok nmX0 (by decide) (index := 39) (mm_at 2 rfl) rfl (Or.inl rfl) (by decide +kernel) rfl rfl (show (3 : Nat) < 10 from by decide) (fun _ _ _ => rfl) (cz_nb rfl) (cS_upd (hM.sp m_1 k_1) (by decide) (by decide)) (Or.inr (Or.inr rfl)) dX0_workOut_116 (fun H locs I_11 eI_11 hM => ?_)
      refine lv_aload_n hx hb dX0_workOut_119 rfl (lv_at hl 1 rfl) ?_
      refine lv_iload hx hb dX0_workOut_120 (lv_at hl 0 rfl) ?_
      refine lv_iconst (v := (-1)) hx hb dX0_workOut_122 (by decide) ?_
      refine mm_icmp_ne (X := sk.toInt) (Y := (-1)) (tgt := 130) hx hb dX0_workOut_123 (by decide) rfl num_m1 (fun c_12 => False.elim (by omega)) (fun c_12 => ?_)
      refine lv_iconst (v := (-1)) hx hb dX0_workOut_126 (by decide) ?_
      refine lv_goto (tgt := 137) hx hb dX0_workOut_127 (by decide) ?_
      refine cr_puti (κ := 0) (ci := 0) (k := 4) (C := RX0) (T := TX0) (N := 10) (fs := cfs 0) (ty := .int) (v := (-1)) E hM m_1 k_1 (fun _ _ => rfl) rfl hin0 tyX0 tyX0_ok nmX0 (by decide) (index := 78) (mm_at 4 rfl) rfl (Or.inl rfl) (by decide +kernel) rfl rfl (show (4 : Nat) < 10 from by decide) (fun _ _ _ => rfl) (cz_nb rfl) (cS_upd (hM.sp m_1 k_1) (by decide) (by decide)) (Or.inr (Or.inr rfl)) dX0_workOut_137 (fun H locs I_13 eI_13 hM => ?_)
      exact cr_rv (mc := 0) (ms := 0) E hr hlk hsz hM ⟨show (0 : Nat) ≤ 0 from by omega, show (0 : Nat) ≤ 0 from by omega⟩ trivial dX0_workOut_140
  have B_48 : ∀ n_48 : Nat, ∀ (H : Heap) (locs : List Loc) (ls : Array Slot) (Lc_48 : List Nat) (Kc_48 : Nat → Nat) (Ic_48 : Nat → Nat → Int32) (Oc_48 : Nat → Nat → Option Nat) (k : Int32), (0 ≤ k.toInt ∧ k.toInt ≤ 2147483647) → (2147483648 - k.toInt) < (n_48 : Int) → cQ D cA (va_A (cW cA L K I O) sz) s.heap [] [(0, 2), (0, 3), (0, 4), (0, 5), (0, 6), (0, 7), (0, 8), (0, 9)] [] L K I O H locs Lc_48 Kc_48 Ic_48 Oc_48 → lv_has ls 5 [(0, .ref x0), (1, .ref p0), (2, .int p1), (3, .int p2), (4, .int k)] → W p l e ({ frames := 2, cells := 0, slots := 0, locals := 54 }) s m args below meth c H locs 0 0 (MQ below (cQv D cA L K I O sz [] [(0, 2), (0, 3), (0, 4), (0, 5), (0, 6), (0, 7), (0, 8), (0, 9)] [] (fun L' K' I' O' => True)) args s 0 0 (va_A (cW cA L K I O) sz)) (F0 m 48 ls []) := by
    intro n_48
    induction n_48 with
    | zero => intro H locs ls Lc_48 Kc_48 Ic_48 Oc_48 k f48_0 hn hM hl; exact False.elim (by omega)
    | succ n_48 ih_48 =>
      intro H locs ls Lc_48 Kc_48 Ic_48 Oc_48 k f48_0 hn hM hl
      have hfr_48 := hM.2.2.2.2
      have m_14 := (hfr_48 x0 mx0 (fun z => by cases z)).1
      have k_14 : Kc_48 x0 = 0 := (hfr_48 x0 mx0 (fun z => by cases z)).2.1.trans kx0
      have m_15 := (hfr_48 p0 mp0 (fun z => by cases z)).1
      have k_15 : Kc_48 p0 = 2 := (hfr_48 p0 mp0 (fun z => by cases z)).2.1.trans kp0
      refine lv_iload hx hb dX0_workOut_48 (lv_at hl 4 rfl) ?_
      refine lv_aload_n hx hb dX0_workOut_50 rfl (lv_at hl 1 rfl) ?_
      have e_16 : (Ic_48 p0 2).toInt = (I p0 2).toInt := congrArg Int32.toInt ((hfr_48 p0 mp0 (fun z => by cases z)).2.2.1 2 (by rw [kp0]; rfl))
      refine cr_get (κ := 2) (ci := 2) (k := 2) (C := RX2) (T := TX2) (N := 8) (fs := cfs 2) (v := .int (Ic_48 p0 2)) E hM m_15 k_15 (fun _ _ => rfl) rfl hin2 (by decide) (index := 62) (mm_at 5 rfl) rfl rfl dX0_workOut_51 ?_
      refine mm_icmp_ge (X := k.toInt) (Y := (Ic_48 p0 2).toInt) (tgt := 71) hx hb dX0_workOut_54 (by decide) rfl rfl (fun c_17 => ?_) (fun c_17 => ?_)
      · refine lv_aload_n hx hb dX0_workOut_71 rfl (lv_at hl 0 rfl) ?_
        refine cr_get (κ := 0) (ci := 0) (k := 5) (C := RX0) (T := TX0) (N := 10) (fs := cfs 0) (v := .int (Ic_48 x0 5)) E hM m_14 k_14 (fun _ _ => rfl) rfl hin0 (by decide) (index := 46) (mm_at 6 rfl) rfl rfl dX0_workOut_72 ?_
        refine mm_if_eq (X := (Ic_48 x0 5).toInt) (tgt := 82) hx hb dX0_workOut_75 (by decide) rfl (fun c_18 => ?_) (fun c_18 => ?_)
        · refine lv_aload_n hx hb dX0_workOut_82 rfl (lv_at hl 0 rfl) ?_
          refine lv_aload_n hx hb dX0_workOut_83 rfl (lv_at hl 0 rfl) ?_
          refine lv_iconst (v := 0) hx hb dX0_workOut_84 (by decide) ?_
          refine lv_aload_n hx hb dX0_workOut_85 rfl (lv_at hl 1 rfl) ?_
          have e_19 : (Ic_48 p0 1).toInt = (I p0 1).toInt := congrArg Int32.toInt ((hfr_48 p0 mp0 (fun z => by cases z)).2.2.1 1 (by rw [kp0]; rfl))
          refine cr_get (κ := 2) (ci := 2) (k := 1) (C := RX2) (T := TX2) (N := 8) (fs := cfs 2) (v := .int (Ic_48 p0 1)) E hM m_15 k_15 (fun _ _ => rfl) rfl hin2 (by decide) (index := 71) (mm_at 7 rfl) rfl rfl dX0_workOut_86 ?_
          refine lv_iload_n hx hb dX0_workOut_89 rfl (lv_at hl 3 rfl) ?_
          refine cc_Vip (vs := [.int 0, .int (Ic_48 p0 1), .int p2]) (rest := [.ref x0]) (b := x0) (κ := 0) E hV rfl hA hml hM m_14 k_14 rfl rfl (h4_X0_known l D cA ad av Lc_48 Kc_48 Ic_48 Oc_48 _ x0 0 (Ic_48 p0 1) p2 hM.2.2.2.1 m_14 k_14) (cwV 3 hts gk_X0_workOut_X0_known_20 rfl rfl rfl (by decide +kernel) ⟨Nat.le_of_ble_eq_true rfl, Nat.le_of_ble_eq_true rfl⟩) rfl hl.1 rfl (Nat.le_of_ble_eq_true rfl) dX0_workOut_90 ⟨show (0 : Nat) ≤ 0 from by omega, show (0 : Nat) ≤ 0 from by omega⟩ (fun r_21 H locs p_22 hM => ?_)
          refine cc_Vip (vs := [.int r_21]) (rest := []) (b := x0) (κ := 0) E hV rfl hA hml hM m_14 k_14 rfl rfl (h4_X0_sinceStart l D cA ad av Lc_48 Kc_48 Ic_48 Oc_48 _ x0 r_21 hM.2.2.2.1 m_14 k_14) (cwV 1 hts gk_X0_workOut_X0_sinceStart_24 rfl rfl rfl (by decide +kernel) ⟨Nat.le_of_ble_eq_true rfl, Nat.le_of_ble_eq_true rfl⟩) rfl hl.1 rfl (Nat.le_of_ble_eq_true rfl) dX0_workOut_93 ⟨show (0 : Nat) ≤ 0 from by omega, show (0 : Nat) ≤ 0 from by omega⟩ (fun r_25 H locs p_26 hM => ?_)
          exact B_96 _ _ _ Lc_48 Kc_48 Ic_48 Oc_48 r_25     hM (lv_sub hl [0, 1, 2, 3] rfl)
        · refine lv_iconst (v := (-1)) hx hb dX0_workOut_78 (by decide) ?_
          refine lv_goto (tgt := 96) hx hb dX0_workOut_79 (by decide) ?_
          exact B_96 _ _ _ Lc_48 Kc_48 Ic_48 Oc_48 (-1)     hM (lv_sub hl [0, 1, 2, 3] rfl)
      · have rg_28 := mm_rng (Ic_48 p0 2)
        refine lv_aload_n hx hb dX0_workOut_57 rfl (lv_at hl 0 rfl) ?_
        refine lv_aload_n hx hb dX0_workOut_58 rfl (lv_at hl 1 rfl) ?_
        refine lv_iload hx hb dX0_workOut_59 (lv_at hl 4 rfl) ?_
        refine lv_iload_n hx hb dX0_workOut_61 rfl (lv_at hl 3 rfl) ?_
        refine cc_Vv (vs := [.ref p0, .int k, .int p2]) (rest := []) (b := x0) (κ := 0) E hV rfl hA hml hM m_14 k_14 rfl rfl (h4_X0_addShooting l D cA ad av Lc_48 Kc_48 Ic_48 Oc_48 _ x0 p0 k p2 hM.2.2.2.1 m_14 k_14 m_15 k_15) (cwV 3 hts gk_X0_workOut_X0_addShooting_29 rfl rfl rfl (by decide +kernel) ⟨Nat.le_of_ble_eq_true rfl, Nat.le_of_ble_eq_true rfl⟩) rfl hl.1 rfl (Nat.le_of_ble_eq_true rfl) dX0_workOut_62 ⟨show (0 + 0 : Nat) ≤ 0 from by omega, show (0 + 0 : Nat) ≤ 0 from by omega⟩ (fun _ h => by cases h) (by decide) (by decide) (fun L_32 K_32 I_32 O_32 H locs fr_32 p_31 hM => ?_)
        have m_33 := (fr_32 x0 m_14 (fun z => by cases z)).1
        have k_33 : K_32 x0 = 0 := (fr_32 x0 m_14 (fun z => by cases z)).2.1.trans k_14
        have m_34 := (fr_32 p0 m_15 (fun z => by cases z)).1
        have k_34 : K_32 p0 = 2 := (fr_32 p0 m_15 (fun z => by cases z)).2.1.trans k_15
        refine mm_iinc (X := k.toInt) (v := 1) (lv2 := fun z => [(4, .int z), (0, .ref x0), (1, .ref p0), (2, .int p1), (3, .int p2)]) hx hb dX0_workOut_65 hl (k := 4) rfl rfl (by decide) num_1 (by omega) (by decide) (fun _ => rfl) (fun z_35 ls hz_35 hl => ?_)
        have hl : lv_has ls 5 [(4, .int z_35), (0, .ref x0), (1, .ref p0), (2, .int p1), (3, .int p2)] := hl
        refine lv_goto (tgt := 48) hx hb dX0_workOut_68 (by decide) ?_
        exact ih_48 _ _ _ L_32 K_32 I_32 O_32 z_35    (show (0 ≤ z_35.toInt ∧ z_35.toInt ≤ 2147483647) from by omega) (show (2147483648 - z_35.toInt) < ((n_48 : Nat) : Int) from by omega) hM (lv_sub hl [1, 2, 3, 4, 0] rfl)
  refine lv_aload_n hx hb dX0_workOut_0 rfl (lv_at hl 0 rfl) ?_
  refine lv_iload_n hx hb dX0_workOut_1 rfl (lv_at hl 2 rfl) ?_
  refine cr_puti (κ := 0) (ci := 0) (k := 2) (C := RX0) (T := TX0) (N := 10) (fs := cfs 0) (ty := .int) (v := p1) E hM mx0 kx0 (fun _ _ => rfl) rfl hin0 tyX0 tyX0_ok nmX0 (by decide) (index := 36) (mm_at 23 rfl) rfl (Or.inl rfl) (by decide +kernel) rfl rfl (show (2 : Nat) < 10 from by decide) (fun _ _ _ => rfl) (cz_nb rfl) (cS_upd (hM.sp mx0 kx0) (by decide) (by decide)) (Or.inr (Or.inr rfl)) dX0_workOut_2 (fun H locs I_36 eI_36 hM => ?_)
  refine lv_aload_n hx hb dX0_workOut_5 rfl (lv_at hl 0 rfl) ?_
  refine lv_aload_n hx hb dX0_workOut_6 rfl (lv_at hl 0 rfl) ?_
  refine lv_iconst (v := 3) hx hb dX0_workOut_7 (by decide) ?_
  refine lv_iconst (v := 0) hx hb dX0_workOut_8 (by decide) ?_
  refine lv_iload_n hx hb dX0_workOut_9 rfl (lv_at hl 3 rfl) ?_
  refine cc_Vip (vs := [.int 3, .int 0, .int p2]) (rest := [.ref x0]) (b := x0) (κ := 0) E hV rfl hA hml hM mx0 kx0 rfl rfl (h4_X0_known l D cA ad av L K I_36 O _ x0 3 0 p2 hM.2.2.2.1 mx0 kx0) (cwV 3 hts gk_X0_workOut_X0_known_37 rfl rfl rfl (by decide +kernel) ⟨Nat.le_of_ble_eq_true rfl, Nat.le_of_ble_eq_true rfl⟩) rfl hl.1 rfl (Nat.le_of_ble_eq_true rfl) dX0_workOut_10 ⟨show (0 : Nat) ≤ 0 from by omega, show (0 : Nat) ≤ 0 from by omega⟩ (fun r_38 H locs p_39 hM => ?_)
  refine lv_iconst (v := 1) hx hb dX0_workOut_13 (by decide) ?_
  refine mm_icmp_ne (X := r_38.toInt) (Y := 1) (tgt := 21) hx hb dX0_workOut_14 (by decide) rfl num_1 (fun c_41 => ?_) (fun c_41 => ?_)
  · refine lv_iconst (v := 0) hx hb dX0_workOut_21 (by decide) ?_
    refine cr_puti (κ := 0) (ci := 0) (k := 5) (C := RX0) (T := TX0) (N := 10) (fs := cfs 0) (ty := .boolean) (v := 0) E hM mx0 kx0 (fun _ _ => rfl) rfl hin0 tyX0 tyX0_ok nmX0 (by decide) (index := 46) (mm_at 6 rfl) rfl (Or.inl rfl) (by decide +kernel) (cz_nar (X := 0) num_0 (by omega)).1 (cz_nar (X := 0) num_0 (by omega)).2 (show (5 : Nat) < 10 from by decide) (fun _ _ _ => rfl) (cz_nb rfl) (cS_upd (hM.sp mx0 kx0) (by decide) (by decide)) (Or.inr (Or.inr rfl)) dX0_workOut_22 (fun H locs I_42 eI_42 hM => ?_)
    refine lv_aload_n hx hb dX0_workOut_25 rfl (lv_at hl 0 rfl) ?_
    refine lv_iconst (v := 0) hx hb dX0_workOut_26 (by decide) ?_
    refine cr_puti (κ := 0) (ci := 0) (k := 6) (C := RX0) (T := TX0) (N := 10) (fs := cfs 0) (ty := .int) (v := 0) E hM mx0 kx0 (fun _ _ => rfl) rfl hin0 tyX0 tyX0_ok nmX0 (by decide) (index := 50) (mm_at 29 rfl) rfl (Or.inl rfl) (by decide +kernel) rfl rfl (show (6 : Nat) < 10 from by decide) (fun _ _ _ => rfl) (cz_nb rfl) (cS_upd (hM.sp mx0 kx0) (by decide) (by decide)) (Or.inr (Or.inr rfl)) dX0_workOut_27 (fun H locs I_43 eI_43 hM => ?_)
    refine lv_aload_n hx hb dX0_workOut_30 rfl (lv_at hl 0 rfl) ?_
    refine lv_iconst (v := 0) hx hb dX0_workOut_31 (by decide) ?_
    refine cr_puti (κ := 0) (ci := 0) (k := 7) (C := RX0) (T := TX0) (N := 10) (fs := cfs 0) (ty := .int) (v := 0) E hM mx0 kx0 (fun _ _ => rfl) rfl hin0 tyX0 tyX0_ok nmX0 (by decide) (index := 53) (mm_at 30 rfl) rfl (Or.inl rfl) (by decide +kernel) rfl rfl (show (7 : Nat) < 10 from by decide) (fun _ _ _ => rfl) (cz_nb rfl) (cS_upd (hM.sp mx0 kx0) (by decide) (by decide)) (Or.inr (Or.inr rfl)) dX0_workOut_32 (fun H locs I_44 eI_44 hM => ?_)
    refine lv_aload_n hx hb dX0_workOut_35 rfl (lv_at hl 0 rfl) ?_
    refine lv_iconst (v := 0) hx hb dX0_workOut_36 (by decide) ?_
    refine cr_puti (κ := 0) (ci := 0) (k := 8) (C := RX0) (T := TX0) (N := 10) (fs := cfs 0) (ty := .int) (v := 0) E hM mx0 kx0 (fun _ _ => rfl) rfl hin0 tyX0 tyX0_ok nmX0 (by decide) (index := 56) (mm_at 1 rfl) rfl (Or.inl rfl) (by decide +kernel) rfl rfl (show (8 : Nat) < 10 from by decide) (fun _ _ _ => rfl) (cz_nb rfl) (cS_upd (hM.sp mx0 kx0) (by decide) (by decide)) (Or.inr (Or.inr rfl)) dX0_workOut_37 (fun H locs I_45 eI_45 hM => ?_)
    refine lv_aload_n hx hb dX0_workOut_40 rfl (lv_at hl 0 rfl) ?_
    refine lv_iconst (v := 0) hx hb dX0_workOut_41 (by decide) ?_
    refine cr_puti (κ := 0) (ci := 0) (k := 9) (C := RX0) (T := TX0) (N := 10) (fs := cfs 0) (ty := .int) (v := 0) E hM mx0 kx0 (fun _ _ => rfl) rfl hin0 tyX0 tyX0_ok nmX0 (by decide) (index := 59) (mm_at 3 rfl) rfl (Or.inl rfl) (by decide +kernel) rfl rfl (show (9 : Nat) < 10 from by decide) (fun _ _ _ => rfl) (cz_nb rfl) (cS_upd (hM.sp mx0 kx0) (by decide) (by decide)) (Or.inr (Or.inr rfl)) dX0_workOut_42 (fun H locs I_46 eI_46 hM => ?_)
    refine lv_iconst (v := 0) hx hb dX0_workOut_45 (by decide) ?_
    refine lv_istore (lv' := [(4, .int 0), (0, .ref x0), (1, .ref p0), (2, .int p1), (3, .int p2)]) hx hb dX0_workOut_46 hl (by decide) rfl (fun ls hl => ?_)
    exact B_48 4294967296 _ _ _ L K I_46 O 0    (show (0 ≤ (0 : Int32).toInt ∧ (0 : Int32).toInt ≤ 2147483647) from by have n_0 := num_0; omega) (show (2147483648 - (0 : Int32).toInt) < ((4294967296 : Nat) : Int) from by have n_0 := num_0; omega) hM (lv_sub hl [1, 2, 3, 4, 0] rfl)
  · refine lv_iconst (v := 1) hx hb dX0_workOut_17 (by decide) ?_
    refine lv_goto (tgt := 22) hx hb dX0_workOut_18 (by decide) ?_
    refine cr_puti (κ := 0) (ci := 0) (k := 5) (C := RX0) (T := TX0) (N := 10) (fs := cfs 0) (ty := .boolean) (v := 1) E hM mx0 kx0 (fun _ _ => rfl) rfl hin0 tyX0 tyX0_ok nmX0 (by decide) (index := 46) (mm_at 6 rfl) rfl (Or.inl rfl) (by decide +kernel) (cz_nar (X := 1) num_1 (by omega)).1 (cz_nar (X := 1) num_1 (by omega)).2 (show (5 : Nat) < 10 from by decide) (fun _ _ _ => rfl) (cz_nb rfl) (cS_upd (hM.sp mx0 kx0) (by decide) (by decide)) (Or.inr (Or.inr rfl)) dX0_workOut_22 (fun H locs I_47 eI_47 hM => ?_)
    refine lv_aload_n hx hb dX0_workOut_25 rfl (lv_at hl 0 rfl) ?_
    refine lv_iconst (v := 0) hx hb dX0_workOut_26 (by decide) ?_
    refine cr_puti (κ := 0) (ci := 0) (k := 6) (C := RX0) (T := TX0) (N := 10) (fs := cfs 0) (ty := .int) (v := 0) E hM mx0 kx0 (fun _ _ => rfl) rfl hin0 tyX0 tyX0_ok nmX0 (by decide) (index := 50) (mm_at 29 rfl) rfl (Or.inl rfl) (by decide +kernel) rfl rfl (show (6 : Nat) < 10 from by decide) (fun _ _ _ => rfl) (cz_nb rfl) (cS_upd (hM.sp mx0 kx0) (by decide) (by decide)) (Or.inr (Or.inr rfl)) dX0_workOut_27 (fun H locs I_48 eI_48 hM => ?_)
    refine lv_aload_n hx hb dX0_workOut_30 rfl (lv_at hl 0 rfl) ?_
    refine lv_iconst (v := 0) hx hb dX0_workOut_31 (by decide) ?_
    refine cr_puti (κ := 0) (ci := 0) (k := 7) (C := RX0) (T := TX0) (N := 10) (fs := cfs 0) (ty := .int) (v := 0) E hM mx0 kx0 (fun _ _ => rfl) rfl hin0 tyX0 tyX0_ok nmX0 (by decide) (index := 53) (mm_at 30 rfl) rfl (Or.inl rfl) (by decide +kernel) rfl rfl (show (7 : Nat) < 10 from by decide) (fun _ _ _ => rfl) (cz_nb rfl) (cS_upd (hM.sp mx0 kx0) (by decide) (by decide)) (Or.inr (Or.inr rfl)) dX0_workOut_32 (fun H locs I_49 eI_49 hM => ?_)
    refine lv_aload_n hx hb dX0_workOut_35 rfl (lv_at hl 0 rfl) ?_
    refine lv_iconst (v := 0) hx hb dX0_workOut_36 (by decide) ?_
    refine cr_puti (κ := 0) (ci := 0) (k := 8) (C := RX0) (T := TX0) (N := 10) (fs := cfs 0) (ty := .int) (v := 0) E hM mx0 kx0 (fun _ _ => rfl) rfl hin0 tyX0 tyX0_ok nmX0 (by decide) (index := 56) (mm_at 1 rfl) rfl (Or.inl rfl) (by decide +kernel) rfl rfl (show (8 : Nat) < 10 from by decide) (fun _ _ _ => rfl) (cz_nb rfl) (cS_upd (hM.sp mx0 kx0) (by decide) (by decide)) (Or.inr (Or.inr rfl)) dX0_workOut_37 (fun H locs I_50 eI_50 hM => ?_)
    refine lv_aload_n hx hb dX0_workOut_40 rfl (lv_at hl 0 rfl) ?_
    refine lv_iconst (v := 0) hx hb dX0_workOut_41 (by decide) ?_
    refine cr_puti (κ := 0) (ci := 0) (k := 9) (C := RX0) (T := TX0) (N := 10) (fs := cfs 0) (ty := .int) (v := 0) E hM mx0 kx0 (fun _ _ => rfl) rfl hin0 tyX0 tyX0_ok nmX0 (by decide) (index := 59) (mm_at 3 rfl) rfl (Or.inl rfl) (by decide +kernel) rfl rfl (show (9 : Nat) < 10 from by decide) (fun _ _ _ => rfl) (cz_nb rfl) (cS_upd (hM.sp mx0 kx0) (by decide) (by decide)) (Or.inr (Or.inr rfl)) dX0_workOut_42 (fun H locs I_51 eI_51 hM => ?_)
    refine lv_iconst (v := 0) hx hb dX0_workOut_45 (by decide) ?_
    refine lv_istore (lv' := [(4, .int 0), (0, .ref x0), (1, .ref p0), (2, .int p1), (3, .int p2)]) hx hb dX0_workOut_46 hl (by decide) rfl (fun ls hl => ?_)
    exact B_48 4294967296 _ _ _ L K I_51 O 0    (show (0 ≤ (0 : Int32).toInt ∧ (0 : Int32).toInt ≤ 2147483647) from by have n_0 := num_0; omega) (show (2147483648 - (0 : Int32).toInt) < ((4294967296 : Nat) : Int) from by have n_0 := num_0; omega) hM (lv_sub hl [1, 2, 3, 4, 0] rfl)
def w4X3_workOut : List Cond := .code yX3_workOut cX3_workOut 4 none :: ([.fieldLink RX3 29 "SkiShots$Race" "entryCount" "I", .fieldLink RX3 25 "SkiShots$Race" "entries" "[LSkiShots$Entry;", .fieldLink RX3 9 "SkiShots$Race" "format" "LSkiShots$Format;", .methodLink RX3 41 yX3_startOf, .instanceMethod yX3_startOf, .selects RX3 yX3_startOf yX3_startOf, .initialized RX3, .code yX3_startOf cX3_startOf 2 (some .int), .fieldLink RX3 56 "SkiShots$Format" "startSort" "I", .fieldLink RX3 61 "SkiShots$Format" "startSeconds" "I", .fieldLink RX3 35 "SkiShots$Entry" "racer" "I", .methodLink RX3 64 yX3_chaseStart, .instanceMethod yX3_chaseStart, .selects RX3 yX3_chaseStart yX3_chaseStart, .code yX3_chaseStart cX3_chaseStart 4 (some .int), .fieldLink RX3 15 "SkiShots$Race" "by" "LSkiShots$Race;", .methodLink RX3 67 yX3_entryOf, .instanceMethod yX3_entryOf, .selects RX3 yX3_entryOf yX3_entryOf, .code yX3_entryOf cX3_entryOf 3 (some (.object "SkiShots$Entry")), .methodLink RX3 49 yX0_hasTime, .instanceMethod yX0_hasTime, .selects RX0 yX0_hasTime yX0_hasTime, .initialized RX0, .code yX0_hasTime cX0_hasTime 1 (some .boolean), .fieldLink RX0 39 "SkiShots$Entry" "low" "I", .fieldLink RX3 53 "SkiShots$Entry" "low" "I", .fieldLink RX3 38 "SkiShots$Race" "leastLow" "I", .methodLink RX3 71 Lib.Math.min.name, .static Lib.Math.min.name, .initialized "java/lang/Math", .code Lib.Math.min.name Lib.Math.min.code 2 (some .int), .methodLink RX3 45 yX0_workOut, .instanceMethod yX0_workOut, .selects RX0 yX0_workOut yX0_workOut, .code yX0_workOut cX0_workOut 5 none, .fieldLink RX0 56 "SkiShots$Entry" "leastPenalty" "I", .fieldLink RX0 59 "SkiShots$Entry" "greatestPenalty" "I", .fieldLink RX0 78 "SkiShots$Entry" "high" "I", .fieldLink RX0 62 "SkiShots$Format" "shootings" "I", .fieldLink RX0 46 "SkiShots$Entry" "struck" "Z", .fieldLink RX0 71 "SkiShots$Format" "laps" "I", .methodLink RX0 42 yX0_known, .instanceMethod yX0_known, .selects RX0 yX0_known yX0_known, .code yX0_known cX0_known 5 (some .int), .fieldLink RX0 19 "SkiShots$Event" "day" "I", .fieldLink RX0 33 "SkiShots$Event" "before" "LSkiShots$Event;", .fieldLink RX0 24 "SkiShots$Event" "sort" "I", .fieldLink RX0 27 "SkiShots$Event" "k" "I", .fieldLink RX0 30 "SkiShots$Event" "v" "I", .fieldLink RX0 15 "SkiShots$Entry" "latest" "LSkiShots$Event;", .methodLink RX0 74 yX0_sinceStart, .instanceMethod yX0_sinceStart, .selects RX0 yX0_sinceStart yX0_sinceStart, .code yX0_sinceStart cX0_sinceStart 2 (some .int), .fieldLink RX0 36 "SkiShots$Entry" "start" "I", .methodLink RX0 67 yX0_addShooting, .instanceMethod yX0_addShooting, .selects RX0 yX0_addShooting yX0_addShooting, .code yX0_addShooting cX0_addShooting 11 none, .fieldLink RX0 89 "SkiShots$Format" "missSeconds" "I", .fieldLink RX0 50 "SkiShots$Entry" "fewestMisses" "I", .fieldLink RX0 53 "SkiShots$Entry" "mostMisses" "I", .methodLink RX0 92 Lib.Math.max.name, .static Lib.Math.max.name, .code Lib.Math.max.name Lib.Math.max.code 2 (some .int), .methodLink RX0 81 yJ6_bitCount_0f7a4, .static yJ6_bitCount_0f7a4, .initialized RJ6, .code yJ6_bitCount_0f7a4 cJ6_bitCount_0f7a4 1 (some .int), .constant RJ6 265 (1431655765), .constant RJ6 266 (858993459), .constant RJ6 267 (252645135), .fieldLink RX0 86 "SkiShots$Format" "loops" "Z"] ++ wsX00 ++ wsX10 ++ wsX20 ++ wsX30)
set_option maxRecDepth 20000 in
theorem gk_X3_workOut_X3_startOf_8 : GoodIn w4X3_workOut (wsV RX3 41 RX3 yX3_startOf w4X3_startOf) := goodIn_p _ [8, 15, 20, 25, 32] rfl (by decide +kernel)
set_option maxRecDepth 20000 in
theorem gk_X3_workOut_X0_workOut_12 : GoodIn w4X3_workOut (wsV RX3 45 RX0 yX0_workOut w4X0_workOut) := goodIn_p _ [36, 46, 56, 61, 67, 71] rfl (by decide +kernel)
set_option maxRecDepth 20000 in
theorem gk_X3_workOut_X0_hasTime_20 : GoodIn w4X3_workOut (wsV RX3 49 RX0 yX0_hasTime w4X0_hasTime) := goodIn_p _ [25] rfl (by decide +kernel)
set_option maxHeartbeats 4000000 in
set_option maxRecDepth 100000 in
theorem h4_X3_workOut (l : Launch) (D : va_G) (cA : Nat → ClassId) (ad av : Nat → Nat) (L : List Nat) (K : Nat → Nat) (I : Nat → Nat → Int32) (O : Nat → Nat → Option Nat) (sz : Nat) (x0 : Nat) (p0 : Int32) (hI : cI L K I O) (mx0 : x0 ∈ L) (kx0 : K x0 = 3)  : Met l yX3_workOut w4X3_workOut ({ frames := 3, cells := 0, slots := 0, locals := 78 }) (cPre D cA ad av L K I O sz [.ref x0, .int p0]) (cQv D cA L K I O sz [] [(0, 2), (0, 3), (0, 4), (0, 5), (0, 6), (0, 7), (0, 8), (0, 9), (3, 6)] [] (fun L' K' I' O' => True)) 0 0 (va_A (cW cA L K I O) sz) := by
  refine cr_met (own := RX3) (xs := []) (WI := [(0, 2), (0, 3), (0, 4), (0, 5), (0, 6), (0, 7), (0, 8), (0, 9), (3, 6)]) (WO := []) (cc := cX3_workOut) (maxL := 4) (ret := none) (by decide) rfl rfl (Nat.le_of_ble_eq_true rfl) hI ?_
  intro p e s m args below meth c ls E hV hml hr hlk hname hsz hA hM hl
  have hx := E.1
  have hb := E.2.1
  have hts := E.2.2.1
  have hown := E.2.2.2.1
  have hl : lv_has ls 4 [(0, .ref x0), (1, .int p0)] := hl
  have hin0 : ∀ w ∈ wsX00, w ∈ w4X3_workOut := by decide +kernel
  have hin1 : ∀ w ∈ wsX10, w ∈ w4X3_workOut := by decide +kernel
  have hin2 : ∀ w ∈ wsX20, w ∈ w4X3_workOut := by decide +kernel
  have hin3 : ∀ w ∈ wsX30, w ∈ w4X3_workOut := by decide +kernel
  have B_7 : ∀ n_7 : Nat, ∀ (H : Heap) (locs : List Loc) (ls : Array Slot) (Lc_7 : List Nat) (Kc_7 : Nat → Nat) (Ic_7 : Nat → Nat → Int32) (Oc_7 : Nat → Nat → Option Nat) (i : Int32), (0 ≤ i.toInt ∧ i.toInt ≤ 16) → (16 - i.toInt) < (n_7 : Int) → cQ D cA (va_A (cW cA L K I O) sz) s.heap [] [(0, 2), (0, 3), (0, 4), (0, 5), (0, 6), (0, 7), (0, 8), (0, 9), (3, 6)] [] L K I O H locs Lc_7 Kc_7 Ic_7 Oc_7 → lv_has ls 4 [(0, .ref x0), (1, .int p0), (2, .int i)] → W p l e ({ frames := 3, cells := 0, slots := 0, locals := 78 }) s m args below meth c H locs 0 0 (MQ below (cQv D cA L K I O sz [] [(0, 2), (0, 3), (0, 4), (0, 5), (0, 6), (0, 7), (0, 8), (0, 9), (3, 6)] [] (fun L' K' I' O' => True)) args s 0 0 (va_A (cW cA L K I O) sz)) (F0 m 7 ls []) := by
    intro n_7
    induction n_7 with
    | zero => intro H locs ls Lc_7 Kc_7 Ic_7 Oc_7 i f7_0 hn hM hl; exact False.elim (by omega)
    | succ n_7 ih_7 =>
      intro H locs ls Lc_7 Kc_7 Ic_7 Oc_7 i f7_0 hn hM hl
      have hfr_7 := hM.2.2.2.2
      have m_1 := (hfr_7 x0 mx0 (fun z => by cases z)).1
      have k_1 : Kc_7 x0 = 3 := (hfr_7 x0 mx0 (fun z => by cases z)).2.1.trans kx0
      refine lv_iload_n hx hb dX3_workOut_7 rfl (lv_at hl 2 rfl) ?_
      refine lv_aload_n hx hb dX3_workOut_8 rfl (lv_at hl 0 rfl) ?_
      have b_2 : 0 ≤ (Ic_7 x0 4).toInt ∧ (Ic_7 x0 4).toInt ≤ 16 := hM.ib m_1 k_1 4 rfl
      have e_3 : (Ic_7 x0 4).toInt = (I x0 4).toInt := congrArg Int32.toInt ((hfr_7 x0 mx0 (fun z => by cases z)).2.2.1 4 (by rw [kx0]; rfl))
      refine cr_get (κ := 3) (ci := 3) (k := 4) (C := RX3) (T := TX3) (N := 7) (fs := cfs 3) (v := .int (Ic_7 x0 4)) E hM m_1 k_1 (fun _ _ => rfl) rfl hin3 (by decide) (index := 29) (mm_at 1 rfl) rfl rfl dX3_workOut_9 ?_
      refine mm_icmp_ge (X := i.toInt) (Y := (Ic_7 x0 4).toInt) (tgt := 76) hx hb dX3_workOut_12 (by decide) rfl rfl (fun c_4 => ?_) (fun c_4 => ?_)
      · exact cr_rv (mc := 0) (ms := 0) E hr hlk hsz hM ⟨show (0 : Nat) ≤ 0 from by omega, show (0 : Nat) ≤ 0 from by omega⟩ trivial dX3_workOut_76
      · refine lv_aload_n hx hb dX3_workOut_15 rfl (lv_at hl 0 rfl) ?_
        obtain ⟨x_5, o_5, m_5, k_5⟩ := hM.nn m_1 k_1 3 (κ' := 15) rfl rfl
        refine cr_get (κ := 3) (ci := 3) (k := 3) (C := RX3) (T := TX3) (N := 7) (fs := cfs 3) (v := .ref x_5) E hM m_1 k_1 (fun _ _ => rfl) rfl hin3 (by decide) (index := 25) (mm_at 2 rfl) rfl (by show some (va_rf (Oc_7 x0 3)) = some (.ref x_5); rw [o_5]; rfl) dX3_workOut_16 ?_
        refine lv_iload_n hx hb dX3_workOut_19 rfl (lv_at hl 2 rfl) ?_
        obtain ⟨x_6, o_6⟩ := c_nn ((hM.sp m_1 k_1).2.1 rfl x_5 o_5 (Int32.toNatClampNeg i) (by rw [mm_nat]; omega))
        obtain ⟨m_6, k_6⟩ := hM.rt m_5 k_5 (Int32.toNatClampNeg i) (κ' := 0) rfl o_6
        refine cr_aalds (κ := 15) (t0 := 4) (X := i.toInt) E hM m_5 k_5 (fun _ _ => rfl) rfl rfl (by omega) o_6 dX3_workOut_20 ?_
        refine lv_astore_n (lv' := [(3, .ref x_6), (0, .ref x0), (1, .int p0), (2, .int i)]) hx hb dX3_workOut_21 rfl hl (by decide) rfl (fun ls hl => ?_)
        refine lv_aload_n hx hb dX3_workOut_22 rfl (lv_at hl 0 rfl) ?_
        refine lv_aload_n hx hb dX3_workOut_23 rfl (lv_at hl 1 rfl) ?_
        obtain ⟨x_7, o_7, m_7, k_7⟩ := hM.nn m_1 k_1 0 (κ' := 2) rfl rfl
        refine cr_get (κ := 3) (ci := 3) (k := 0) (C := RX3) (T := TX3) (N := 7) (fs := cfs 3) (v := .ref x_7) E hM m_1 k_1 (fun _ _ => rfl) rfl hin3 (by decide) (index := 9) (mm_at 3 rfl) rfl (by show some (va_rf (Oc_7 x0 0)) = some (.ref x_7); rw [o_7]; rfl) dX3_workOut_24 ?_
        refine lv_aload_n hx hb dX3_workOut_27 rfl (lv_at hl 1 rfl) ?_
        refine lv_iload_n hx hb dX3_workOut_28 rfl (lv_at hl 3 rfl) ?_
        refine cc_Vip (vs := [.int i]) (rest := [.ref x_7, .ref x_6]) (b := x0) (κ := 3) E hV rfl hA hml hM m_1 k_1 rfl rfl (h4_X3_startOf l D cA ad av Lc_7 Kc_7 Ic_7 Oc_7 _ x0 i hM.2.2.2.1 m_1 k_1 (show 0 ≤ i.toInt ∧ i.toInt < (Ic_7 x0 4).toInt from by omega)) (cwV 1 hts gk_X3_workOut_X3_startOf_8 rfl rfl rfl (by decide +kernel) ⟨Nat.le_of_ble_eq_true rfl, Nat.le_of_ble_eq_true rfl⟩) rfl hl.1 rfl (Nat.le_of_ble_eq_true rfl) dX3_workOut_29 ⟨show (0 : Nat) ≤ 0 from by omega, show (0 : Nat) ≤ 0 from by omega⟩ (fun r_9 H locs p_10 hM => ?_)
        refine lv_iload_n hx hb dX3_workOut_32 rfl (lv_at hl 2 rfl) ?_
        refine cc_Vv (vs := [.ref x_7, .int r_9, .int p0]) (rest := []) (b := x_6) (κ := 0) E hV rfl hA hml hM m_6 k_6 rfl rfl (h4_X0_workOut l D cA ad av Lc_7 Kc_7 Ic_7 Oc_7 _ x_6 x_7 r_9 p0 hM.2.2.2.1 m_6 k_6 m_7 k_7) (cwV 3 hts gk_X3_workOut_X0_workOut_12 rfl rfl rfl (by decide +kernel) ⟨Nat.le_of_ble_eq_true rfl, Nat.le_of_ble_eq_true rfl⟩) rfl hl.1 rfl (Nat.le_of_ble_eq_true rfl) dX3_workOut_33 ⟨show (0 + 0 : Nat) ≤ 0 from by omega, show (0 + 0 : Nat) ≤ 0 from by omega⟩ (fun _ h => by cases h) (by decide) (by decide) (fun L_15 K_15 I_15 O_15 H locs fr_15 p_14 hM => ?_)
        have m_16 := (fr_15 x0 m_1 (fun z => by cases z)).1
        have k_16 : K_15 x0 = 3 := (fr_15 x0 m_1 (fun z => by cases z)).2.1.trans k_1
        have m_17 := (fr_15 x_5 m_5 (fun z => by cases z)).1
        have k_17 : K_15 x_5 = 15 := (fr_15 x_5 m_5 (fun z => by cases z)).2.1.trans k_5
        have m_18 := (fr_15 x_6 m_6 (fun z => by cases z)).1
        have k_18 : K_15 x_6 = 0 := (fr_15 x_6 m_6 (fun z => by cases z)).2.1.trans k_6
        have m_19 := (fr_15 x_7 m_7 (fun z => by cases z)).1
        have k_19 : K_15 x_7 = 2 := (fr_15 x_7 m_7 (fun z => by cases z)).2.1.trans k_7
        refine lv_aload_n hx hb dX3_workOut_36 rfl (lv_at hl 0 rfl) ?_
        refine cc_Vip (vs := []) (rest := []) (b := x_6) (κ := 0) E hV rfl hA hml hM m_18 k_18 rfl rfl (h4_X0_hasTime l D cA ad av L_15 K_15 I_15 O_15 _ x_6 hM.2.2.2.1 m_18 k_18) (cwV 0 hts gk_X3_workOut_X0_hasTime_20 rfl rfl rfl (by decide +kernel) ⟨Nat.le_of_ble_eq_true rfl, Nat.le_of_ble_eq_true rfl⟩) rfl hl.1 rfl (Nat.le_of_ble_eq_true rfl) dX3_workOut_37 ⟨show (0 : Nat) ≤ 0 from by omega, show (0 : Nat) ≤ 0 from by omega⟩ (fun r_21 H locs p_22 hM => ?_)
        refine mm_if_eq (X := r_21.toInt) (tgt := 70) hx hb dX3_workOut_40 (by decide) rfl (fun c_24 => ?_) (fun c_24 => ?_)
        · refine mm_iinc (X := i.toInt) (v := 1) (lv2 := fun z => [(2, .int z), (3, .ref x_6), (0, .ref x0), (1, .int p0)]) hx hb dX3_workOut_70 hl (k := 3) rfl rfl (by decide) num_1 (by omega) (by decide) (fun _ => rfl) (fun z_25 ls hz_25 hl => ?_)
          have hl : lv_has ls 4 [(2, .int z_25), (3, .ref x_6), (0, .ref x0), (1, .int p0)] := hl
          refine lv_goto (tgt := 7) hx hb dX3_workOut_73 (by decide) ?_
          exact ih_7 _ _ _ L_15 K_15 I_15 O_15 z_25    (show (0 ≤ z_25.toInt ∧ z_25.toInt ≤ 16) from by omega) (show (16 - z_25.toInt) < ((n_7 : Nat) : Int) from by omega) hM (lv_sub hl [2, 3, 0] rfl)
        · refine lv_aload_n hx hb dX3_workOut_43 rfl (lv_at hl 1 rfl) ?_
          have e_26 : (I_15 x0 6).toInt = (Ic_7 x0 6).toInt := congrArg Int32.toInt ((fr_15 x0 m_1 (fun z => by cases z)).2.2.1 6 (by rw [k_1]; rfl))
          refine cr_get (κ := 3) (ci := 3) (k := 6) (C := RX3) (T := TX3) (N := 7) (fs := cfs 3) (v := .int (I_15 x0 6)) E hM m_16 k_16 (fun _ _ => rfl) rfl hin3 (by decide) (index := 38) (mm_at 28 rfl) rfl rfl dX3_workOut_44 ?_
          refine lv_iconst (v := (-1)) hx hb dX3_workOut_47 (by decide) ?_
          refine mm_icmp_eq (X := (I_15 x0 6).toInt) (Y := (-1)) (tgt := 62) hx hb dX3_workOut_48 (by decide) rfl num_m1 (fun c_27 => ?_) (fun c_27 => ?_)
          · refine lv_aload_n hx hb dX3_workOut_62 rfl (lv_at hl 1 rfl) ?_
            refine lv_aload_n hx hb dX3_workOut_63 rfl (lv_at hl 0 rfl) ?_
            refine cr_get (κ := 0) (ci := 0) (k := 3) (C := RX0) (T := TX0) (N := 10) (fs := cfs 0) (v := .int (I_15 x_6 3)) E hM m_18 k_18 (fun _ _ => rfl) rfl hin0 (by decide) (index := 53) (mm_at 27 rfl) rfl rfl dX3_workOut_64 ?_
            refine cr_puti (κ := 3) (ci := 3) (k := 6) (C := RX3) (T := TX3) (N := 7) (fs := cfs 3) (ty := .int) (v := (I_15 x_6 3)) E hM m_16 k_16 (fun _ _ => rfl) rfl hin3 tyX3 tyX3_ok nmX3 (by decide) (index := 38) (mm_at 28 rfl) rfl (Or.inl rfl) (by decide +kernel) rfl rfl (show (6 : Nat) < 7 from by decide) (fun _ _ _ => rfl) (cz_nb rfl) (cS_upd (hM.sp m_16 k_16) (by decide) (by decide)) (Or.inr (Or.inr rfl)) dX3_workOut_67 (fun H locs I_28 eI_28 hM => ?_)
            refine mm_iinc (X := i.toInt) (v := 1) (lv2 := fun z => [(2, .int z), (3, .ref x_6), (0, .ref x0), (1, .int p0)]) hx hb dX3_workOut_70 hl (k := 3) rfl rfl (by decide) num_1 (by omega) (by decide) (fun _ => rfl) (fun z_29 ls hz_29 hl => ?_)
            have hl : lv_has ls 4 [(2, .int z_29), (3, .ref x_6), (0, .ref x0), (1, .int p0)] := hl
            refine lv_goto (tgt := 7) hx hb dX3_workOut_73 (by decide) ?_
            exact ih_7 _ _ _ L_15 K_15 I_28 O_15 z_29    (show (0 ≤ z_29.toInt ∧ z_29.toInt ≤ 16) from by omega) (show (16 - z_29.toInt) < ((n_7 : Nat) : Int) from by omega) hM (lv_sub hl [2, 3, 0] rfl)
          · refine lv_aload_n hx hb dX3_workOut_51 rfl (lv_at hl 0 rfl) ?_
            refine cr_get (κ := 0) (ci := 0) (k := 3) (C := RX0) (T := TX0) (N := 10) (fs := cfs 0) (v := .int (I_15 x_6 3)) E hM m_18 k_18 (fun _ _ => rfl) rfl hin0 (by decide) (index := 53) (mm_at 27 rfl) rfl rfl dX3_workOut_52 ?_
            refine lv_aload_n hx hb dX3_workOut_55 rfl (lv_at hl 1 rfl) ?_
            refine cr_get (κ := 3) (ci := 3) (k := 6) (C := RX3) (T := TX3) (N := 7) (fs := cfs 3) (v := .int (I_15 x0 6)) E hM m_16 k_16 (fun _ _ => rfl) rfl hin3 (by decide) (index := 38) (mm_at 28 rfl) rfl rfl dX3_workOut_56 ?_
            refine mm_icmp_ge (X := (I_15 x_6 3).toInt) (Y := (I_15 x0 6).toInt) (tgt := 70) hx hb dX3_workOut_59 (by decide) rfl rfl (fun c_30 => ?_) (fun c_30 => ?_)
            · refine mm_iinc (X := i.toInt) (v := 1) (lv2 := fun z => [(2, .int z), (3, .ref x_6), (0, .ref x0), (1, .int p0)]) hx hb dX3_workOut_70 hl (k := 3) rfl rfl (by decide) num_1 (by omega) (by decide) (fun _ => rfl) (fun z_31 ls hz_31 hl => ?_)
              have hl : lv_has ls 4 [(2, .int z_31), (3, .ref x_6), (0, .ref x0), (1, .int p0)] := hl
              refine lv_goto (tgt := 7) hx hb dX3_workOut_73 (by decide) ?_
              exact ih_7 _ _ _ L_15 K_15 I_15 O_15 z_31    (show (0 ≤ z_31.toInt ∧ z_31.toInt ≤ 16) from by omega) (show (16 - z_31.toInt) < ((n_7 : Nat) : Int) from by omega) hM (lv_sub hl [2, 3, 0] rfl)
            · refine lv_aload_n hx hb dX3_workOut_62 rfl (lv_at hl 1 rfl) ?_
              refine lv_aload_n hx hb dX3_workOut_63 rfl (lv_at hl 0 rfl) ?_
              refine cr_get (κ := 0) (ci := 0) (k := 3) (C := RX0) (T := TX0) (N := 10) (fs := cfs 0) (v := .int (I_15 x_6 3)) E hM m_18 k_18 (fun _ _ => rfl) rfl hin0 (by decide) (index := 53) (mm_at 27 rfl) rfl rfl dX3_workOut_64 ?_
              refine cr_puti (κ := 3) (ci := 3) (k := 6) (C := RX3) (T := TX3) (N := 7) (fs := cfs 3) (ty := .int) (v := (I_15 x_6 3)) E hM m_16 k_16 (fun _ _ => rfl) rfl hin3 tyX3 tyX3_ok nmX3 (by decide) (index := 38) (mm_at 28 rfl) rfl (Or.inl rfl) (by decide +kernel) rfl rfl (show (6 : Nat) < 7 from by decide) (fun _ _ _ => rfl) (cz_nb rfl) (cS_upd (hM.sp m_16 k_16) (by decide) (by decide)) (Or.inr (Or.inr rfl)) dX3_workOut_67 (fun H locs I_32 eI_32 hM => ?_)
              refine mm_iinc (X := i.toInt) (v := 1) (lv2 := fun z => [(2, .int z), (3, .ref x_6), (0, .ref x0), (1, .int p0)]) hx hb dX3_workOut_70 hl (k := 3) rfl rfl (by decide) num_1 (by omega) (by decide) (fun _ => rfl) (fun z_33 ls hz_33 hl => ?_)
              have hl : lv_has ls 4 [(2, .int z_33), (3, .ref x_6), (0, .ref x0), (1, .int p0)] := hl
              refine lv_goto (tgt := 7) hx hb dX3_workOut_73 (by decide) ?_
              exact ih_7 _ _ _ L_15 K_15 I_32 O_15 z_33    (show (0 ≤ z_33.toInt ∧ z_33.toInt ≤ 16) from by omega) (show (16 - z_33.toInt) < ((n_7 : Nat) : Int) from by omega) hM (lv_sub hl [2, 3, 0] rfl)
  refine lv_aload_n hx hb dX3_workOut_0 rfl (lv_at hl 0 rfl) ?_
  refine lv_iconst (v := (-1)) hx hb dX3_workOut_1 (by decide) ?_
  refine cr_puti (κ := 3) (ci := 3) (k := 6) (C := RX3) (T := TX3) (N := 7) (fs := cfs 3) (ty := .int) (v := (-1)) E hM mx0 kx0 (fun _ _ => rfl) rfl hin3 tyX3 tyX3_ok nmX3 (by decide) (index := 38) (mm_at 28 rfl) rfl (Or.inl rfl) (by decide +kernel) rfl rfl (show (6 : Nat) < 7 from by decide) (fun _ _ _ => rfl) (cz_nb rfl) (cS_upd (hM.sp mx0 kx0) (by decide) (by decide)) (Or.inr (Or.inr rfl)) dX3_workOut_2 (fun H locs I_34 eI_34 hM => ?_)
  refine lv_iconst (v := 0) hx hb dX3_workOut_5 (by decide) ?_
  refine lv_istore_n (lv' := [(2, .int 0), (0, .ref x0), (1, .int p0)]) hx hb dX3_workOut_6 rfl hl (by decide) rfl (fun ls hl => ?_)
  exact B_7 4294967296 _ _ _ L K I_34 O 0    (show (0 ≤ (0 : Int32).toInt ∧ (0 : Int32).toInt ≤ 16) from by have n_0 := num_0; omega) (show (16 - (0 : Int32).toInt) < ((4294967296 : Nat) : Int) from by have n_0 := num_0; omega) hM (lv_sub hl [1, 2, 0] rfl)
def w4X5_workOut : List Cond := .code yX5_workOut cX5_workOut 4 none :: ([.fieldLink RX5 80 "SkiShots" "raceCount" "I", .fieldLink RX5 29 "SkiShots" "races" "[LSkiShots$Race;", .methodLink RX5 228 yX3_workOut, .instanceMethod yX3_workOut, .selects RX3 yX3_workOut yX3_workOut, .initialized RX3, .code yX3_workOut cX3_workOut 4 none, .fieldLink RX3 29 "SkiShots$Race" "entryCount" "I", .fieldLink RX3 25 "SkiShots$Race" "entries" "[LSkiShots$Entry;", .fieldLink RX3 9 "SkiShots$Race" "format" "LSkiShots$Format;", .methodLink RX3 41 yX3_startOf, .instanceMethod yX3_startOf, .selects RX3 yX3_startOf yX3_startOf, .code yX3_startOf cX3_startOf 2 (some .int), .fieldLink RX3 56 "SkiShots$Format" "startSort" "I", .fieldLink RX3 61 "SkiShots$Format" "startSeconds" "I", .fieldLink RX3 35 "SkiShots$Entry" "racer" "I", .methodLink RX3 64 yX3_chaseStart, .instanceMethod yX3_chaseStart, .selects RX3 yX3_chaseStart yX3_chaseStart, .code yX3_chaseStart cX3_chaseStart 4 (some .int), .fieldLink RX3 15 "SkiShots$Race" "by" "LSkiShots$Race;", .methodLink RX3 67 yX3_entryOf, .instanceMethod yX3_entryOf, .selects RX3 yX3_entryOf yX3_entryOf, .code yX3_entryOf cX3_entryOf 3 (some (.object "SkiShots$Entry")), .methodLink RX3 49 yX0_hasTime, .instanceMethod yX0_hasTime, .selects RX0 yX0_hasTime yX0_hasTime, .initialized RX0, .code yX0_hasTime cX0_hasTime 1 (some .boolean), .fieldLink RX0 39 "SkiShots$Entry" "low" "I", .fieldLink RX3 53 "SkiShots$Entry" "low" "I", .fieldLink RX3 38 "SkiShots$Race" "leastLow" "I", .methodLink RX3 71 Lib.Math.min.name, .static Lib.Math.min.name, .initialized "java/lang/Math", .code Lib.Math.min.name Lib.Math.min.code 2 (some .int), .methodLink RX3 45 yX0_workOut, .instanceMethod yX0_workOut, .selects RX0 yX0_workOut yX0_workOut, .code yX0_workOut cX0_workOut 5 none, .fieldLink RX0 56 "SkiShots$Entry" "leastPenalty" "I", .fieldLink RX0 59 "SkiShots$Entry" "greatestPenalty" "I", .fieldLink RX0 78 "SkiShots$Entry" "high" "I", .fieldLink RX0 62 "SkiShots$Format" "shootings" "I", .fieldLink RX0 46 "SkiShots$Entry" "struck" "Z", .fieldLink RX0 71 "SkiShots$Format" "laps" "I", .methodLink RX0 42 yX0_known, .instanceMethod yX0_known, .selects RX0 yX0_known yX0_known, .code yX0_known cX0_known 5 (some .int), .fieldLink RX0 19 "SkiShots$Event" "day" "I", .fieldLink RX0 33 "SkiShots$Event" "before" "LSkiShots$Event;", .fieldLink RX0 24 "SkiShots$Event" "sort" "I", .fieldLink RX0 27 "SkiShots$Event" "k" "I", .fieldLink RX0 30 "SkiShots$Event" "v" "I", .fieldLink RX0 15 "SkiShots$Entry" "latest" "LSkiShots$Event;", .methodLink RX0 74 yX0_sinceStart, .instanceMethod yX0_sinceStart, .selects RX0 yX0_sinceStart yX0_sinceStart, .code yX0_sinceStart cX0_sinceStart 2 (some .int), .fieldLink RX0 36 "SkiShots$Entry" "start" "I", .methodLink RX0 67 yX0_addShooting, .instanceMethod yX0_addShooting, .selects RX0 yX0_addShooting yX0_addShooting, .code yX0_addShooting cX0_addShooting 11 none, .fieldLink RX0 89 "SkiShots$Format" "missSeconds" "I", .fieldLink RX0 50 "SkiShots$Entry" "fewestMisses" "I", .fieldLink RX0 53 "SkiShots$Entry" "mostMisses" "I", .methodLink RX0 92 Lib.Math.max.name, .static Lib.Math.max.name, .code Lib.Math.max.name Lib.Math.max.code 2 (some .int), .methodLink RX0 81 yJ6_bitCount_0f7a4, .static yJ6_bitCount_0f7a4, .initialized RJ6, .code yJ6_bitCount_0f7a4 cJ6_bitCount_0f7a4 1 (some .int), .constant RJ6 265 (1431655765), .constant RJ6 266 (858993459), .constant RJ6 267 (252645135), .fieldLink RX0 86 "SkiShots$Format" "loops" "Z"] ++ wsX00 ++ wsX10 ++ wsX20 ++ wsX30 ++ wsX50)
set_option maxRecDepth 20000 in
theorem gk_X5_workOut_X3_workOut_8 : GoodIn w4X5_workOut (wsV RX5 228 RX3 yX3_workOut w4X3_workOut) := goodIn_p _ [7, 14, 21, 26, 31, 38, 42, 52, 62, 67, 73, 77] rfl (by decide +kernel)
set_option maxHeartbeats 4000000 in
set_option maxRecDepth 100000 in
theorem h4_X5_workOut (l : Launch) (D : va_G) (cA : Nat → ClassId) (ad av : Nat → Nat) (L : List Nat) (K : Nat → Nat) (I : Nat → Nat → Int32) (O : Nat → Nat → Option Nat) (sz : Nat) (x0 : Nat) (p0 : Int32) (p1 : Int32) (hI : cI L K I O) (mx0 : x0 ∈ L) (kx0 : K x0 = 5)  : Met l yX5_workOut w4X5_workOut ({ frames := 4, cells := 0, slots := 0, locals := 101 }) (cPre D cA ad av L K I O sz [.ref x0, .int p0, .int p1]) (cQv D cA L K I O sz [] [(0, 2), (0, 3), (0, 4), (0, 5), (0, 6), (0, 7), (0, 8), (0, 9), (3, 6)] [] (fun L' K' I' O' => True)) 0 0 (va_A (cW cA L K I O) sz) := by
  refine cr_met (own := RX5) (xs := []) (WI := [(0, 2), (0, 3), (0, 4), (0, 5), (0, 6), (0, 7), (0, 8), (0, 9), (3, 6)]) (WO := []) (cc := cX5_workOut) (maxL := 4) (ret := none) (by decide) rfl rfl (Nat.le_of_ble_eq_true rfl) hI ?_
  intro p e s m args below meth c ls E hV hml hr hlk hname hsz hA hM hl
  have hx := E.1
  have hb := E.2.1
  have hts := E.2.2.1
  have hown := E.2.2.2.1
  have hl : lv_has ls 4 [(0, .ref x0), (1, .int p0), (2, .int p1)] := hl
  have hin0 : ∀ w ∈ wsX00, w ∈ w4X5_workOut := by decide +kernel
  have hin1 : ∀ w ∈ wsX10, w ∈ w4X5_workOut := by decide +kernel
  have hin2 : ∀ w ∈ wsX20, w ∈ w4X5_workOut := by decide +kernel
  have hin3 : ∀ w ∈ wsX30, w ∈ w4X5_workOut := by decide +kernel
  have hin5 : ∀ w ∈ wsX50, w ∈ w4X5_workOut := by decide +kernel
  have B_2 : ∀ n_2 : Nat, ∀ (H : Heap) (locs : List Loc) (ls : Array Slot) (Lc_2 : List Nat) (Kc_2 : Nat → Nat) (Ic_2 : Nat → Nat → Int32) (Oc_2 : Nat → Nat → Option Nat) (i : Int32), (0 ≤ i.toInt ∧ i.toInt ≤ 8) → (8 - i.toInt) < (n_2 : Int) → cQ D cA (va_A (cW cA L K I O) sz) s.heap [] [(0, 2), (0, 3), (0, 4), (0, 5), (0, 6), (0, 7), (0, 8), (0, 9), (3, 6)] [] L K I O H locs Lc_2 Kc_2 Ic_2 Oc_2 → lv_has ls 4 [(0, .ref x0), (1, .int p0), (2, .int p1), (3, .int i)] → W p l e ({ frames := 4, cells := 0, slots := 0, locals := 101 }) s m args below meth c H locs 0 0 (MQ below (cQv D cA L K I O sz [] [(0, 2), (0, 3), (0, 4), (0, 5), (0, 6), (0, 7), (0, 8), (0, 9), (3, 6)] [] (fun L' K' I' O' => True)) args s 0 0 (va_A (cW cA L K I O) sz)) (F0 m 2 ls []) := by
    intro n_2
    induction n_2 with
    | zero => intro H locs ls Lc_2 Kc_2 Ic_2 Oc_2 i f2_0 hn hM hl; exact False.elim (by omega)
    | succ n_2 ih_2 =>
      intro H locs ls Lc_2 Kc_2 Ic_2 Oc_2 i f2_0 hn hM hl
      have hfr_2 := hM.2.2.2.2
      have m_1 := (hfr_2 x0 mx0 (fun z => by cases z)).1
      have k_1 : Kc_2 x0 = 5 := (hfr_2 x0 mx0 (fun z => by cases z)).2.1.trans kx0
      refine lv_iload_n hx hb dX5_workOut_2 rfl (lv_at hl 3 rfl) ?_
      refine lv_iload_n hx hb dX5_workOut_3 rfl (lv_at hl 1 rfl) ?_
      refine mm_icmp_ge (X := i.toInt) (Y := p0.toInt) (tgt := 31) hx hb dX5_workOut_4 (by decide) rfl rfl (fun c_2 => ?_) (fun c_2 => ?_)
      · exact cr_rv (mc := 0) (ms := 0) E hr hlk hsz hM ⟨show (0 : Nat) ≤ 0 from by omega, show (0 : Nat) ≤ 0 from by omega⟩ trivial dX5_workOut_31
      · refine lv_iload_n hx hb dX5_workOut_7 rfl (lv_at hl 3 rfl) ?_
        refine lv_aload_n hx hb dX5_workOut_8 rfl (lv_at hl 0 rfl) ?_
        have b_3 : 0 ≤ (Ic_2 x0 10).toInt ∧ (Ic_2 x0 10).toInt ≤ 8 := hM.ib m_1 k_1 10 rfl
        have e_4 : (Ic_2 x0 10).toInt = (I x0 10).toInt := congrArg Int32.toInt ((hfr_2 x0 mx0 (fun z => by cases z)).2.2.1 10 (by rw [kx0]; rfl))
        refine cr_get (κ := 5) (ci := 5) (k := 10) (C := RX5) (T := TX5) (N := 13) (fs := cfs 5) (v := .int (Ic_2 x0 10)) E hM m_1 k_1 (fun _ _ => rfl) rfl hin5 (by decide) (index := 80) (mm_at 1 rfl) rfl rfl dX5_workOut_9 ?_
        refine mm_icmp_ge (X := i.toInt) (Y := (Ic_2 x0 10).toInt) (tgt := 31) hx hb dX5_workOut_12 (by decide) rfl rfl (fun c_5 => ?_) (fun c_5 => ?_)
        · exact cr_rv (mc := 0) (ms := 0) E hr hlk hsz hM ⟨show (0 : Nat) ≤ 0 from by omega, show (0 : Nat) ≤ 0 from by omega⟩ trivial dX5_workOut_31
        · refine lv_aload_n hx hb dX5_workOut_15 rfl (lv_at hl 0 rfl) ?_
          obtain ⟨x_6, o_6, m_6, k_6⟩ := hM.nn m_1 k_1 9 (κ' := 12) rfl rfl
          refine cr_get (κ := 5) (ci := 5) (k := 9) (C := RX5) (T := TX5) (N := 13) (fs := cfs 5) (v := .ref x_6) E hM m_1 k_1 (fun _ _ => rfl) rfl hin5 (by decide) (index := 29) (mm_at 2 rfl) rfl (by show some (va_rf (Oc_2 x0 9)) = some (.ref x_6); rw [o_6]; rfl) dX5_workOut_16 ?_
          refine lv_iload_n hx hb dX5_workOut_19 rfl (lv_at hl 3 rfl) ?_
          obtain ⟨x_7, o_7⟩ := c_nn ((hM.sp m_1 k_1).2.2.2 rfl x_6 o_6 (Int32.toNatClampNeg i) (by rw [mm_nat]; omega))
          obtain ⟨m_7, k_7⟩ := hM.rt m_6 k_6 (Int32.toNatClampNeg i) (κ' := 3) rfl o_7
          refine cr_aalds (κ := 12) (t0 := 2) (X := i.toInt) E hM m_6 k_6 (fun _ _ => rfl) rfl rfl (by omega) o_7 dX5_workOut_20 ?_
          refine lv_iload_n hx hb dX5_workOut_21 rfl (lv_at hl 2 rfl) ?_
          refine cc_Vv (vs := [.int p1]) (rest := []) (b := x_7) (κ := 3) E hV rfl hA hml hM m_7 k_7 rfl rfl (h4_X3_workOut l D cA ad av Lc_2 Kc_2 Ic_2 Oc_2 _ x_7 p1 hM.2.2.2.1 m_7 k_7) (cwV 1 hts gk_X5_workOut_X3_workOut_8 rfl rfl rfl (by decide +kernel) ⟨Nat.le_of_ble_eq_true rfl, Nat.le_of_ble_eq_true rfl⟩) rfl hl.1 rfl (Nat.le_of_ble_eq_true rfl) dX5_workOut_22 ⟨show (0 + 0 : Nat) ≤ 0 from by omega, show (0 + 0 : Nat) ≤ 0 from by omega⟩ (fun _ h => by cases h) (by decide) (by decide) (fun L_11 K_11 I_11 O_11 H locs fr_11 p_10 hM => ?_)
          have m_12 := (fr_11 x0 m_1 (fun z => by cases z)).1
          have k_12 : K_11 x0 = 5 := (fr_11 x0 m_1 (fun z => by cases z)).2.1.trans k_1
          have m_13 := (fr_11 x_6 m_6 (fun z => by cases z)).1
          have k_13 : K_11 x_6 = 12 := (fr_11 x_6 m_6 (fun z => by cases z)).2.1.trans k_6
          have m_14 := (fr_11 x_7 m_7 (fun z => by cases z)).1
          have k_14 : K_11 x_7 = 3 := (fr_11 x_7 m_7 (fun z => by cases z)).2.1.trans k_7
          refine mm_iinc (X := i.toInt) (v := 1) (lv2 := fun z => [(3, .int z), (0, .ref x0), (1, .int p0), (2, .int p1)]) hx hb dX5_workOut_25 hl (k := 3) rfl rfl (by decide) num_1 (by omega) (by decide) (fun _ => rfl) (fun z_15 ls hz_15 hl => ?_)
          have hl : lv_has ls 4 [(3, .int z_15), (0, .ref x0), (1, .int p0), (2, .int p1)] := hl
          refine lv_goto (tgt := 2) hx hb dX5_workOut_28 (by decide) ?_
          exact ih_2 _ _ _ L_11 K_11 I_11 O_11 z_15    (show (0 ≤ z_15.toInt ∧ z_15.toInt ≤ 8) from by omega) (show (8 - z_15.toInt) < ((n_2 : Nat) : Int) from by omega) hM (lv_sub hl [1, 2, 3, 0] rfl)
  refine lv_iconst (v := 0) hx hb dX5_workOut_0 (by decide) ?_
  refine lv_istore_n (lv' := [(3, .int 0), (0, .ref x0), (1, .int p0), (2, .int p1)]) hx hb dX5_workOut_1 rfl hl (by decide) rfl (fun ls hl => ?_)
  exact B_2 4294967296 _ _ _ L K I O 0    (show (0 ≤ (0 : Int32).toInt ∧ (0 : Int32).toInt ≤ 8) from by have n_0 := num_0; omega) (show (8 - (0 : Int32).toInt) < ((4294967296 : Nat) : Int) from by have n_0 := num_0; omega) hM (lv_sub hl [1, 2, 3, 0] rfl)
def w4X5_standingInCup : List Cond := .code yX5_standingInCup cX5_standingInCup 4 (some .int) :: ([.fieldLink RX5 77 "SkiShots" "racerCount" "I", .fieldLink RX5 33 "SkiShots" "cup" "[I"] ++ wsX50)
set_option maxHeartbeats 4000000 in
set_option maxRecDepth 100000 in
theorem h4_X5_standingInCup (l : Launch) (D : va_G) (cA : Nat → ClassId) (ad av : Nat → Nat) (L : List Nat) (K : Nat → Nat) (I : Nat → Nat → Int32) (O : Nat → Nat → Option Nat) (sz : Nat) (x0 : Nat) (p0 : Int32) (hI : cI L K I O) (mx0 : x0 ∈ L) (kx0 : K x0 = 5) (k0 : 0 ≤ p0.toInt ∧ p0.toInt < 16) : Met l yX5_standingInCup w4X5_standingInCup ({ frames := 0, cells := 0, slots := 0, locals := 0 }) (cPre D cA ad av L K I O sz [.ref x0, .int p0]) (cQi D cA L K I O sz [] [] [] (fun r L' K' I' O' => (L' = L ∧ K' = K ∧ I' = I ∧ O' = O) ∧ (True))) 0 0 (va_A (cW cA L K I O) sz) := by
  refine cr_met (own := RX5) (xs := []) (WI := []) (WO := []) (cc := cX5_standingInCup) (maxL := 4) (ret := (some .int)) (by decide) rfl rfl (Nat.le_of_ble_eq_true rfl) hI ?_
  intro p e s m args below meth c ls E hV hml hr hlk hname hsz hA hM hl
  have hx := E.1
  have hb := E.2.1
  have hts := E.2.2.1
  have hown := E.2.2.2.1
  have hl : lv_has ls 4 [(0, .ref x0), (1, .int p0)] := hl
  have hin5 : ∀ w ∈ wsX50, w ∈ w4X5_standingInCup := by decide +kernel
  have B_4 : ∀ n_4 : Nat, ∀ (H : Heap) (locs : List Loc) (ls : Array Slot) (n i : Int32), (0 ≤ i.toInt ∧ i.toInt ≤ 16) → (1 ≤ n.toInt ∧ n.toInt ≤ 17) → n.toInt ≤ i.toInt + 1 → (16 - i.toInt) < (n_4 : Int) → cQ D cA (va_A (cW cA L K I O) sz) s.heap [] [] [] L K I O H locs L K I O → lv_has ls 4 [(0, .ref x0), (1, .int p0), (2, .int n), (3, .int i)] → W p l e ({ frames := 0, cells := 0, slots := 0, locals := 0 }) s m args below meth c H locs 0 0 (MQ below (cQi D cA L K I O sz [] [] [] (fun r L' K' I' O' => (L' = L ∧ K' = K ∧ I' = I ∧ O' = O) ∧ (True))) args s 0 0 (va_A (cW cA L K I O) sz)) (F0 m 4 ls []) := by
    intro n_4
    induction n_4 with
    | zero => intro H locs ls n i f4_0 f4_1 f4_2 hn hM hl; exact False.elim (by omega)
    | succ n_4 ih_4 =>
      intro H locs ls n i f4_0 f4_1 f4_2 hn hM hl
      refine lv_iload_n hx hb dX5_standingInCup_4 rfl (lv_at hl 3 rfl) ?_
      refine lv_aload_n hx hb dX5_standingInCup_5 rfl (lv_at hl 0 rfl) ?_
      have b_1 : 0 ≤ (I x0 8).toInt ∧ (I x0 8).toInt ≤ 16 := hM.ib mx0 kx0 8 rfl
      refine cr_get (κ := 5) (ci := 5) (k := 8) (C := RX5) (T := TX5) (N := 13) (fs := cfs 5) (v := .int (I x0 8)) E hM mx0 kx0 (fun _ _ => rfl) rfl hin5 (by decide) (index := 77) (mm_at 1 rfl) rfl rfl dX5_standingInCup_6 ?_
      refine mm_icmp_ge (X := i.toInt) (Y := (I x0 8).toInt) (tgt := 36) hx hb dX5_standingInCup_9 (by decide) rfl rfl (fun c_2 => ?_) (fun c_2 => ?_)
      · refine lv_iload_n hx hb dX5_standingInCup_36 rfl (lv_at hl 2 rfl) ?_
        exact cr_ri (mc := 0) (ms := 0) E hr hlk hsz hM ⟨show (0 : Nat) ≤ 0 from by omega, show (0 : Nat) ≤ 0 from by omega⟩ ⟨⟨rfl, rfl, rfl, rfl⟩, trivial⟩ dX5_standingInCup_37
      · refine lv_aload_n hx hb dX5_standingInCup_12 rfl (lv_at hl 0 rfl) ?_
        obtain ⟨x_3, o_3, m_3, k_3⟩ := hM.nn mx0 kx0 12 (κ' := 13) rfl rfl
        refine cr_get (κ := 5) (ci := 5) (k := 12) (C := RX5) (T := TX5) (N := 13) (fs := cfs 5) (v := .ref x_3) E hM mx0 kx0 (fun _ _ => rfl) rfl hin5 (by decide) (index := 33) (mm_at 2 rfl) rfl (by show some (va_rf (O x0 12)) = some (.ref x_3); rw [o_3]; rfl) dX5_standingInCup_13 ?_
        refine lv_iload_n hx hb dX5_standingInCup_16 rfl (lv_at hl 3 rfl) ?_
        refine cr_iald (κ := 13) (t0 := 1) (X := i.toInt) E hM m_3 k_3 (fun _ _ => rfl) rfl rfl (by omega) dX5_standingInCup_17 ?_
        refine lv_aload_n hx hb dX5_standingInCup_18 rfl (lv_at hl 0 rfl) ?_
        refine cr_get (κ := 5) (ci := 5) (k := 12) (C := RX5) (T := TX5) (N := 13) (fs := cfs 5) (v := .ref x_3) E hM mx0 kx0 (fun _ _ => rfl) rfl hin5 (by decide) (index := 33) (mm_at 2 rfl) rfl (by show some (va_rf (O x0 12)) = some (.ref x_3); rw [o_3]; rfl) dX5_standingInCup_19 ?_
        refine lv_iload_n hx hb dX5_standingInCup_22 rfl (lv_at hl 1 rfl) ?_
        refine cr_iald (κ := 13) (t0 := 1) (X := p0.toInt) E hM m_3 k_3 (fun _ _ => rfl) rfl rfl (by omega) dX5_standingInCup_23 ?_
        refine mm_icmp_le (X := (I x_3 (Int32.toNatClampNeg i)).toInt) (Y := (I x_3 (Int32.toNatClampNeg p0)).toInt) (tgt := 30) hx hb dX5_standingInCup_24 (by decide) rfl rfl (fun c_4 => ?_) (fun c_4 => ?_)
        · refine mm_iinc (X := i.toInt) (v := 1) (lv2 := fun z => [(3, .int z), (0, .ref x0), (1, .int p0), (2, .int n)]) hx hb dX5_standingInCup_30 hl (k := 3) rfl rfl (by decide) num_1 (by omega) (by decide) (fun _ => rfl) (fun z_5 ls hz_5 hl => ?_)
          have hl : lv_has ls 4 [(3, .int z_5), (0, .ref x0), (1, .int p0), (2, .int n)] := hl
          refine lv_goto (tgt := 4) hx hb dX5_standingInCup_33 (by decide) ?_
          exact ih_4 _ _ _  n z_5    (show (0 ≤ z_5.toInt ∧ z_5.toInt ≤ 16) from by omega) (show (1 ≤ n.toInt ∧ n.toInt ≤ 17) from by omega) (show n.toInt ≤ z_5.toInt + 1 from by omega) (show (16 - z_5.toInt) < ((n_4 : Nat) : Int) from by omega) hM (lv_sub hl [1, 2, 3, 0] rfl)
        · refine mm_iinc (X := n.toInt) (v := 1) (lv2 := fun z => [(2, .int z), (0, .ref x0), (1, .int p0), (3, .int i)]) hx hb dX5_standingInCup_27 hl (k := 2) rfl rfl (by decide) num_1 (by omega) (by decide) (fun _ => rfl) (fun z_6 ls hz_6 hl => ?_)
          have hl : lv_has ls 4 [(2, .int z_6), (0, .ref x0), (1, .int p0), (3, .int i)] := hl
          refine mm_iinc (X := i.toInt) (v := 1) (lv2 := fun z => [(3, .int z), (2, .int z_6), (0, .ref x0), (1, .int p0)]) hx hb dX5_standingInCup_30 hl (k := 3) rfl rfl (by decide) num_1 (by omega) (by decide) (fun _ => rfl) (fun z_7 ls hz_7 hl => ?_)
          have hl : lv_has ls 4 [(3, .int z_7), (2, .int z_6), (0, .ref x0), (1, .int p0)] := hl
          refine lv_goto (tgt := 4) hx hb dX5_standingInCup_33 (by decide) ?_
          exact ih_4 _ _ _  z_6 z_7    (show (0 ≤ z_7.toInt ∧ z_7.toInt ≤ 16) from by omega) (show (1 ≤ z_6.toInt ∧ z_6.toInt ≤ 17) from by omega) (show z_6.toInt ≤ z_7.toInt + 1 from by omega) (show (16 - z_7.toInt) < ((n_4 : Nat) : Int) from by omega) hM (lv_sub hl [2, 3, 1, 0] rfl)
  refine lv_iconst (v := 1) hx hb dX5_standingInCup_0 (by decide) ?_
  refine lv_istore_n (lv' := [(2, .int 1), (0, .ref x0), (1, .int p0)]) hx hb dX5_standingInCup_1 rfl hl (by decide) rfl (fun ls hl => ?_)
  refine lv_iconst (v := 0) hx hb dX5_standingInCup_2 (by decide) ?_
  refine lv_istore_n (lv' := [(3, .int 0), (2, .int 1), (0, .ref x0), (1, .int p0)]) hx hb dX5_standingInCup_3 rfl hl (by decide) rfl (fun ls hl => ?_)
  exact B_4 4294967296 _ _ _  1 0    (show (0 ≤ (0 : Int32).toInt ∧ (0 : Int32).toInt ≤ 16) from by have n_0 := num_1; have n_1 := num_0; omega) (show (1 ≤ (1 : Int32).toInt ∧ (1 : Int32).toInt ≤ 17) from by have n_0 := num_1; have n_1 := num_0; omega) (show (1 : Int32).toInt ≤ (0 : Int32).toInt + 1 from by have n_0 := num_1; have n_1 := num_0; omega) (show (16 - (0 : Int32).toInt) < ((4294967296 : Nat) : Int) from by have n_0 := num_1; have n_1 := num_0; omega) hM (lv_sub hl [2, 3, 1, 0] rfl)
def w4X5_addToCup : List Cond := .code yX5_addToCup cX5_addToCup 4 none :: ([.fieldLink RX5 106 "SkiShots$Race" "entryCount" "I", .fieldLink RX5 161 "SkiShots$Race" "entries" "[LSkiShots$Entry;", .methodLink RX5 209 yX0_hasTime, .instanceMethod yX0_hasTime, .selects RX0 yX0_hasTime yX0_hasTime, .initialized RX0, .code yX0_hasTime cX0_hasTime 1 (some .boolean), .fieldLink RX0 39 "SkiShots$Entry" "low" "I", .fieldLink RX5 33 "SkiShots" "cup" "[I", .fieldLink RX5 165 "SkiShots$Entry" "racer" "I", .methodLink RX5 188 yX3_lastPlace, .instanceMethod yX3_lastPlace, .selects RX3 yX3_lastPlace yX3_lastPlace, .initialized RX3, .code yX3_lastPlace cX3_lastPlace 5 (some .int), .fieldLink RX3 29 "SkiShots$Race" "entryCount" "I", .fieldLink RX3 25 "SkiShots$Race" "entries" "[LSkiShots$Entry;", .methodLink RX3 49 yX0_hasTime, .fieldLink RX3 53 "SkiShots$Entry" "low" "I", .fieldLink RX3 77 "SkiShots$Entry" "high" "I", .methodLink RX5 234 Lib.Math.max.name, .static Lib.Math.max.name, .initialized "java/lang/Math", .code Lib.Math.max.name Lib.Math.max.code 2 (some .int)] ++ wsX00 ++ wsX30 ++ wsX50)
set_option maxRecDepth 20000 in
theorem gk_X5_addToCup_X0_hasTime_8 : GoodIn w4X5_addToCup (wsV RX5 209 RX0 yX0_hasTime w4X0_hasTime) := goodIn_p _ [7] rfl (by decide +kernel)
set_option maxRecDepth 20000 in
theorem gk_X5_addToCup_X3_lastPlace_16 : GoodIn w4X5_addToCup (wsV RX5 188 RX3 yX3_lastPlace w4X3_lastPlace) := goodIn_p _ [15, 7] rfl (by decide +kernel)
set_option maxHeartbeats 4000000 in
set_option maxRecDepth 100000 in
theorem h4_X5_addToCup (l : Launch) (D : va_G) (cA : Nat → ClassId) (ad av : Nat → Nat) (L : List Nat) (K : Nat → Nat) (I : Nat → Nat → Int32) (O : Nat → Nat → Option Nat) (sz : Nat) (x0 : Nat) (p0 : Nat) (hI : cI L K I O) (mx0 : x0 ∈ L) (kx0 : K x0 = 5) (mp0 : p0 ∈ L) (kp0 : K p0 = 3)  : Met l yX5_addToCup w4X5_addToCup ({ frames := 2, cells := 0, slots := 0, locals := 44 }) (cPre D cA ad av L K I O sz [.ref x0, .ref p0]) (cQv D cA L K I O sz [] [(13, 0)] [] (fun L' K' I' O' => True)) 0 0 (va_A (cW cA L K I O) sz) := by
  refine cr_met (own := RX5) (xs := []) (WI := [(13, 0)]) (WO := []) (cc := cX5_addToCup) (maxL := 4) (ret := none) (by decide) rfl rfl (Nat.le_of_ble_eq_true rfl) hI ?_
  intro p e s m args below meth c ls E hV hml hr hlk hname hsz hA hM hl
  have hx := E.1
  have hb := E.2.1
  have hts := E.2.2.1
  have hown := E.2.2.2.1
  have hl : lv_has ls 4 [(0, .ref x0), (1, .ref p0)] := hl
  have hin0 : ∀ w ∈ wsX00, w ∈ w4X5_addToCup := by decide +kernel
  have hin3 : ∀ w ∈ wsX30, w ∈ w4X5_addToCup := by decide +kernel
  have hin5 : ∀ w ∈ wsX50, w ∈ w4X5_addToCup := by decide +kernel
  have B_2 : ∀ n_2 : Nat, ∀ (H : Heap) (locs : List Loc) (ls : Array Slot) (Lc_2 : List Nat) (Kc_2 : Nat → Nat) (Ic_2 : Nat → Nat → Int32) (Oc_2 : Nat → Nat → Option Nat) (i : Int32), (0 ≤ i.toInt ∧ i.toInt ≤ 16) → (16 - i.toInt) < (n_2 : Int) → cQ D cA (va_A (cW cA L K I O) sz) s.heap [] [(13, 0)] [] L K I O H locs Lc_2 Kc_2 Ic_2 Oc_2 → lv_has ls 4 [(0, .ref x0), (1, .ref p0), (2, .int i)] → W p l e ({ frames := 2, cells := 0, slots := 0, locals := 44 }) s m args below meth c H locs 0 0 (MQ below (cQv D cA L K I O sz [] [(13, 0)] [] (fun L' K' I' O' => True)) args s 0 0 (va_A (cW cA L K I O) sz)) (F0 m 2 ls []) := by
    intro n_2
    induction n_2 with
    | zero => intro H locs ls Lc_2 Kc_2 Ic_2 Oc_2 i f2_0 hn hM hl; exact False.elim (by omega)
    | succ n_2 ih_2 =>
      intro H locs ls Lc_2 Kc_2 Ic_2 Oc_2 i f2_0 hn hM hl
      have hfr_2 := hM.2.2.2.2
      have m_1 := (hfr_2 x0 mx0 (fun z => by cases z)).1
      have k_1 : Kc_2 x0 = 5 := (hfr_2 x0 mx0 (fun z => by cases z)).2.1.trans kx0
      have m_2 := (hfr_2 p0 mp0 (fun z => by cases z)).1
      have k_2 : Kc_2 p0 = 3 := (hfr_2 p0 mp0 (fun z => by cases z)).2.1.trans kp0
      refine lv_iload_n hx hb dX5_addToCup_2 rfl (lv_at hl 2 rfl) ?_
      refine lv_aload_n hx hb dX5_addToCup_3 rfl (lv_at hl 1 rfl) ?_
      have b_3 : 0 ≤ (Ic_2 p0 4).toInt ∧ (Ic_2 p0 4).toInt ≤ 16 := hM.ib m_2 k_2 4 rfl
      have e_4 : (Ic_2 p0 4).toInt = (I p0 4).toInt := congrArg Int32.toInt ((hfr_2 p0 mp0 (fun z => by cases z)).2.2.1 4 (by rw [kp0]; rfl))
      refine cr_get (κ := 3) (ci := 3) (k := 4) (C := RX3) (T := TX3) (N := 7) (fs := cfs 3) (v := .int (Ic_2 p0 4)) E hM m_2 k_2 (fun _ _ => rfl) rfl hin3 (by decide) (index := 106) (mm_at 1 rfl) rfl rfl dX5_addToCup_4 ?_
      refine mm_icmp_ge (X := i.toInt) (Y := (Ic_2 p0 4).toInt) (tgt := 54) hx hb dX5_addToCup_7 (by decide) rfl rfl (fun c_5 => ?_) (fun c_5 => ?_)
      · exact cr_rv (mc := 0) (ms := 0) E hr hlk hsz hM ⟨show (0 : Nat) ≤ 0 from by omega, show (0 : Nat) ≤ 0 from by omega⟩ trivial dX5_addToCup_54
      · refine lv_aload_n hx hb dX5_addToCup_10 rfl (lv_at hl 1 rfl) ?_
        obtain ⟨x_6, o_6, m_6, k_6⟩ := hM.nn m_2 k_2 3 (κ' := 15) rfl rfl
        refine cr_get (κ := 3) (ci := 3) (k := 3) (C := RX3) (T := TX3) (N := 7) (fs := cfs 3) (v := .ref x_6) E hM m_2 k_2 (fun _ _ => rfl) rfl hin3 (by decide) (index := 161) (mm_at 2 rfl) rfl (by show some (va_rf (Oc_2 p0 3)) = some (.ref x_6); rw [o_6]; rfl) dX5_addToCup_11 ?_
        refine lv_iload_n hx hb dX5_addToCup_14 rfl (lv_at hl 2 rfl) ?_
        obtain ⟨x_7, o_7⟩ := c_nn ((hM.sp m_2 k_2).2.1 rfl x_6 o_6 (Int32.toNatClampNeg i) (by rw [mm_nat]; omega))
        obtain ⟨m_7, k_7⟩ := hM.rt m_6 k_6 (Int32.toNatClampNeg i) (κ' := 0) rfl o_7
        refine cr_aalds (κ := 15) (t0 := 4) (X := i.toInt) E hM m_6 k_6 (fun _ _ => rfl) rfl rfl (by omega) o_7 dX5_addToCup_15 ?_
        refine lv_astore_n (lv' := [(3, .ref x_7), (0, .ref x0), (1, .ref p0), (2, .int i)]) hx hb dX5_addToCup_16 rfl hl (by decide) rfl (fun ls hl => ?_)
        refine lv_aload_n hx hb dX5_addToCup_17 rfl (lv_at hl 0 rfl) ?_
        refine cc_Vip (vs := []) (rest := []) (b := x_7) (κ := 0) E hV rfl hA hml hM m_7 k_7 rfl rfl (h4_X0_hasTime l D cA ad av Lc_2 Kc_2 Ic_2 Oc_2 _ x_7 hM.2.2.2.1 m_7 k_7) (cwV 0 hts gk_X5_addToCup_X0_hasTime_8 rfl rfl rfl (by decide +kernel) ⟨Nat.le_of_ble_eq_true rfl, Nat.le_of_ble_eq_true rfl⟩) rfl hl.1 rfl (Nat.le_of_ble_eq_true rfl) dX5_addToCup_18 ⟨show (0 : Nat) ≤ 0 from by omega, show (0 : Nat) ≤ 0 from by omega⟩ (fun r_9 H locs p_10 hM => ?_)
        refine mm_if_eq (X := r_9.toInt) (tgt := 48) hx hb dX5_addToCup_21 (by decide) rfl (fun c_12 => ?_) (fun c_12 => ?_)
        · refine mm_iinc (X := i.toInt) (v := 1) (lv2 := fun z => [(2, .int z), (3, .ref x_7), (0, .ref x0), (1, .ref p0)]) hx hb dX5_addToCup_48 hl (k := 3) rfl rfl (by decide) num_1 (by omega) (by decide) (fun _ => rfl) (fun z_13 ls hz_13 hl => ?_)
          have hl : lv_has ls 4 [(2, .int z_13), (3, .ref x_7), (0, .ref x0), (1, .ref p0)] := hl
          refine lv_goto (tgt := 2) hx hb dX5_addToCup_51 (by decide) ?_
          exact ih_2 _ _ _ Lc_2 Kc_2 Ic_2 Oc_2 z_13    (show (0 ≤ z_13.toInt ∧ z_13.toInt ≤ 16) from by omega) (show (16 - z_13.toInt) < ((n_2 : Nat) : Int) from by omega) hM (lv_sub hl [2, 3, 0] rfl)
        · refine lv_aload_n hx hb dX5_addToCup_24 rfl (lv_at hl 1 rfl) ?_
          obtain ⟨x_14, o_14, m_14, k_14⟩ := hM.nn m_1 k_1 12 (κ' := 13) rfl rfl
          refine cr_get (κ := 5) (ci := 5) (k := 12) (C := RX5) (T := TX5) (N := 13) (fs := cfs 5) (v := .ref x_14) E hM m_1 k_1 (fun _ _ => rfl) rfl hin5 (by decide) (index := 33) (mm_at 9 rfl) rfl (by show some (va_rf (Oc_2 x0 12)) = some (.ref x_14); rw [o_14]; rfl) dX5_addToCup_25 ?_
          refine lv_aload_n hx hb dX5_addToCup_28 rfl (lv_at hl 0 rfl) ?_
          have b_15 : 0 ≤ (Ic_2 x_7 0).toInt ∧ (Ic_2 x_7 0).toInt ≤ 15 := hM.ib m_7 k_7 0 rfl
          refine cr_get (κ := 0) (ci := 0) (k := 0) (C := RX0) (T := TX0) (N := 10) (fs := cfs 0) (v := .int (Ic_2 x_7 0)) E hM m_7 k_7 (fun _ _ => rfl) rfl hin0 (by decide) (index := 165) (mm_at 10 rfl) rfl rfl dX5_addToCup_29 ?_
          refine lv_dup2_11 hx hb dX5_addToCup_32 rfl rfl ?_
          refine cr_iald (κ := 13) (t0 := 1) (X := (Ic_2 x_7 0).toInt) E hM m_14 k_14 (fun _ _ => rfl) rfl rfl (by omega) dX5_addToCup_33 ?_
          refine lv_iconst (v := 0) hx hb dX5_addToCup_34 (by decide) ?_
          refine lv_bipush (v := 21) hx hb dX5_addToCup_35 (by decide) ?_
          refine lv_aload_n hx hb dX5_addToCup_37 rfl (lv_at hl 2 rfl) ?_
          refine lv_aload_n hx hb dX5_addToCup_38 rfl (lv_at hl 0 rfl) ?_
          refine cc_Vip (vs := [.ref x_7]) (rest := [.int 21, .int 0, .int (Ic_2 x_14 (Int32.toNatClampNeg (Ic_2 x_7 0))), .int (Ic_2 x_7 0), .ref x_14]) (b := p0) (κ := 3) E hV rfl hA hml hM m_2 k_2 rfl rfl (h4_X3_lastPlace l D cA ad av Lc_2 Kc_2 Ic_2 Oc_2 _ p0 x_7 hM.2.2.2.1 m_2 k_2 m_7 k_7) (cwV 1 hts gk_X5_addToCup_X3_lastPlace_16 rfl rfl rfl (by decide +kernel) ⟨Nat.le_of_ble_eq_true rfl, Nat.le_of_ble_eq_true rfl⟩) rfl hl.1 rfl (Nat.le_of_ble_eq_true rfl) dX5_addToCup_39 ⟨show (0 : Nat) ≤ 0 from by omega, show (0 : Nat) ≤ 0 from by omega⟩ (fun r_17 H locs p_18 hM => ?_)
          refine mm_isubU hx hb dX5_addToCup_42 (fun z_20 => ?_)
          refine mm_max (X := 0) (Y := z_20.toInt) hx hb (hml.trans hl.1.symm) hown (hts _ (mm_at 21 rfl)) (hts _ (mm_at 22 rfl)) (hts _ (mm_at 23 rfl)) (hts _ (mm_at 24 rfl)) (Nat.le_of_ble_eq_true rfl) (Nat.le_of_ble_eq_true rfl) (Nat.le_of_ble_eq_true rfl) (Nat.le_of_ble_eq_true rfl) num_0 rfl dX5_addToCup_43 (fun z_21 hz_21 => ?_)
          refine mm_iaddU hx hb dX5_addToCup_46 (fun z_22 => ?_)
          refine cr_iast (κ := 13) (t0 := 1) (X := (Ic_2 x_7 0).toInt) E hM m_14 k_14 (fun _ _ => rfl) rfl rfl (by omega) (by decide) (fun _ => rfl) (Or.inr (Or.inr (fun _ => rfl))) dX5_addToCup_47 (fun H locs I_23 eI_23 hM => ?_)
          refine mm_iinc (X := i.toInt) (v := 1) (lv2 := fun z => [(2, .int z), (3, .ref x_7), (0, .ref x0), (1, .ref p0)]) hx hb dX5_addToCup_48 hl (k := 3) rfl rfl (by decide) num_1 (by omega) (by decide) (fun _ => rfl) (fun z_24 ls hz_24 hl => ?_)
          have hl : lv_has ls 4 [(2, .int z_24), (3, .ref x_7), (0, .ref x0), (1, .ref p0)] := hl
          refine lv_goto (tgt := 2) hx hb dX5_addToCup_51 (by decide) ?_
          exact ih_2 _ _ _ Lc_2 Kc_2 I_23 Oc_2 z_24    (show (0 ≤ z_24.toInt ∧ z_24.toInt ≤ 16) from by omega) (show (16 - z_24.toInt) < ((n_2 : Nat) : Int) from by omega) hM (lv_sub hl [2, 3, 0] rfl)
  refine lv_iconst (v := 0) hx hb dX5_addToCup_0 (by decide) ?_
  refine lv_istore_n (lv' := [(2, .int 0), (0, .ref x0), (1, .ref p0)]) hx hb dX5_addToCup_1 rfl hl (by decide) rfl (fun ls hl => ?_)
  exact B_2 4294967296 _ _ _ L K I O 0    (show (0 ≤ (0 : Int32).toInt ∧ (0 : Int32).toInt ≤ 16) from by have n_0 := num_0; omega) (show (16 - (0 : Int32).toInt) < ((4294967296 : Nat) : Int) from by have n_0 := num_0; omega) hM (lv_sub hl [1, 2, 0] rfl)
def w4X5_addUpCup : List Cond := .code yX5_addUpCup cX5_addUpCup 3 none :: ([.fieldLink RX5 80 "SkiShots" "raceCount" "I", .fieldLink RX5 29 "SkiShots" "races" "[LSkiShots$Race;", .methodLink RX5 230 yX5_addToCup, .instanceMethod yX5_addToCup, .selects RX5 yX5_addToCup yX5_addToCup, .initialized RX5, .code yX5_addToCup cX5_addToCup 4 none, .fieldLink RX5 106 "SkiShots$Race" "entryCount" "I", .fieldLink RX5 161 "SkiShots$Race" "entries" "[LSkiShots$Entry;", .methodLink RX5 209 yX0_hasTime, .instanceMethod yX0_hasTime, .selects RX0 yX0_hasTime yX0_hasTime, .initialized RX0, .code yX0_hasTime cX0_hasTime 1 (some .boolean), .fieldLink RX0 39 "SkiShots$Entry" "low" "I", .fieldLink RX5 33 "SkiShots" "cup" "[I", .fieldLink RX5 165 "SkiShots$Entry" "racer" "I", .methodLink RX5 188 yX3_lastPlace, .instanceMethod yX3_lastPlace, .selects RX3 yX3_lastPlace yX3_lastPlace, .initialized RX3, .code yX3_lastPlace cX3_lastPlace 5 (some .int), .fieldLink RX3 29 "SkiShots$Race" "entryCount" "I", .fieldLink RX3 25 "SkiShots$Race" "entries" "[LSkiShots$Entry;", .methodLink RX3 49 yX0_hasTime, .fieldLink RX3 53 "SkiShots$Entry" "low" "I", .fieldLink RX3 77 "SkiShots$Entry" "high" "I", .methodLink RX5 234 Lib.Math.max.name, .static Lib.Math.max.name, .initialized "java/lang/Math", .code Lib.Math.max.name Lib.Math.max.code 2 (some .int), .fieldLink RX5 77 "SkiShots" "racerCount" "I", .methodLink RX5 171 yX5_workOut, .instanceMethod yX5_workOut, .selects RX5 yX5_workOut yX5_workOut, .code yX5_workOut cX5_workOut 4 none, .methodLink RX5 228 yX3_workOut, .instanceMethod yX3_workOut, .selects RX3 yX3_workOut yX3_workOut, .code yX3_workOut cX3_workOut 4 none, .fieldLink RX3 9 "SkiShots$Race" "format" "LSkiShots$Format;", .methodLink RX3 41 yX3_startOf, .instanceMethod yX3_startOf, .selects RX3 yX3_startOf yX3_startOf, .code yX3_startOf cX3_startOf 2 (some .int), .fieldLink RX3 56 "SkiShots$Format" "startSort" "I", .fieldLink RX3 61 "SkiShots$Format" "startSeconds" "I", .fieldLink RX3 35 "SkiShots$Entry" "racer" "I", .methodLink RX3 64 yX3_chaseStart, .instanceMethod yX3_chaseStart, .selects RX3 yX3_chaseStart yX3_chaseStart, .code yX3_chaseStart cX3_chaseStart 4 (some .int), .fieldLink RX3 15 "SkiShots$Race" "by" "LSkiShots$Race;", .methodLink RX3 67 yX3_entryOf, .instanceMethod yX3_entryOf, .selects RX3 yX3_entryOf yX3_entryOf, .code yX3_entryOf cX3_entryOf 3 (some (.object "SkiShots$Entry")), .fieldLink RX3 38 "SkiShots$Race" "leastLow" "I", .methodLink RX3 71 Lib.Math.min.name, .static Lib.Math.min.name, .code Lib.Math.min.name Lib.Math.min.code 2 (some .int), .methodLink RX3 45 yX0_workOut, .instanceMethod yX0_workOut, .selects RX0 yX0_workOut yX0_workOut, .code yX0_workOut cX0_workOut 5 none, .fieldLink RX0 56 "SkiShots$Entry" "leastPenalty" "I", .fieldLink RX0 59 "SkiShots$Entry" "greatestPenalty" "I", .fieldLink RX0 78 "SkiShots$Entry" "high" "I", .fieldLink RX0 62 "SkiShots$Format" "shootings" "I", .fieldLink RX0 46 "SkiShots$Entry" "struck" "Z", .fieldLink RX0 71 "SkiShots$Format" "laps" "I", .methodLink RX0 42 yX0_known, .instanceMethod yX0_known, .selects RX0 yX0_known yX0_known, .code yX0_known cX0_known 5 (some .int), .fieldLink RX0 19 "SkiShots$Event" "day" "I", .fieldLink RX0 33 "SkiShots$Event" "before" "LSkiShots$Event;", .fieldLink RX0 24 "SkiShots$Event" "sort" "I", .fieldLink RX0 27 "SkiShots$Event" "k" "I", .fieldLink RX0 30 "SkiShots$Event" "v" "I", .fieldLink RX0 15 "SkiShots$Entry" "latest" "LSkiShots$Event;", .methodLink RX0 74 yX0_sinceStart, .instanceMethod yX0_sinceStart, .selects RX0 yX0_sinceStart yX0_sinceStart, .code yX0_sinceStart cX0_sinceStart 2 (some .int), .fieldLink RX0 36 "SkiShots$Entry" "start" "I", .methodLink RX0 67 yX0_addShooting, .instanceMethod yX0_addShooting, .selects RX0 yX0_addShooting yX0_addShooting, .code yX0_addShooting cX0_addShooting 11 none, .fieldLink RX0 89 "SkiShots$Format" "missSeconds" "I", .fieldLink RX0 50 "SkiShots$Entry" "fewestMisses" "I", .fieldLink RX0 53 "SkiShots$Entry" "mostMisses" "I", .methodLink RX0 92 Lib.Math.max.name, .methodLink RX0 81 yJ6_bitCount_0f7a4, .static yJ6_bitCount_0f7a4, .initialized RJ6, .code yJ6_bitCount_0f7a4 cJ6_bitCount_0f7a4 1 (some .int), .constant RJ6 265 (1431655765), .constant RJ6 266 (858993459), .constant RJ6 267 (252645135), .fieldLink RX0 86 "SkiShots$Format" "loops" "Z"] ++ wsX00 ++ wsX10 ++ wsX20 ++ wsX30 ++ wsX50)
set_option maxRecDepth 20000 in
theorem gk_X5_addUpCup_X5_addToCup_7 : GoodIn w4X5_addUpCup (wsV RX5 230 RX5 yX5_addToCup w4X5_addToCup) := goodIn_p _ [7, 14, 22, 31] rfl (by decide +kernel)
set_option maxRecDepth 20000 in
theorem gk_X5_addUpCup_X5_workOut_23 : GoodIn w4X5_addUpCup (wsV RX5 171 RX5 yX5_workOut w4X5_workOut) := goodIn_p _ [36, 40, 45, 52, 57, 14, 61, 65, 75, 85, 90, 31, 98] rfl (by decide +kernel)
set_option maxHeartbeats 4000000 in
set_option maxRecDepth 100000 in
theorem h4_X5_addUpCup (l : Launch) (D : va_G) (cA : Nat → ClassId) (ad av : Nat → Nat) (L : List Nat) (K : Nat → Nat) (I : Nat → Nat → Int32) (O : Nat → Nat → Option Nat) (sz : Nat) (x0 : Nat) (p0 : Int32) (hI : cI L K I O) (mx0 : x0 ∈ L) (kx0 : K x0 = 5)  : Met l yX5_addUpCup w4X5_addUpCup ({ frames := 5, cells := 0, slots := 0, locals := 124 }) (cPre D cA ad av L K I O sz [.ref x0, .int p0]) (cQv D cA L K I O sz [] [(0, 2), (0, 3), (0, 4), (0, 5), (0, 6), (0, 7), (0, 8), (0, 9), (3, 6), (13, 0)] [] (fun L' K' I' O' => True)) 0 0 (va_A (cW cA L K I O) sz) := by
  refine cr_met (own := RX5) (xs := []) (WI := [(0, 2), (0, 3), (0, 4), (0, 5), (0, 6), (0, 7), (0, 8), (0, 9), (3, 6), (13, 0)]) (WO := []) (cc := cX5_addUpCup) (maxL := 3) (ret := none) (by decide) rfl rfl (Nat.le_of_ble_eq_true rfl) hI ?_
  intro p e s m args below meth c ls E hV hml hr hlk hname hsz hA hM hl
  have hx := E.1
  have hb := E.2.1
  have hts := E.2.2.1
  have hown := E.2.2.2.1
  have hl : lv_has ls 3 [(0, .ref x0), (1, .int p0)] := hl
  have hin0 : ∀ w ∈ wsX00, w ∈ w4X5_addUpCup := by decide +kernel
  have hin1 : ∀ w ∈ wsX10, w ∈ w4X5_addUpCup := by decide +kernel
  have hin2 : ∀ w ∈ wsX20, w ∈ w4X5_addUpCup := by decide +kernel
  have hin3 : ∀ w ∈ wsX30, w ∈ w4X5_addUpCup := by decide +kernel
  have hin5 : ∀ w ∈ wsX50, w ∈ w4X5_addUpCup := by decide +kernel
  have B_34 : ∀ n_34 : Nat, ∀ (H : Heap) (locs : List Loc) (ls : Array Slot) (Lc_34 : List Nat) (Kc_34 : Nat → Nat) (Ic_34 : Nat → Nat → Int32) (Oc_34 : Nat → Nat → Option Nat) (i : Int32), (0 ≤ i.toInt ∧ i.toInt ≤ 8) → (8 - i.toInt) < (n_34 : Int) → cQ D cA (va_A (cW cA L K I O) sz) s.heap [] [(0, 2), (0, 3), (0, 4), (0, 5), (0, 6), (0, 7), (0, 8), (0, 9), (3, 6), (13, 0)] [] L K I O H locs Lc_34 Kc_34 Ic_34 Oc_34 → lv_has ls 3 [(0, .ref x0), (1, .int p0), (2, .int i)] → W p l e ({ frames := 5, cells := 0, slots := 0, locals := 124 }) s m args below meth c H locs 0 0 (MQ below (cQv D cA L K I O sz [] [(0, 2), (0, 3), (0, 4), (0, 5), (0, 6), (0, 7), (0, 8), (0, 9), (3, 6), (13, 0)] [] (fun L' K' I' O' => True)) args s 0 0 (va_A (cW cA L K I O) sz)) (F0 m 34 ls []) := by
    intro n_34
    induction n_34 with
    | zero => intro H locs ls Lc_34 Kc_34 Ic_34 Oc_34 i f34_0 hn hM hl; exact False.elim (by omega)
    | succ n_34 ih_34 =>
      intro H locs ls Lc_34 Kc_34 Ic_34 Oc_34 i f34_0 hn hM hl
      have hfr_34 := hM.2.2.2.2
      have m_1 := (hfr_34 x0 mx0 (fun z => by cases z)).1
      have k_1 : Kc_34 x0 = 5 := (hfr_34 x0 mx0 (fun z => by cases z)).2.1.trans kx0
      refine lv_iload_n hx hb dX5_addUpCup_34 rfl (lv_at hl 2 rfl) ?_
      refine lv_aload_n hx hb dX5_addUpCup_35 rfl (lv_at hl 0 rfl) ?_
      have b_2 : 0 ≤ (Ic_34 x0 10).toInt ∧ (Ic_34 x0 10).toInt ≤ 8 := hM.ib m_1 k_1 10 rfl
      have e_3 : (Ic_34 x0 10).toInt = (I x0 10).toInt := congrArg Int32.toInt ((hfr_34 x0 mx0 (fun z => by cases z)).2.2.1 10 (by rw [kx0]; rfl))
      refine cr_get (κ := 5) (ci := 5) (k := 10) (C := RX5) (T := TX5) (N := 13) (fs := cfs 5) (v := .int (Ic_34 x0 10)) E hM m_1 k_1 (fun _ _ => rfl) rfl hin5 (by decide) (index := 80) (mm_at 1 rfl) rfl rfl dX5_addUpCup_36 ?_
      refine mm_icmp_ge (X := i.toInt) (Y := (Ic_34 x0 10).toInt) (tgt := 58) hx hb dX5_addUpCup_39 (by decide) rfl rfl (fun c_4 => ?_) (fun c_4 => ?_)
      · exact cr_rv (mc := 0) (ms := 0) E hr hlk hsz hM ⟨show (0 : Nat) ≤ 0 from by omega, show (0 : Nat) ≤ 0 from by omega⟩ trivial dX5_addUpCup_58
      · refine lv_aload_n hx hb dX5_addUpCup_42 rfl (lv_at hl 0 rfl) ?_
        refine lv_aload_n hx hb dX5_addUpCup_43 rfl (lv_at hl 0 rfl) ?_
        obtain ⟨x_5, o_5, m_5, k_5⟩ := hM.nn m_1 k_1 9 (κ' := 12) rfl rfl
        refine cr_get (κ := 5) (ci := 5) (k := 9) (C := RX5) (T := TX5) (N := 13) (fs := cfs 5) (v := .ref x_5) E hM m_1 k_1 (fun _ _ => rfl) rfl hin5 (by decide) (index := 29) (mm_at 2 rfl) rfl (by show some (va_rf (Oc_34 x0 9)) = some (.ref x_5); rw [o_5]; rfl) dX5_addUpCup_44 ?_
        refine lv_iload_n hx hb dX5_addUpCup_47 rfl (lv_at hl 2 rfl) ?_
        obtain ⟨x_6, o_6⟩ := c_nn ((hM.sp m_1 k_1).2.2.2 rfl x_5 o_5 (Int32.toNatClampNeg i) (by rw [mm_nat]; omega))
        obtain ⟨m_6, k_6⟩ := hM.rt m_5 k_5 (Int32.toNatClampNeg i) (κ' := 3) rfl o_6
        refine cr_aalds (κ := 12) (t0 := 2) (X := i.toInt) E hM m_5 k_5 (fun _ _ => rfl) rfl rfl (by omega) o_6 dX5_addUpCup_48 ?_
        refine cc_Vv (vs := [.ref x_6]) (rest := []) (b := x0) (κ := 5) E hV rfl hA hml hM m_1 k_1 rfl rfl (h4_X5_addToCup l D cA ad av Lc_34 Kc_34 Ic_34 Oc_34 _ x0 x_6 hM.2.2.2.1 m_1 k_1 m_6 k_6) (cwV 1 hts gk_X5_addUpCup_X5_addToCup_7 rfl rfl rfl (by decide +kernel) ⟨Nat.le_of_ble_eq_true rfl, Nat.le_of_ble_eq_true rfl⟩) rfl hl.1 rfl (Nat.le_of_ble_eq_true rfl) dX5_addUpCup_49 ⟨show (0 + 0 : Nat) ≤ 0 from by omega, show (0 + 0 : Nat) ≤ 0 from by omega⟩ (fun _ h => by cases h) (by decide) (by decide) (fun L_10 K_10 I_10 O_10 H locs fr_10 p_9 hM => ?_)
        have m_11 := (fr_10 x0 m_1 (fun z => by cases z)).1
        have k_11 : K_10 x0 = 5 := (fr_10 x0 m_1 (fun z => by cases z)).2.1.trans k_1
        have m_12 := (fr_10 x_5 m_5 (fun z => by cases z)).1
        have k_12 : K_10 x_5 = 12 := (fr_10 x_5 m_5 (fun z => by cases z)).2.1.trans k_5
        have m_13 := (fr_10 x_6 m_6 (fun z => by cases z)).1
        have k_13 : K_10 x_6 = 3 := (fr_10 x_6 m_6 (fun z => by cases z)).2.1.trans k_6
        refine mm_iinc (X := i.toInt) (v := 1) (lv2 := fun z => [(2, .int z), (0, .ref x0), (1, .int p0)]) hx hb dX5_addUpCup_52 hl (k := 2) rfl rfl (by decide) num_1 (by omega) (by decide) (fun _ => rfl) (fun z_14 ls hz_14 hl => ?_)
        have hl : lv_has ls 3 [(2, .int z_14), (0, .ref x0), (1, .int p0)] := hl
        refine lv_goto (tgt := 34) hx hb dX5_addUpCup_55 (by decide) ?_
        exact ih_34 _ _ _ L_10 K_10 I_10 O_10 z_14    (show (0 ≤ z_14.toInt ∧ z_14.toInt ≤ 8) from by omega) (show (8 - z_14.toInt) < ((n_34 : Nat) : Int) from by omega) hM (lv_sub hl [1, 2, 0] rfl)
  have B_11 : ∀ n_11 : Nat, ∀ (H : Heap) (locs : List Loc) (ls : Array Slot) (Lc_11 : List Nat) (Kc_11 : Nat → Nat) (Ic_11 : Nat → Nat → Int32) (Oc_11 : Nat → Nat → Option Nat) (i : Int32), (0 ≤ i.toInt ∧ i.toInt ≤ 16) → (16 - i.toInt) < (n_11 : Int) → cQ D cA (va_A (cW cA L K I O) sz) s.heap [] [(0, 2), (0, 3), (0, 4), (0, 5), (0, 6), (0, 7), (0, 8), (0, 9), (3, 6), (13, 0)] [] L K I O H locs Lc_11 Kc_11 Ic_11 Oc_11 → lv_has ls 3 [(0, .ref x0), (1, .int p0), (2, .int i)] → W p l e ({ frames := 5, cells := 0, slots := 0, locals := 124 }) s m args below meth c H locs 0 0 (MQ below (cQv D cA L K I O sz [] [(0, 2), (0, 3), (0, 4), (0, 5), (0, 6), (0, 7), (0, 8), (0, 9), (3, 6), (13, 0)] [] (fun L' K' I' O' => True)) args s 0 0 (va_A (cW cA L K I O) sz)) (F0 m 11 ls []) := by
    intro n_11
    induction n_11 with
    | zero => intro H locs ls Lc_11 Kc_11 Ic_11 Oc_11 i f11_0 hn hM hl; exact False.elim (by omega)
    | succ n_11 ih_11 =>
      intro H locs ls Lc_11 Kc_11 Ic_11 Oc_11 i f11_0 hn hM hl
      have hfr_11 := hM.2.2.2.2
      have m_15 := (hfr_11 x0 mx0 (fun z => by cases z)).1
      have k_15 : Kc_11 x0 = 5 := (hfr_11 x0 mx0 (fun z => by cases z)).2.1.trans kx0
      refine lv_iload_n hx hb dX5_addUpCup_11 rfl (lv_at hl 2 rfl) ?_
      refine lv_aload_n hx hb dX5_addUpCup_12 rfl (lv_at hl 0 rfl) ?_
      have b_16 : 0 ≤ (Ic_11 x0 8).toInt ∧ (Ic_11 x0 8).toInt ≤ 16 := hM.ib m_15 k_15 8 rfl
      have e_17 : (Ic_11 x0 8).toInt = (I x0 8).toInt := congrArg Int32.toInt ((hfr_11 x0 mx0 (fun z => by cases z)).2.2.1 8 (by rw [kx0]; rfl))
      refine cr_get (κ := 5) (ci := 5) (k := 8) (C := RX5) (T := TX5) (N := 13) (fs := cfs 5) (v := .int (Ic_11 x0 8)) E hM m_15 k_15 (fun _ _ => rfl) rfl hin5 (by decide) (index := 77) (mm_at 32 rfl) rfl rfl dX5_addUpCup_13 ?_
      refine mm_icmp_ge (X := i.toInt) (Y := (Ic_11 x0 8).toInt) (tgt := 32) hx hb dX5_addUpCup_16 (by decide) rfl rfl (fun c_18 => ?_) (fun c_18 => ?_)
      · refine lv_iconst (v := 0) hx hb dX5_addUpCup_32 (by decide) ?_
        refine lv_istore_n (lv' := [(2, .int 0), (0, .ref x0), (1, .int p0)]) hx hb dX5_addUpCup_33 rfl hl (by decide) rfl (fun ls hl => ?_)
        exact B_34 4294967296 _ _ _ Lc_11 Kc_11 Ic_11 Oc_11 0    (show (0 ≤ (0 : Int32).toInt ∧ (0 : Int32).toInt ≤ 8) from by have n_0 := num_0; omega) (show (8 - (0 : Int32).toInt) < ((4294967296 : Nat) : Int) from by have n_0 := num_0; omega) hM (lv_sub hl [1, 2, 0] rfl)
      · refine lv_aload_n hx hb dX5_addUpCup_19 rfl (lv_at hl 0 rfl) ?_
        obtain ⟨x_19, o_19, m_19, k_19⟩ := hM.nn m_15 k_15 12 (κ' := 13) rfl rfl
        refine cr_get (κ := 5) (ci := 5) (k := 12) (C := RX5) (T := TX5) (N := 13) (fs := cfs 5) (v := .ref x_19) E hM m_15 k_15 (fun _ _ => rfl) rfl hin5 (by decide) (index := 33) (mm_at 16 rfl) rfl (by show some (va_rf (Oc_11 x0 12)) = some (.ref x_19); rw [o_19]; rfl) dX5_addUpCup_20 ?_
        refine lv_iload_n hx hb dX5_addUpCup_23 rfl (lv_at hl 2 rfl) ?_
        refine lv_iconst (v := 0) hx hb dX5_addUpCup_24 (by decide) ?_
        refine cr_iast (κ := 13) (t0 := 1) (X := i.toInt) E hM m_19 k_19 (fun _ _ => rfl) rfl rfl (by omega) (by decide) (fun _ => rfl) (Or.inr (Or.inr (fun _ => rfl))) dX5_addUpCup_25 (fun H locs I_20 eI_20 hM => ?_)
        refine mm_iinc (X := i.toInt) (v := 1) (lv2 := fun z => [(2, .int z), (0, .ref x0), (1, .int p0)]) hx hb dX5_addUpCup_26 hl (k := 2) rfl rfl (by decide) num_1 (by omega) (by decide) (fun _ => rfl) (fun z_21 ls hz_21 hl => ?_)
        have hl : lv_has ls 3 [(2, .int z_21), (0, .ref x0), (1, .int p0)] := hl
        refine lv_goto (tgt := 11) hx hb dX5_addUpCup_29 (by decide) ?_
        exact ih_11 _ _ _ Lc_11 Kc_11 I_20 Oc_11 z_21    (show (0 ≤ z_21.toInt ∧ z_21.toInt ≤ 16) from by omega) (show (16 - z_21.toInt) < ((n_11 : Nat) : Int) from by omega) hM (lv_sub hl [1, 2, 0] rfl)
  refine lv_aload_n hx hb dX5_addUpCup_0 rfl (lv_at hl 0 rfl) ?_
  refine lv_aload_n hx hb dX5_addUpCup_1 rfl (lv_at hl 0 rfl) ?_
  have b_22 : 0 ≤ (I x0 10).toInt ∧ (I x0 10).toInt ≤ 8 := hM.ib mx0 kx0 10 rfl
  refine cr_get (κ := 5) (ci := 5) (k := 10) (C := RX5) (T := TX5) (N := 13) (fs := cfs 5) (v := .int (I x0 10)) E hM mx0 kx0 (fun _ _ => rfl) rfl hin5 (by decide) (index := 80) (mm_at 1 rfl) rfl rfl dX5_addUpCup_2 ?_
  refine lv_iload_n hx hb dX5_addUpCup_5 rfl (lv_at hl 1 rfl) ?_
  refine cc_Vv (vs := [.int (I x0 10), .int p0]) (rest := []) (b := x0) (κ := 5) E hV rfl hA hml hM mx0 kx0 rfl rfl (h4_X5_workOut l D cA ad av L K I O _ x0 (I x0 10) p0 hM.2.2.2.1 mx0 kx0) (cwV 2 hts gk_X5_addUpCup_X5_workOut_23 rfl rfl rfl (by decide +kernel) ⟨Nat.le_of_ble_eq_true rfl, Nat.le_of_ble_eq_true rfl⟩) rfl hl.1 rfl (Nat.le_of_ble_eq_true rfl) dX5_addUpCup_6 ⟨show (0 + 0 : Nat) ≤ 0 from by omega, show (0 + 0 : Nat) ≤ 0 from by omega⟩ (fun _ h => by cases h) (by decide) (by decide) (fun L_26 K_26 I_26 O_26 H locs fr_26 p_25 hM => ?_)
  have m_27 := (fr_26 x0 mx0 (fun z => by cases z)).1
  have k_27 : K_26 x0 = 5 := (fr_26 x0 mx0 (fun z => by cases z)).2.1.trans kx0
  refine lv_iconst (v := 0) hx hb dX5_addUpCup_9 (by decide) ?_
  refine lv_istore_n (lv' := [(2, .int 0), (0, .ref x0), (1, .int p0)]) hx hb dX5_addUpCup_10 rfl hl (by decide) rfl (fun ls hl => ?_)
  exact B_11 4294967296 _ _ _ L_26 K_26 I_26 O_26 0    (show (0 ≤ (0 : Int32).toInt ∧ (0 : Int32).toInt ≤ 16) from by have n_0 := num_0; omega) (show (16 - (0 : Int32).toInt) < ((4294967296 : Nat) : Int) from by have n_0 := num_0; omega) hM (lv_sub hl [1, 2, 0] rfl)
