theorem cib_r3 (k : Nat) : cib 3 k = cib 23 k := by
  match k with
  | 0 => rfl
  | 1 => rfl
  | 2 => rfl
  | 3 => rfl
  | 4 => rfl
  | 5 => rfl
  | 6 => rfl
  | 7 => rfl
  | 8 => rfl
  | 9 => rfl
  | 10 => rfl
  | 11 => rfl
  | 12 => rfl
  | 13 => rfl
  | n + 14 => rfl
theorem cib_r4 (k : Nat) : cib 4 k = cib 24 k := by
  match k with
  | 0 => rfl
  | 1 => rfl
  | 2 => rfl
  | 3 => rfl
  | 4 => rfl
  | 5 => rfl
  | 6 => rfl
  | 7 => rfl
  | 8 => rfl
  | 9 => rfl
  | 10 => rfl
  | 11 => rfl
  | 12 => rfl
  | 13 => rfl
  | n + 14 => rfl
theorem cib_r5 (k : Nat) : cib 5 k = cib 25 k := by
  match k with
  | 0 => rfl
  | 1 => rfl
  | 2 => rfl
  | 3 => rfl
  | 4 => rfl
  | 5 => rfl
  | 6 => rfl
  | 7 => rfl
  | 8 => rfl
  | 9 => rfl
  | 10 => rfl
  | 11 => rfl
  | 12 => rfl
  | 13 => rfl
  | n + 14 => rfl
theorem crt_r3 (k : Nat) : crt 3 k = crt 23 k := by
  match k with
  | 0 => rfl
  | 1 => rfl
  | 2 => rfl
  | 3 => rfl
  | 4 => rfl
  | 5 => rfl
  | 6 => rfl
  | 7 => rfl
  | 8 => rfl
  | 9 => rfl
  | 10 => rfl
  | 11 => rfl
  | 12 => rfl
  | 13 => rfl
  | n + 14 => rfl
theorem crt_r4 (k : Nat) : crt 4 k = crt 24 k := by
  match k with
  | 0 => rfl
  | 1 => rfl
  | 2 => rfl
  | 3 => rfl
  | 4 => rfl
  | 5 => rfl
  | 6 => rfl
  | 7 => rfl
  | 8 => rfl
  | 9 => rfl
  | 10 => rfl
  | 11 => rfl
  | 12 => rfl
  | 13 => rfl
  | n + 14 => rfl
theorem crt_r5 (k : Nat) : crt 5 k = crt 25 k := by
  match k with
  | 0 => rfl
  | 1 => rfl
  | 2 => rfl
  | 3 => rfl
  | 4 => rfl
  | 5 => rfl
  | 6 => rfl
  | 7 => rfl
  | 8 => rfl
  | 9 => rfl
  | 10 => rfl
  | 11 => rfl
  | 12 => rfl
  | 13 => rfl
  | n + 14 => rfl
theorem num_100000 : (100000 : Int32).toInt = 100000 := by decide
def w4X4_init : List Cond := .code yX4_init cX4_init 3 none :: ([.methodLink RX4 3 objectInit, .instanceMethod objectInit, .code objectInit ⟨#[0xb1]⟩ 1 none, .fieldLink RX4 9 "SkiShots$Reader" "text" "[B", .methodLink RX4 15 Lib.Math.min.name, .static Lib.Math.min.name, .initialized "java/lang/Math", .code Lib.Math.min.name Lib.Math.min.code 2 (some .int), .fieldLink RX4 21 "SkiShots$Reader" "length" "I", .classLink RX4 25 RX2, .fieldLink RX4 27 "SkiShots$Reader" "found" "[LSkiShots$Format;", .fieldLink RX4 31 "SkiShots$Reader" "faultPlace" "I"] ++ wsX40)
set_option maxHeartbeats 4000000 in
set_option maxRecDepth 100000 in
theorem h4_X4_init (l : Launch) (D : va_G) (cA : Nat → ClassId) (ad av : Nat → Nat) (L : List Nat) (K : Nat → Nat) (I : Nat → Nat → Int32) (O : Nat → Nat → Option Nat) (sz : Nat) (x0 : Nat) (p0 : Nat) (p1 : Int32) (hI : cI L K I O) (mx0 : x0 ∈ L) (kx0 : K x0 = 24) (mp0 : p0 ∈ L) (kp0 : K p0 = 10) (k0 : 0 ≤ p1.toInt) (hz : (I x0 6).toInt = 0) : Met l yX4_init w4X4_init ({ frames := 1, cells := 1, slots := 8, locals := 24 }) (cPre D cA ad av L K I O sz [.ref x0, .ref p0, .int p1]) (cQv D cA L K I O sz [x0] [] [] (fun L' K' I' O' => x0 ∈ L' ∧ K' x0 = 4 ∧ ((I' x0 6).toInt = 0 ∨ (I' x0 7).toInt ≤ 999))) 1 8 (va_A (cW cA L K I O) sz) := by
  refine cr_met (own := RX4) (xs := [x0]) (WI := []) (WO := []) (cc := cX4_init) (maxL := 3) (ret := none) (by decide) rfl rfl (Nat.le_of_ble_eq_true rfl) hI ?_
  intro p e s m args below meth c ls E hV hml hr hlk hname hsz hA hM hl
  have hx := E.1
  have hb := E.2.1
  have hts := E.2.2.1
  have hown := E.2.2.2.1
  have hl : lv_has ls 3 [(0, .ref x0), (1, .ref p0), (2, .int p1)] := hl
  have hin4 : ∀ w ∈ wsX40, w ∈ w4X4_init := by decide +kernel
  refine lv_aload_n hx hb dX4_init_0 rfl (lv_at hl 0 rfl) ?_
  refine W.objInit hx hb hown (hts _ (mm_at 1 rfl)) (hts _ (mm_at 2 rfl)) (hts _ (mm_at 3 rfl)) rfl (by rw [hml]; exact hl.1) rfl dX4_init_1 (Nat.le_of_ble_eq_true rfl) (Nat.le_of_ble_eq_true rfl) ?_
  refine W.eq (g2 := F0 m 4 ls []) rfl ?_
  refine lv_aload_n hx hb dX4_init_4 rfl (lv_at hl 0 rfl) ?_
  refine lv_aload_n hx hb dX4_init_5 rfl (lv_at hl 1 rfl) ?_
  refine cr_puto (κ := 24) (ci := 4) (k := 0) (C := RX4) (T := TX4) (N := 10) (fs := cfs 4) (ty := .array .byte) (w := some p0) E hM mx0 kx0 (fun _ _ => rfl) rfl hin4 tyX4 tyX4_ok nmX4 (by decide) (index := 9) (mm_at 4 rfl) rfl (Or.inr ⟨rfl, hname, rfl⟩) (by decide +kernel) rfl rfl (show (0 : Nat) < 10 from by decide) (fun _ _ _ => rfl) (by decide) (fun _ b h1 h2 => by cases h1; cases h2; exact ⟨mp0, kp0⟩) (fun h => by cases h) (cS.raw (by decide)) (Or.inr (Or.inl (List.mem_singleton.mpr rfl))) dX4_init_6 (fun H locs O_1 eO_1 hM => ?_)
  refine lv_aload_n hx hb dX4_init_9 rfl (lv_at hl 0 rfl) ?_
  refine lv_iload_n hx hb dX4_init_10 rfl (lv_at hl 2 rfl) ?_
  refine lv_aload_n hx hb dX4_init_11 rfl (lv_at hl 1 rfl) ?_
  refine cr_alen (κ := 10) (t0 := 0) (z := (0, .inl (I p0))) (v := 1000) E hM mp0 kp0 rfl rfl (by decide) rfl dX4_init_12 ?_
  refine mm_min (X := p1.toInt) (Y := 1000) hx hb (hml.trans hl.1.symm) hown (hts _ (mm_at 5 rfl)) (hts _ (mm_at 6 rfl)) (hts _ (mm_at 7 rfl)) (hts _ (mm_at 8 rfl)) (Nat.le_of_ble_eq_true rfl) (Nat.le_of_ble_eq_true rfl) (Nat.le_of_ble_eq_true rfl) (Nat.le_of_ble_eq_true rfl) rfl num_1000 dX4_init_13 (fun z_2 hz_2 => ?_)
  refine cr_puti (κ := 24) (ci := 4) (k := 1) (C := RX4) (T := TX4) (N := 10) (fs := cfs 4) (ty := .int) (v := z_2) E hM mx0 kx0 (fun _ _ => rfl) rfl hin4 tyX4 tyX4_ok nmX4 (by decide) (index := 21) (mm_at 9 rfl) rfl (Or.inr ⟨rfl, hname, rfl⟩) (by decide +kernel) rfl rfl (show (1 : Nat) < 10 from by decide) (fun _ _ _ => rfl) (cz_bd (X := z_2.toInt) (a := 0) (b := 1000) rfl rfl (by omega)) (cS_upd (hM.sp mx0 kx0) (by decide) (by decide)) (Or.inr (Or.inl (List.mem_singleton.mpr rfl))) dX4_init_16 (fun H locs I_3 eI_3 hM => ?_)
  refine lv_aload_n hx hb dX4_init_19 rfl (lv_at hl 0 rfl) ?_
  refine lv_bipush (v := 8) hx hb dX4_init_20 (by decide) ?_
  have hM0_4 := hM
  refine cr_newq (κ := 14) (N := 8) (t0 := 3) E hV.1.2.1 hA hM (fun _ => rfl) rfl (mm_at 10 rfl) (fun _ => rfl) (by decide) (by decide) (by decide) (by decide) (show (0 + 1 : Nat) ≤ 1 from by omega) (show (0 + 8 : Nat) ≤ 8 from by omega) dX4_init_22 (fun q_4 H L_4 K_4 I_4 O_4 hq_4 eL_4 eK_4 eI_4 eO_4 tr_4 mq_4 kq_4 hM => ?_)
  have hn_4 : q_4 ∉ L := fun z => hq_4 (hM0_4.2.2.2.2 q_4 z (fun w => hq_4 (List.mem_singleton.mp w ▸ mx0))).1
  have m_5 := (tr_4 x0 mx0).1
  have k_5 : K_4 x0 = 24 := (tr_4 x0 mx0).2.trans kx0
  have m_6 := (tr_4 p0 mp0).1
  have k_6 : K_4 p0 = 10 := (tr_4 p0 mp0).2.trans kp0
  refine W.widen (k := 1) (n := 8) (by omega) (by omega) ?_
  refine cr_puto (κ := 24) (ci := 4) (k := 2) (C := RX4) (T := TX4) (N := 10) (fs := cfs 4) (ty := .array (.object "SkiShots$Format")) (w := some q_4) E hM m_5 k_5 (fun _ _ => rfl) rfl hin4 tyX4 tyX4_ok nmX4 (by decide) (index := 27) (mm_at 11 rfl) rfl (Or.inr ⟨rfl, hname, rfl⟩) (by decide +kernel) rfl rfl (show (2 : Nat) < 10 from by decide) (fun _ _ _ => rfl) (by decide) (fun _ b h1 h2 => by cases h1; cases h2; exact ⟨mq_4, kq_4⟩) (fun h => by cases h) (cS.raw (by decide)) (Or.inr (Or.inl (List.mem_singleton.mpr rfl))) dX4_init_25 (fun H locs O_7 eO_7 hM => ?_)
  refine lv_aload_n hx hb dX4_init_28 rfl (lv_at hl 0 rfl) ?_
  refine lv_iconst (v := (-1)) hx hb dX4_init_29 (by decide) ?_
  refine cr_puti (κ := 24) (ci := 4) (k := 5) (C := RX4) (T := TX4) (N := 10) (fs := cfs 4) (ty := .int) (v := (-1)) E hM m_5 k_5 (fun _ _ => rfl) rfl hin4 tyX4 tyX4_ok nmX4 (by decide) (index := 31) (mm_at 12 rfl) rfl (Or.inl rfl) (by decide +kernel) rfl rfl (show (5 : Nat) < 10 from by decide) (fun _ _ _ => rfl) (cz_nb rfl) (cS_upd (hM.sp m_5 k_5) (by decide) (by decide)) (Or.inr (Or.inl (List.mem_singleton.mpr rfl))) dX4_init_30 (fun H locs I_8 eI_8 hM => ?_)
  have o_9 : O_1 x0 0 = some p0 := co_s eO_1
  have o_10 : O_4 x0 0 = some p0 := (congrFun (cu_a eO_4 (fun z => hq_4 (z ▸ mx0))) 0).trans o_9
  have o_11 : O_7 x0 0 = some p0 := (co_k eO_7 (by decide)).trans o_10
  have o_12 : O_7 x0 2 = some q_4 := co_s eO_7
  have hnn_13 : ∀ k, cnn 4 k = true → O_7 x0 k ≠ none := fun k hk => by
    have hk2 : k = 0 ∨ k = 2 := by simpa [cnn] using hk
    rcases hk2 with rfl | rfl
    · rw [o_11]; exact fun z => by cases z
    · rw [o_12]; exact fun z => by cases z
  have hM := hM.ret (κ := 4) m_5 k_5 (by decide) (fun _ _ => rfl) cib_r4 crt_r4 hnn_13 (cS.k0 (by decide)) (Or.inr (List.mem_singleton.mpr rfl))
  have b_14 : 0 ≤ (I_8 x0 6).toInt ∧ (I_8 x0 6).toInt ≤ 4 := hM.ib m_5 (va_up_self _ _ _) 6 rfl
  have e_15 : (I_3 x0 6).toInt = (I x0 6).toInt := congrArg Int32.toInt (cu_k eI_3 (by decide))
  have e_16 : (I_4 x0 6).toInt = (I_3 x0 6).toInt := congrArg (fun z => Int32.toInt (z 6)) (cu_a eI_4 (fun z => hq_4 (z ▸ mx0)))
  have e_17 : (I_8 x0 6).toInt = (I_4 x0 6).toInt := congrArg Int32.toInt (cu_k eI_8 (by decide))
  have b_18 : 0 ≤ (I_8 x0 7).toInt ∧ (I_8 x0 7).toInt ≤ 1000 := hM.ib m_5 (va_up_self _ _ _) 7 rfl
  have e_19 : (I_3 x0 7).toInt = (I x0 7).toInt := congrArg Int32.toInt (cu_k eI_3 (by decide))
  have e_20 : (I_4 x0 7).toInt = (I_3 x0 7).toInt := congrArg (fun z => Int32.toInt (z 7)) (cu_a eI_4 (fun z => hq_4 (z ▸ mx0)))
  have e_21 : (I_8 x0 7).toInt = (I_4 x0 7).toInt := congrArg Int32.toInt (cu_k eI_8 (by decide))
  exact cr_rv (mc := 1) (ms := 8) E hr hlk hsz hM ⟨show (1 : Nat) ≤ 1 from by omega, show (8 : Nat) ≤ 8 from by omega⟩ ⟨m_5, (va_up_self _ _ _), (show (I_8 x0 6).toInt = 0 ∨ (I_8 x0 7).toInt ≤ 999 from by omega)⟩ dX4_init_33
def w4X4_step : List Cond := .code yX4_step cX4_step 1 none :: ([.fieldLink RX4 133 "SkiShots$Reader" "behind" "I", .fieldLink RX4 21 "SkiShots$Reader" "length" "I", .methodLink RX4 149 yX4_sortAt, .instanceMethod yX4_sortAt, .selects RX4 yX4_sortAt yX4_sortAt, .initialized RX4, .code yX4_sortAt cX4_sortAt 3 (some .int), .fieldLink RX4 9 "SkiShots$Reader" "text" "[B", .fieldLink RX4 37 "SkiShots$Reader" "sort" "I", .fieldLink RX4 54 "SkiShots$Reader" "place" "I", .methodLink RX4 15 Lib.Math.min.name, .static Lib.Math.min.name, .initialized "java/lang/Math", .code Lib.Math.min.name Lib.Math.min.code 2 (some .int)] ++ wsX40)
set_option maxRecDepth 20000 in
theorem gk_X4_step_X4_sortAt_8 : GoodIn w4X4_step (wsV RX4 149 RX4 yX4_sortAt w4X4_sortAt) := goodIn_p _ [7] rfl (by decide +kernel)
set_option maxRecDepth 20000 in
theorem gk_X4_step_X4_sortAt_28 : GoodIn w4X4_step (wsV RX4 149 RX4 yX4_sortAt w4X4_sortAt) := goodIn_p _ [7] rfl (by decide +kernel)
set_option maxRecDepth 20000 in
theorem gk_X4_step_X4_sortAt_55 : GoodIn w4X4_step (wsV RX4 149 RX4 yX4_sortAt w4X4_sortAt) := goodIn_p _ [7] rfl (by decide +kernel)
set_option maxRecDepth 20000 in
theorem gk_X4_step_X4_sortAt_60 : GoodIn w4X4_step (wsV RX4 149 RX4 yX4_sortAt w4X4_sortAt) := goodIn_p _ [7] rfl (by decide +kernel)
set_option maxHeartbeats 4000000 in
set_option maxRecDepth 100000 in
theorem h4_X4_step (l : Launch) (D : va_G) (cA : Nat → ClassId) (ad av : Nat → Nat) (L : List Nat) (K : Nat → Nat) (I : Nat → Nat → Int32) (O : Nat → Nat → Option Nat) (sz : Nat) (x0 : Nat) (hI : cI L K I O) (mx0 : x0 ∈ L) (kx0 : K x0 = 4)  : Met l yX4_step w4X4_step ({ frames := 1, cells := 0, slots := 0, locals := 24 }) (cPre D cA ad av L K I O sz [.ref x0]) (cQv D cA L K I O sz [] [(4, 6), (4, 7), (4, 8)] [] (fun L' K' I' O' => (I' x0 6).toInt = 0 ∨ (I' x0 7).toInt ≤ 999)) 0 0 (va_A (cW cA L K I O) sz) := by
  refine cr_met (own := RX4) (xs := []) (WI := [(4, 6), (4, 7), (4, 8)]) (WO := []) (cc := cX4_step) (maxL := 1) (ret := none) (by decide) rfl rfl (Nat.le_of_ble_eq_true rfl) hI ?_
  intro p e s m args below meth c ls E hV hml hr hlk hname hsz hA hM hl
  have hx := E.1
  have hb := E.2.1
  have hts := E.2.2.1
  have hown := E.2.2.2.1
  have hl : lv_has ls 1 [(0, .ref x0)] := hl
  have hin4 : ∀ w ∈ wsX40, w ∈ w4X4_step := by decide +kernel
  have B_89 : ∀ n_89 : Nat, ∀ (H : Heap) (locs : List Loc) (ls : Array Slot) (Lc_89 : List Nat) (Kc_89 : Nat → Nat) (Ic_89 : Nat → Nat → Int32) (Oc_89 : Nat → Nat → Option Nat), (Ic_89 x0 6).toInt = 0 ∨ (Ic_89 x0 7).toInt ≤ 999 → (1000 - (Ic_89 x0 8).toInt) < (n_89 : Int) → cQ D cA (va_A (cW cA L K I O) sz) s.heap [] [(4, 6), (4, 7), (4, 8)] [] L K I O H locs Lc_89 Kc_89 Ic_89 Oc_89 → lv_has ls 1 [(0, .ref x0)] → W p l e ({ frames := 1, cells := 0, slots := 0, locals := 24 }) s m args below meth c H locs 0 0 (MQ below (cQv D cA L K I O sz [] [(4, 6), (4, 7), (4, 8)] [] (fun L' K' I' O' => (I' x0 6).toInt = 0 ∨ (I' x0 7).toInt ≤ 999)) args s 0 0 (va_A (cW cA L K I O) sz)) (F0 m 89 ls []) := by
    intro n_89
    induction n_89 with
    | zero => intro H locs ls Lc_89 Kc_89 Ic_89 Oc_89 f89_0 hn hM hl; exact False.elim (by have hz := hM.ib (hM.2.2.2.2 x0 mx0 (fun z => by cases z)).1 ((hM.2.2.2.2 x0 mx0 (fun z => by cases z)).2.1.trans kx0) 8 (x := 0) (y := 1000) rfl; omega)
    | succ n_89 ih_89 =>
      intro H locs ls Lc_89 Kc_89 Ic_89 Oc_89 f89_0 hn hM hl
      have hfr_89 := hM.2.2.2.2
      have m_1 := (hfr_89 x0 mx0 (fun z => by cases z)).1
      have k_1 : Kc_89 x0 = 4 := (hfr_89 x0 mx0 (fun z => by cases z)).2.1.trans kx0
      refine lv_aload_n hx hb dX4_step_89 rfl (lv_at hl 0 rfl) ?_
      have b_2 : 0 ≤ (Ic_89 x0 8).toInt ∧ (Ic_89 x0 8).toInt ≤ 1000 := hM.ib m_1 k_1 8 rfl
      refine cr_get (κ := 4) (ci := 4) (k := 8) (C := RX4) (T := TX4) (N := 10) (fs := cfs 4) (v := .int (Ic_89 x0 8)) E hM m_1 k_1 (fun _ _ => rfl) rfl hin4 (by decide) (index := 133) (mm_at 1 rfl) rfl rfl dX4_step_90 ?_
      refine lv_aload_n hx hb dX4_step_93 rfl (lv_at hl 0 rfl) ?_
      have b_3 : 0 ≤ (Ic_89 x0 1).toInt ∧ (Ic_89 x0 1).toInt ≤ 1000 := hM.ib m_1 k_1 1 rfl
      have e_4 : (Ic_89 x0 1).toInt = (I x0 1).toInt := congrArg Int32.toInt ((hfr_89 x0 mx0 (fun z => by cases z)).2.2.1 1 (by rw [kx0]; rfl))
      refine cr_get (κ := 4) (ci := 4) (k := 1) (C := RX4) (T := TX4) (N := 10) (fs := cfs 4) (v := .int (Ic_89 x0 1)) E hM m_1 k_1 (fun _ _ => rfl) rfl hin4 (by decide) (index := 21) (mm_at 2 rfl) rfl rfl dX4_step_94 ?_
      refine mm_icmp_ge (X := (Ic_89 x0 8).toInt) (Y := (Ic_89 x0 1).toInt) (tgt := 128) hx hb dX4_step_97 (by decide) rfl rfl (fun c_5 => ?_) (fun c_5 => ?_)
      · have b_6 : 0 ≤ (Ic_89 x0 6).toInt ∧ (Ic_89 x0 6).toInt ≤ 4 := hM.ib m_1 k_1 6 rfl
        have b_7 : 0 ≤ (Ic_89 x0 7).toInt ∧ (Ic_89 x0 7).toInt ≤ 1000 := hM.ib m_1 k_1 7 rfl
        exact cr_rv (mc := 0) (ms := 0) E hr hlk hsz hM ⟨show (0 : Nat) ≤ 0 from by omega, show (0 : Nat) ≤ 0 from by omega⟩ (show (Ic_89 x0 6).toInt = 0 ∨ (Ic_89 x0 7).toInt ≤ 999 from by omega) dX4_step_128
      · refine lv_aload_n hx hb dX4_step_100 rfl (lv_at hl 0 rfl) ?_
        refine lv_aload_n hx hb dX4_step_101 rfl (lv_at hl 0 rfl) ?_
        refine cr_get (κ := 4) (ci := 4) (k := 8) (C := RX4) (T := TX4) (N := 10) (fs := cfs 4) (v := .int (Ic_89 x0 8)) E hM m_1 k_1 (fun _ _ => rfl) rfl hin4 (by decide) (index := 133) (mm_at 1 rfl) rfl rfl dX4_step_102 ?_
        refine cc_Vip (vs := [.int (Ic_89 x0 8)]) (rest := []) (b := x0) (κ := 4) E hV rfl hA hml hM m_1 k_1 rfl rfl (h4_X4_sortAt l D cA ad av Lc_89 Kc_89 Ic_89 Oc_89 _ x0 (Ic_89 x0 8) hM.2.2.2.1 m_1 k_1) (cwV 1 hts gk_X4_step_X4_sortAt_8 rfl rfl rfl (by decide +kernel) ⟨Nat.le_of_ble_eq_true rfl, Nat.le_of_ble_eq_true rfl⟩) rfl hl.1 rfl (Nat.le_of_ble_eq_true rfl) dX4_step_105 ⟨show (0 : Nat) ≤ 0 from by omega, show (0 : Nat) ≤ 0 from by omega⟩ (fun r_9 H locs p_10 hM => ?_)
        replace p_10 : 0 ≤ r_9.toInt ∧ r_9.toInt ≤ 4 ∧ (r_9.toInt = 0 ∨ (Ic_89 x0 8).toInt ≤ 999) := p_10
        refine lv_aload_n hx hb dX4_step_108 rfl (lv_at hl 0 rfl) ?_
        have b_12 : 0 ≤ (Ic_89 x0 6).toInt ∧ (Ic_89 x0 6).toInt ≤ 4 := hM.ib m_1 k_1 6 rfl
        refine cr_get (κ := 4) (ci := 4) (k := 6) (C := RX4) (T := TX4) (N := 10) (fs := cfs 4) (v := .int (Ic_89 x0 6)) E hM m_1 k_1 (fun _ _ => rfl) rfl hin4 (by decide) (index := 37) (mm_at 9 rfl) rfl rfl dX4_step_109 ?_
        refine mm_icmp_ne (X := r_9.toInt) (Y := (Ic_89 x0 6).toInt) (tgt := 128) hx hb dX4_step_112 (by decide) rfl rfl (fun c_13 => ?_) (fun c_13 => ?_)
        · have b_14 : 0 ≤ (Ic_89 x0 7).toInt ∧ (Ic_89 x0 7).toInt ≤ 1000 := hM.ib m_1 k_1 7 rfl
          exact cr_rv (mc := 0) (ms := 0) E hr hlk hsz hM ⟨show (0 : Nat) ≤ 0 from by omega, show (0 : Nat) ≤ 0 from by omega⟩ (show (Ic_89 x0 6).toInt = 0 ∨ (Ic_89 x0 7).toInt ≤ 999 from by omega) dX4_step_128
        · refine lv_aload_n hx hb dX4_step_115 rfl (lv_at hl 0 rfl) ?_
          refine lv_dup hx hb dX4_step_116 rfl ?_
          refine cr_get (κ := 4) (ci := 4) (k := 8) (C := RX4) (T := TX4) (N := 10) (fs := cfs 4) (v := .int (Ic_89 x0 8)) E hM m_1 k_1 (fun _ _ => rfl) rfl hin4 (by decide) (index := 133) (mm_at 1 rfl) rfl rfl dX4_step_117 ?_
          refine lv_iconst (v := 1) hx hb dX4_step_120 (by decide) ?_
          refine mm_iadd (X := (Ic_89 x0 8).toInt) (Y := 1) hx hb dX4_step_121 rfl num_1 (by omega) (fun z_15 hz_15 => ?_)
          refine cr_puti (κ := 4) (ci := 4) (k := 8) (C := RX4) (T := TX4) (N := 10) (fs := cfs 4) (ty := .int) (v := z_15) E hM m_1 k_1 (fun _ _ => rfl) rfl hin4 tyX4 tyX4_ok nmX4 (by decide) (index := 133) (mm_at 1 rfl) rfl (Or.inl rfl) (by decide +kernel) rfl rfl (show (8 : Nat) < 10 from by decide) (fun _ _ _ => rfl) (cz_bd (X := z_15.toInt) (a := 0) (b := 1000) rfl rfl (by omega)) (cS_upd (hM.sp m_1 k_1) (by decide) (by decide)) (Or.inr (Or.inr rfl)) dX4_step_122 (fun H locs I_16 eI_16 hM => ?_)
          refine lv_goto (tgt := 89) hx hb dX4_step_125 (by decide) ?_
          have b_17 : 0 ≤ (I_16 x0 6).toInt ∧ (I_16 x0 6).toInt ≤ 4 := hM.ib m_1 k_1 6 rfl
          have e_18 : (I_16 x0 6).toInt = (Ic_89 x0 6).toInt := congrArg Int32.toInt (cu_k eI_16 (by decide))
          have b_19 : 0 ≤ (I_16 x0 7).toInt ∧ (I_16 x0 7).toInt ≤ 1000 := hM.ib m_1 k_1 7 rfl
          have e_20 : (I_16 x0 7).toInt = (Ic_89 x0 7).toInt := congrArg Int32.toInt (cu_k eI_16 (by decide))
          have b_21 : 0 ≤ (I_16 x0 8).toInt ∧ (I_16 x0 8).toInt ≤ 1000 := hM.ib m_1 k_1 8 rfl
          have e_22 : (I_16 x0 8).toInt = z_15.toInt := (congrArg Int32.toInt (cu_s eI_16)).trans rfl
          exact ih_89 _ _ _ Lc_89 Kc_89 I_16 Oc_89     (show (I_16 x0 6).toInt = 0 ∨ (I_16 x0 7).toInt ≤ 999 from by omega) (show (1000 - (I_16 x0 8).toInt) < ((n_89 : Nat) : Int) from by omega) hM (lv_sub hl [0] rfl)
  have B_8 : ∀ n_8 : Nat, ∀ (H : Heap) (locs : List Loc) (ls : Array Slot) (Lc_8 : List Nat) (Kc_8 : Nat → Nat) (Ic_8 : Nat → Nat → Int32) (Oc_8 : Nat → Nat → Option Nat), (1000 - (Ic_8 x0 7).toInt) < (n_8 : Int) → cQ D cA (va_A (cW cA L K I O) sz) s.heap [] [(4, 6), (4, 7), (4, 8)] [] L K I O H locs Lc_8 Kc_8 Ic_8 Oc_8 → lv_has ls 1 [(0, .ref x0)] → W p l e ({ frames := 1, cells := 0, slots := 0, locals := 24 }) s m args below meth c H locs 0 0 (MQ below (cQv D cA L K I O sz [] [(4, 6), (4, 7), (4, 8)] [] (fun L' K' I' O' => (I' x0 6).toInt = 0 ∨ (I' x0 7).toInt ≤ 999)) args s 0 0 (va_A (cW cA L K I O) sz)) (F0 m 8 ls []) := by
    intro n_8
    induction n_8 with
    | zero => intro H locs ls Lc_8 Kc_8 Ic_8 Oc_8 hn hM hl; exact False.elim (by have hz := hM.ib (hM.2.2.2.2 x0 mx0 (fun z => by cases z)).1 ((hM.2.2.2.2 x0 mx0 (fun z => by cases z)).2.1.trans kx0) 7 (x := 0) (y := 1000) rfl; omega)
    | succ n_8 ih_8 =>
      intro H locs ls Lc_8 Kc_8 Ic_8 Oc_8 hn hM hl
      have hfr_8 := hM.2.2.2.2
      have m_23 := (hfr_8 x0 mx0 (fun z => by cases z)).1
      have k_23 : Kc_8 x0 = 4 := (hfr_8 x0 mx0 (fun z => by cases z)).2.1.trans kx0
      refine lv_aload_n hx hb dX4_step_8 rfl (lv_at hl 0 rfl) ?_
      have b_24 : 0 ≤ (Ic_8 x0 7).toInt ∧ (Ic_8 x0 7).toInt ≤ 1000 := hM.ib m_23 k_23 7 rfl
      refine cr_get (κ := 4) (ci := 4) (k := 7) (C := RX4) (T := TX4) (N := 10) (fs := cfs 4) (v := .int (Ic_8 x0 7)) E hM m_23 k_23 (fun _ _ => rfl) rfl hin4 (by decide) (index := 54) (mm_at 10 rfl) rfl rfl dX4_step_9 ?_
      refine lv_aload_n hx hb dX4_step_12 rfl (lv_at hl 0 rfl) ?_
      have b_25 : 0 ≤ (Ic_8 x0 1).toInt ∧ (Ic_8 x0 1).toInt ≤ 1000 := hM.ib m_23 k_23 1 rfl
      have e_26 : (Ic_8 x0 1).toInt = (I x0 1).toInt := congrArg Int32.toInt ((hfr_8 x0 mx0 (fun z => by cases z)).2.2.1 1 (by rw [kx0]; rfl))
      refine cr_get (κ := 4) (ci := 4) (k := 1) (C := RX4) (T := TX4) (N := 10) (fs := cfs 4) (v := .int (Ic_8 x0 1)) E hM m_23 k_23 (fun _ _ => rfl) rfl hin4 (by decide) (index := 21) (mm_at 2 rfl) rfl rfl dX4_step_13 ?_
      refine mm_icmp_ge (X := (Ic_8 x0 7).toInt) (Y := (Ic_8 x0 1).toInt) (tgt := 44) hx hb dX4_step_16 (by decide) rfl rfl (fun c_27 => ?_) (fun c_27 => ?_)
      · refine lv_aload_n hx hb dX4_step_44 rfl (lv_at hl 0 rfl) ?_
        refine lv_aload_n hx hb dX4_step_45 rfl (lv_at hl 0 rfl) ?_
        refine lv_aload_n hx hb dX4_step_46 rfl (lv_at hl 0 rfl) ?_
        refine cr_get (κ := 4) (ci := 4) (k := 7) (C := RX4) (T := TX4) (N := 10) (fs := cfs 4) (v := .int (Ic_8 x0 7)) E hM m_23 k_23 (fun _ _ => rfl) rfl hin4 (by decide) (index := 54) (mm_at 10 rfl) rfl rfl dX4_step_47 ?_
        refine cc_Vip (vs := [.int (Ic_8 x0 7)]) (rest := [.ref x0]) (b := x0) (κ := 4) E hV rfl hA hml hM m_23 k_23 rfl rfl (h4_X4_sortAt l D cA ad av Lc_8 Kc_8 Ic_8 Oc_8 _ x0 (Ic_8 x0 7) hM.2.2.2.1 m_23 k_23) (cwV 1 hts gk_X4_step_X4_sortAt_28 rfl rfl rfl (by decide +kernel) ⟨Nat.le_of_ble_eq_true rfl, Nat.le_of_ble_eq_true rfl⟩) rfl hl.1 rfl (Nat.le_of_ble_eq_true rfl) dX4_step_50 ⟨show (0 : Nat) ≤ 0 from by omega, show (0 : Nat) ≤ 0 from by omega⟩ (fun r_29 H locs p_30 hM => ?_)
        replace p_30 : 0 ≤ r_29.toInt ∧ r_29.toInt ≤ 4 ∧ (r_29.toInt = 0 ∨ (Ic_8 x0 7).toInt ≤ 999) := p_30
        refine cr_puti (κ := 4) (ci := 4) (k := 6) (C := RX4) (T := TX4) (N := 10) (fs := cfs 4) (ty := .int) (v := r_29) E hM m_23 k_23 (fun _ _ => rfl) rfl hin4 tyX4 tyX4_ok nmX4 (by decide) (index := 37) (mm_at 9 rfl) rfl (Or.inl rfl) (by decide +kernel) rfl rfl (show (6 : Nat) < 10 from by decide) (fun _ _ _ => rfl) (cz_bd (X := r_29.toInt) (a := 0) (b := 4) rfl rfl (by omega)) (cS_upd (hM.sp m_23 k_23) (by decide) (by decide)) (Or.inr (Or.inr rfl)) dX4_step_53 (fun H locs I_32 eI_32 hM => ?_)
        refine lv_aload_n hx hb dX4_step_56 rfl (lv_at hl 0 rfl) ?_
        refine lv_aload_n hx hb dX4_step_57 rfl (lv_at hl 0 rfl) ?_
        have b_33 : 0 ≤ (I_32 x0 7).toInt ∧ (I_32 x0 7).toInt ≤ 1000 := hM.ib m_23 k_23 7 rfl
        have e_34 : (I_32 x0 7).toInt = (Ic_8 x0 7).toInt := congrArg Int32.toInt (cu_k eI_32 (by decide))
        refine cr_get (κ := 4) (ci := 4) (k := 7) (C := RX4) (T := TX4) (N := 10) (fs := cfs 4) (v := .int (I_32 x0 7)) E hM m_23 k_23 (fun _ _ => rfl) rfl hin4 (by decide) (index := 54) (mm_at 10 rfl) rfl rfl dX4_step_58 ?_
        refine lv_iconst (v := 1) hx hb dX4_step_61 (by decide) ?_
        refine mm_iadd (X := (I_32 x0 7).toInt) (Y := 1) hx hb dX4_step_62 rfl num_1 (by omega) (fun z_35 hz_35 => ?_)
        refine lv_aload_n hx hb dX4_step_63 rfl (lv_at hl 0 rfl) ?_
        have b_36 : 0 ≤ (I_32 x0 1).toInt ∧ (I_32 x0 1).toInt ≤ 1000 := hM.ib m_23 k_23 1 rfl
        have e_37 : (I_32 x0 1).toInt = (Ic_8 x0 1).toInt := congrArg Int32.toInt (cu_k eI_32 (by decide))
        refine cr_get (κ := 4) (ci := 4) (k := 1) (C := RX4) (T := TX4) (N := 10) (fs := cfs 4) (v := .int (I_32 x0 1)) E hM m_23 k_23 (fun _ _ => rfl) rfl hin4 (by decide) (index := 21) (mm_at 2 rfl) rfl rfl dX4_step_64 ?_
        refine mm_min (X := z_35.toInt) (Y := (I_32 x0 1).toInt) hx hb (hml.trans hl.1.symm) hown (hts _ (mm_at 11 rfl)) (hts _ (mm_at 12 rfl)) (hts _ (mm_at 13 rfl)) (hts _ (mm_at 14 rfl)) (Nat.le_of_ble_eq_true rfl) (Nat.le_of_ble_eq_true rfl) (Nat.le_of_ble_eq_true rfl) (Nat.le_of_ble_eq_true rfl) rfl rfl dX4_step_67 (fun z_38 hz_38 => ?_)
        refine cr_puti (κ := 4) (ci := 4) (k := 8) (C := RX4) (T := TX4) (N := 10) (fs := cfs 4) (ty := .int) (v := z_38) E hM m_23 k_23 (fun _ _ => rfl) rfl hin4 tyX4 tyX4_ok nmX4 (by decide) (index := 133) (mm_at 1 rfl) rfl (Or.inl rfl) (by decide +kernel) rfl rfl (show (8 : Nat) < 10 from by decide) (fun _ _ _ => rfl) (cz_bd (X := z_38.toInt) (a := 0) (b := 1000) rfl rfl (by omega)) (cS_upd (hM.sp m_23 k_23) (by decide) (by decide)) (Or.inr (Or.inr rfl)) dX4_step_70 (fun H locs I_39 eI_39 hM => ?_)
        refine lv_aload_n hx hb dX4_step_73 rfl (lv_at hl 0 rfl) ?_
        have b_40 : 0 ≤ (I_39 x0 6).toInt ∧ (I_39 x0 6).toInt ≤ 4 := hM.ib m_23 k_23 6 rfl
        have e_41 : (I_32 x0 6).toInt = r_29.toInt := (congrArg Int32.toInt (cu_s eI_32)).trans rfl
        have e_42 : (I_39 x0 6).toInt = (I_32 x0 6).toInt := congrArg Int32.toInt (cu_k eI_39 (by decide))
        refine cr_get (κ := 4) (ci := 4) (k := 6) (C := RX4) (T := TX4) (N := 10) (fs := cfs 4) (v := .int (I_39 x0 6)) E hM m_23 k_23 (fun _ _ => rfl) rfl hin4 (by decide) (index := 37) (mm_at 9 rfl) rfl rfl dX4_step_74 ?_
        refine lv_iconst (v := 1) hx hb dX4_step_77 (by decide) ?_
        refine mm_icmp_eq (X := (I_39 x0 6).toInt) (Y := 1) (tgt := 89) hx hb dX4_step_78 (by decide) rfl num_1 (fun c_43 => ?_) (fun c_43 => ?_)
        · have b_44 : 0 ≤ (I_39 x0 7).toInt ∧ (I_39 x0 7).toInt ≤ 1000 := hM.ib m_23 k_23 7 rfl
          have e_45 : (I_39 x0 7).toInt = (I_32 x0 7).toInt := congrArg Int32.toInt (cu_k eI_39 (by decide))
          have b_46 : 0 ≤ (I_39 x0 8).toInt ∧ (I_39 x0 8).toInt ≤ 1000 := hM.ib m_23 k_23 8 rfl
          have e_47 : (I_39 x0 8).toInt = z_38.toInt := (congrArg Int32.toInt (cu_s eI_39)).trans rfl
          exact B_89 4294967296 _ _ _ Lc_8 Kc_8 I_39 Oc_8     (show (I_39 x0 6).toInt = 0 ∨ (I_39 x0 7).toInt ≤ 999 from by omega) (show (1000 - (I_39 x0 8).toInt) < ((4294967296 : Nat) : Int) from by omega) hM (lv_sub hl [0] rfl)
        · refine lv_aload_n hx hb dX4_step_81 rfl (lv_at hl 0 rfl) ?_
          refine cr_get (κ := 4) (ci := 4) (k := 6) (C := RX4) (T := TX4) (N := 10) (fs := cfs 4) (v := .int (I_39 x0 6)) E hM m_23 k_23 (fun _ _ => rfl) rfl hin4 (by decide) (index := 37) (mm_at 9 rfl) rfl rfl dX4_step_82 ?_
          refine lv_iconst (v := 2) hx hb dX4_step_85 (by decide) ?_
          refine mm_icmp_ne (X := (I_39 x0 6).toInt) (Y := 2) (tgt := 128) hx hb dX4_step_86 (by decide) rfl num_2 (fun c_48 => ?_) (fun c_48 => ?_)
          · have b_49 : 0 ≤ (I_39 x0 7).toInt ∧ (I_39 x0 7).toInt ≤ 1000 := hM.ib m_23 k_23 7 rfl
            have e_50 : (I_39 x0 7).toInt = (I_32 x0 7).toInt := congrArg Int32.toInt (cu_k eI_39 (by decide))
            exact cr_rv (mc := 0) (ms := 0) E hr hlk hsz hM ⟨show (0 : Nat) ≤ 0 from by omega, show (0 : Nat) ≤ 0 from by omega⟩ (show (I_39 x0 6).toInt = 0 ∨ (I_39 x0 7).toInt ≤ 999 from by omega) dX4_step_128
          · have b_51 : 0 ≤ (I_39 x0 7).toInt ∧ (I_39 x0 7).toInt ≤ 1000 := hM.ib m_23 k_23 7 rfl
            have e_52 : (I_39 x0 7).toInt = (I_32 x0 7).toInt := congrArg Int32.toInt (cu_k eI_39 (by decide))
            have b_53 : 0 ≤ (I_39 x0 8).toInt ∧ (I_39 x0 8).toInt ≤ 1000 := hM.ib m_23 k_23 8 rfl
            have e_54 : (I_39 x0 8).toInt = z_38.toInt := (congrArg Int32.toInt (cu_s eI_39)).trans rfl
            exact B_89 4294967296 _ _ _ Lc_8 Kc_8 I_39 Oc_8     (show (I_39 x0 6).toInt = 0 ∨ (I_39 x0 7).toInt ≤ 999 from by omega) (show (1000 - (I_39 x0 8).toInt) < ((4294967296 : Nat) : Int) from by omega) hM (lv_sub hl [0] rfl)
      · refine lv_aload_n hx hb dX4_step_19 rfl (lv_at hl 0 rfl) ?_
        refine lv_aload_n hx hb dX4_step_20 rfl (lv_at hl 0 rfl) ?_
        refine cr_get (κ := 4) (ci := 4) (k := 7) (C := RX4) (T := TX4) (N := 10) (fs := cfs 4) (v := .int (Ic_8 x0 7)) E hM m_23 k_23 (fun _ _ => rfl) rfl hin4 (by decide) (index := 54) (mm_at 10 rfl) rfl rfl dX4_step_21 ?_
        refine cc_Vip (vs := [.int (Ic_8 x0 7)]) (rest := []) (b := x0) (κ := 4) E hV rfl hA hml hM m_23 k_23 rfl rfl (h4_X4_sortAt l D cA ad av Lc_8 Kc_8 Ic_8 Oc_8 _ x0 (Ic_8 x0 7) hM.2.2.2.1 m_23 k_23) (cwV 1 hts gk_X4_step_X4_sortAt_55 rfl rfl rfl (by decide +kernel) ⟨Nat.le_of_ble_eq_true rfl, Nat.le_of_ble_eq_true rfl⟩) rfl hl.1 rfl (Nat.le_of_ble_eq_true rfl) dX4_step_24 ⟨show (0 : Nat) ≤ 0 from by omega, show (0 : Nat) ≤ 0 from by omega⟩ (fun r_56 H locs p_57 hM => ?_)
        replace p_57 : 0 ≤ r_56.toInt ∧ r_56.toInt ≤ 4 ∧ (r_56.toInt = 0 ∨ (Ic_8 x0 7).toInt ≤ 999) := p_57
        refine lv_iconst (v := 4) hx hb dX4_step_27 (by decide) ?_
        refine mm_icmp_ne (X := r_56.toInt) (Y := 4) (tgt := 44) hx hb dX4_step_28 (by decide) rfl num_4 (fun c_59 => ?_) (fun c_59 => ?_)
        · refine lv_aload_n hx hb dX4_step_44 rfl (lv_at hl 0 rfl) ?_
          refine lv_aload_n hx hb dX4_step_45 rfl (lv_at hl 0 rfl) ?_
          refine lv_aload_n hx hb dX4_step_46 rfl (lv_at hl 0 rfl) ?_
          refine cr_get (κ := 4) (ci := 4) (k := 7) (C := RX4) (T := TX4) (N := 10) (fs := cfs 4) (v := .int (Ic_8 x0 7)) E hM m_23 k_23 (fun _ _ => rfl) rfl hin4 (by decide) (index := 54) (mm_at 10 rfl) rfl rfl dX4_step_47 ?_
          refine cc_Vip (vs := [.int (Ic_8 x0 7)]) (rest := [.ref x0]) (b := x0) (κ := 4) E hV rfl hA hml hM m_23 k_23 rfl rfl (h4_X4_sortAt l D cA ad av Lc_8 Kc_8 Ic_8 Oc_8 _ x0 (Ic_8 x0 7) hM.2.2.2.1 m_23 k_23) (cwV 1 hts gk_X4_step_X4_sortAt_60 rfl rfl rfl (by decide +kernel) ⟨Nat.le_of_ble_eq_true rfl, Nat.le_of_ble_eq_true rfl⟩) rfl hl.1 rfl (Nat.le_of_ble_eq_true rfl) dX4_step_50 ⟨show (0 : Nat) ≤ 0 from by omega, show (0 : Nat) ≤ 0 from by omega⟩ (fun r_61 H locs p_62 hM => ?_)
          replace p_62 : 0 ≤ r_61.toInt ∧ r_61.toInt ≤ 4 ∧ (r_61.toInt = 0 ∨ (Ic_8 x0 7).toInt ≤ 999) := p_62
          refine cr_puti (κ := 4) (ci := 4) (k := 6) (C := RX4) (T := TX4) (N := 10) (fs := cfs 4) (ty := .int) (v := r_61) E hM m_23 k_23 (fun _ _ => rfl) rfl hin4 tyX4 tyX4_ok nmX4 (by decide) (index := 37) (mm_at 9 rfl) rfl (Or.inl rfl) (by decide +kernel) rfl rfl (show (6 : Nat) < 10 from by decide) (fun _ _ _ => rfl) (cz_bd (X := r_61.toInt) (a := 0) (b := 4) rfl rfl (by omega)) (cS_upd (hM.sp m_23 k_23) (by decide) (by decide)) (Or.inr (Or.inr rfl)) dX4_step_53 (fun H locs I_64 eI_64 hM => ?_)
          refine lv_aload_n hx hb dX4_step_56 rfl (lv_at hl 0 rfl) ?_
          refine lv_aload_n hx hb dX4_step_57 rfl (lv_at hl 0 rfl) ?_
          have b_65 : 0 ≤ (I_64 x0 7).toInt ∧ (I_64 x0 7).toInt ≤ 1000 := hM.ib m_23 k_23 7 rfl
          have e_66 : (I_64 x0 7).toInt = (Ic_8 x0 7).toInt := congrArg Int32.toInt (cu_k eI_64 (by decide))
          refine cr_get (κ := 4) (ci := 4) (k := 7) (C := RX4) (T := TX4) (N := 10) (fs := cfs 4) (v := .int (I_64 x0 7)) E hM m_23 k_23 (fun _ _ => rfl) rfl hin4 (by decide) (index := 54) (mm_at 10 rfl) rfl rfl dX4_step_58 ?_
          refine lv_iconst (v := 1) hx hb dX4_step_61 (by decide) ?_
          refine mm_iadd (X := (I_64 x0 7).toInt) (Y := 1) hx hb dX4_step_62 rfl num_1 (by omega) (fun z_67 hz_67 => ?_)
          refine lv_aload_n hx hb dX4_step_63 rfl (lv_at hl 0 rfl) ?_
          have b_68 : 0 ≤ (I_64 x0 1).toInt ∧ (I_64 x0 1).toInt ≤ 1000 := hM.ib m_23 k_23 1 rfl
          have e_69 : (I_64 x0 1).toInt = (Ic_8 x0 1).toInt := congrArg Int32.toInt (cu_k eI_64 (by decide))
          refine cr_get (κ := 4) (ci := 4) (k := 1) (C := RX4) (T := TX4) (N := 10) (fs := cfs 4) (v := .int (I_64 x0 1)) E hM m_23 k_23 (fun _ _ => rfl) rfl hin4 (by decide) (index := 21) (mm_at 2 rfl) rfl rfl dX4_step_64 ?_
          refine mm_min (X := z_67.toInt) (Y := (I_64 x0 1).toInt) hx hb (hml.trans hl.1.symm) hown (hts _ (mm_at 11 rfl)) (hts _ (mm_at 12 rfl)) (hts _ (mm_at 13 rfl)) (hts _ (mm_at 14 rfl)) (Nat.le_of_ble_eq_true rfl) (Nat.le_of_ble_eq_true rfl) (Nat.le_of_ble_eq_true rfl) (Nat.le_of_ble_eq_true rfl) rfl rfl dX4_step_67 (fun z_70 hz_70 => ?_)
          refine cr_puti (κ := 4) (ci := 4) (k := 8) (C := RX4) (T := TX4) (N := 10) (fs := cfs 4) (ty := .int) (v := z_70) E hM m_23 k_23 (fun _ _ => rfl) rfl hin4 tyX4 tyX4_ok nmX4 (by decide) (index := 133) (mm_at 1 rfl) rfl (Or.inl rfl) (by decide +kernel) rfl rfl (show (8 : Nat) < 10 from by decide) (fun _ _ _ => rfl) (cz_bd (X := z_70.toInt) (a := 0) (b := 1000) rfl rfl (by omega)) (cS_upd (hM.sp m_23 k_23) (by decide) (by decide)) (Or.inr (Or.inr rfl)) dX4_step_70 (fun H locs I_71 eI_71 hM => ?_)
          refine lv_aload_n hx hb dX4_step_73 rfl (lv_at hl 0 rfl) ?_
          have b_72 : 0 ≤ (I_71 x0 6).toInt ∧ (I_71 x0 6).toInt ≤ 4 := hM.ib m_23 k_23 6 rfl
          have e_73 : (I_64 x0 6).toInt = r_61.toInt := (congrArg Int32.toInt (cu_s eI_64)).trans rfl
          have e_74 : (I_71 x0 6).toInt = (I_64 x0 6).toInt := congrArg Int32.toInt (cu_k eI_71 (by decide))
          refine cr_get (κ := 4) (ci := 4) (k := 6) (C := RX4) (T := TX4) (N := 10) (fs := cfs 4) (v := .int (I_71 x0 6)) E hM m_23 k_23 (fun _ _ => rfl) rfl hin4 (by decide) (index := 37) (mm_at 9 rfl) rfl rfl dX4_step_74 ?_
          refine lv_iconst (v := 1) hx hb dX4_step_77 (by decide) ?_
          refine mm_icmp_eq (X := (I_71 x0 6).toInt) (Y := 1) (tgt := 89) hx hb dX4_step_78 (by decide) rfl num_1 (fun c_75 => ?_) (fun c_75 => ?_)
          · have b_76 : 0 ≤ (I_71 x0 7).toInt ∧ (I_71 x0 7).toInt ≤ 1000 := hM.ib m_23 k_23 7 rfl
            have e_77 : (I_71 x0 7).toInt = (I_64 x0 7).toInt := congrArg Int32.toInt (cu_k eI_71 (by decide))
            have b_78 : 0 ≤ (I_71 x0 8).toInt ∧ (I_71 x0 8).toInt ≤ 1000 := hM.ib m_23 k_23 8 rfl
            have e_79 : (I_71 x0 8).toInt = z_70.toInt := (congrArg Int32.toInt (cu_s eI_71)).trans rfl
            exact B_89 4294967296 _ _ _ Lc_8 Kc_8 I_71 Oc_8     (show (I_71 x0 6).toInt = 0 ∨ (I_71 x0 7).toInt ≤ 999 from by omega) (show (1000 - (I_71 x0 8).toInt) < ((4294967296 : Nat) : Int) from by omega) hM (lv_sub hl [0] rfl)
          · refine lv_aload_n hx hb dX4_step_81 rfl (lv_at hl 0 rfl) ?_
            refine cr_get (κ := 4) (ci := 4) (k := 6) (C := RX4) (T := TX4) (N := 10) (fs := cfs 4) (v := .int (I_71 x0 6)) E hM m_23 k_23 (fun _ _ => rfl) rfl hin4 (by decide) (index := 37) (mm_at 9 rfl) rfl rfl dX4_step_82 ?_
            refine lv_iconst (v := 2) hx hb dX4_step_85 (by decide) ?_
            refine mm_icmp_ne (X := (I_71 x0 6).toInt) (Y := 2) (tgt := 128) hx hb dX4_step_86 (by decide) rfl num_2 (fun c_80 => ?_) (fun c_80 => ?_)
            · have b_81 : 0 ≤ (I_71 x0 7).toInt ∧ (I_71 x0 7).toInt ≤ 1000 := hM.ib m_23 k_23 7 rfl
              have e_82 : (I_71 x0 7).toInt = (I_64 x0 7).toInt := congrArg Int32.toInt (cu_k eI_71 (by decide))
              exact cr_rv (mc := 0) (ms := 0) E hr hlk hsz hM ⟨show (0 : Nat) ≤ 0 from by omega, show (0 : Nat) ≤ 0 from by omega⟩ (show (I_71 x0 6).toInt = 0 ∨ (I_71 x0 7).toInt ≤ 999 from by omega) dX4_step_128
            · have b_83 : 0 ≤ (I_71 x0 7).toInt ∧ (I_71 x0 7).toInt ≤ 1000 := hM.ib m_23 k_23 7 rfl
              have e_84 : (I_71 x0 7).toInt = (I_64 x0 7).toInt := congrArg Int32.toInt (cu_k eI_71 (by decide))
              have b_85 : 0 ≤ (I_71 x0 8).toInt ∧ (I_71 x0 8).toInt ≤ 1000 := hM.ib m_23 k_23 8 rfl
              have e_86 : (I_71 x0 8).toInt = z_70.toInt := (congrArg Int32.toInt (cu_s eI_71)).trans rfl
              exact B_89 4294967296 _ _ _ Lc_8 Kc_8 I_71 Oc_8     (show (I_71 x0 6).toInt = 0 ∨ (I_71 x0 7).toInt ≤ 999 from by omega) (show (1000 - (I_71 x0 8).toInt) < ((4294967296 : Nat) : Int) from by omega) hM (lv_sub hl [0] rfl)
        · refine lv_aload_n hx hb dX4_step_31 rfl (lv_at hl 0 rfl) ?_
          refine lv_dup hx hb dX4_step_32 rfl ?_
          refine cr_get (κ := 4) (ci := 4) (k := 7) (C := RX4) (T := TX4) (N := 10) (fs := cfs 4) (v := .int (Ic_8 x0 7)) E hM m_23 k_23 (fun _ _ => rfl) rfl hin4 (by decide) (index := 54) (mm_at 10 rfl) rfl rfl dX4_step_33 ?_
          refine lv_iconst (v := 1) hx hb dX4_step_36 (by decide) ?_
          refine mm_iadd (X := (Ic_8 x0 7).toInt) (Y := 1) hx hb dX4_step_37 rfl num_1 (by omega) (fun z_87 hz_87 => ?_)
          refine cr_puti (κ := 4) (ci := 4) (k := 7) (C := RX4) (T := TX4) (N := 10) (fs := cfs 4) (ty := .int) (v := z_87) E hM m_23 k_23 (fun _ _ => rfl) rfl hin4 tyX4 tyX4_ok nmX4 (by decide) (index := 54) (mm_at 10 rfl) rfl (Or.inl rfl) (by decide +kernel) rfl rfl (show (7 : Nat) < 10 from by decide) (fun _ _ _ => rfl) (cz_bd (X := z_87.toInt) (a := 0) (b := 1000) rfl rfl (by omega)) (cS_upd (hM.sp m_23 k_23) (by decide) (by decide)) (Or.inr (Or.inr rfl)) dX4_step_38 (fun H locs I_88 eI_88 hM => ?_)
          refine lv_goto (tgt := 8) hx hb dX4_step_41 (by decide) ?_
          have b_89 : 0 ≤ (I_88 x0 7).toInt ∧ (I_88 x0 7).toInt ≤ 1000 := hM.ib m_23 k_23 7 rfl
          have e_90 : (I_88 x0 7).toInt = z_87.toInt := (congrArg Int32.toInt (cu_s eI_88)).trans rfl
          exact ih_8 _ _ _ Lc_8 Kc_8 I_88 Oc_8     (show (1000 - (I_88 x0 7).toInt) < ((n_8 : Nat) : Int) from by omega) hM (lv_sub hl [0] rfl)
  refine lv_aload_n hx hb dX4_step_0 rfl (lv_at hl 0 rfl) ?_
  refine lv_aload_n hx hb dX4_step_1 rfl (lv_at hl 0 rfl) ?_
  have b_91 : 0 ≤ (I x0 8).toInt ∧ (I x0 8).toInt ≤ 1000 := hM.ib mx0 kx0 8 rfl
  refine cr_get (κ := 4) (ci := 4) (k := 8) (C := RX4) (T := TX4) (N := 10) (fs := cfs 4) (v := .int (I x0 8)) E hM mx0 kx0 (fun _ _ => rfl) rfl hin4 (by decide) (index := 133) (mm_at 1 rfl) rfl rfl dX4_step_2 ?_
  refine cr_puti (κ := 4) (ci := 4) (k := 7) (C := RX4) (T := TX4) (N := 10) (fs := cfs 4) (ty := .int) (v := (I x0 8)) E hM mx0 kx0 (fun _ _ => rfl) rfl hin4 tyX4 tyX4_ok nmX4 (by decide) (index := 54) (mm_at 10 rfl) rfl (Or.inl rfl) (by decide +kernel) rfl rfl (show (7 : Nat) < 10 from by decide) (fun _ _ _ => rfl) (cz_bd (X := (I x0 8).toInt) (a := 0) (b := 1000) rfl rfl (by omega)) (cS_upd (hM.sp mx0 kx0) (by decide) (by decide)) (Or.inr (Or.inr rfl)) dX4_step_5 (fun H locs I_92 eI_92 hM => ?_)
  have b_93 : 0 ≤ (I_92 x0 7).toInt ∧ (I_92 x0 7).toInt ≤ 1000 := hM.ib mx0 kx0 7 rfl
  have e_94 : (I_92 x0 7).toInt = (I x0 8).toInt := (congrArg Int32.toInt (cu_s eI_92)).trans rfl
  exact B_8 4294967296 _ _ _ L K I_92 O     (show (1000 - (I_92 x0 7).toInt) < ((4294967296 : Nat) : Int) from by omega) hM (lv_sub hl [0] rfl)
def w4X4_readWord : List Cond := .code yX4_readWord cX4_readWord 2 (some .boolean) :: ([.methodLink RX4 107 yX4_isWord, .instanceMethod yX4_isWord, .selects RX4 yX4_isWord yX4_isWord, .initialized RX4, .code yX4_isWord cX4_isWord 3 (some .boolean), .methodLink RX4 140 yJ0_length_8abf5, .instanceMethod yJ0_length_8abf5, .selects RJ0 yJ0_length_8abf5 yJ0_length_8abf5, .initialized RJ0, .code yJ0_length_8abf5 cJ0_length_8abf5 1 (some .int), .fieldLink RJ0 9 "java/lang/String" "value" "[B", .methodLink RJ0 335 yJ0_coder_7d493, .instanceMethod yJ0_coder_7d493, .selects RJ0 yJ0_coder_7d493 yJ0_coder_7d493, .code yJ0_coder_7d493 cJ0_coder_7d493 1 (some .byte), .fieldLink RJ0 38 "java/lang/String" "COMPACT_STRINGS" "Z", .fieldLink RJ0 15 "java/lang/String" "coder" "B", .fieldLink RX4 9 "SkiShots$Reader" "text" "[B", .fieldLink RX4 54 "SkiShots$Reader" "place" "I", .methodLink RX4 145 yJ0_charAt_5068e, .instanceMethod yJ0_charAt_5068e, .selects RJ0 yJ0_charAt_5068e yJ0_charAt_5068e, .code yJ0_charAt_5068e cJ0_charAt_5068e 2 (some .char), .methodLink RJ0 492 yJ0_isLatin1_aae02, .instanceMethod yJ0_isLatin1_aae02, .selects RJ0 yJ0_isLatin1_aae02 yJ0_isLatin1_aae02, .code yJ0_isLatin1_aae02 cJ0_isLatin1_aae02 1 (some .boolean), .methodLink RJ0 495 yJ1_charAt_3b067, .static yJ1_charAt_3b067, .initialized RJ1, .code yJ1_charAt_3b067 cJ1_charAt_3b067 2 (some .char), .methodLink RJ1 9 yJ0_checkIndex_df160, .static yJ0_checkIndex_df160, .code yJ0_checkIndex_df160 cJ0_checkIndex_df160 2 none, .fieldLink RJ0 1053 "jdk/internal/util/Preconditions" "SIOOBE_FORMATTER" "Ljava/util/function/BiFunction;", .methodLink RJ0 1059 yJ3_checkIndex_8e157, .static yJ3_checkIndex_8e157, .initialized RJ3, .code yJ3_checkIndex_8e157 cJ3_checkIndex_8e157 3 (some .int), .fieldLink RX4 37 "SkiShots$Reader" "sort" "I", .fieldLink RX4 133 "SkiShots$Reader" "behind" "I", .methodLink RX4 34 yX4_step, .instanceMethod yX4_step, .selects RX4 yX4_step yX4_step, .code yX4_step cX4_step 1 none, .fieldLink RX4 21 "SkiShots$Reader" "length" "I", .methodLink RX4 149 yX4_sortAt, .instanceMethod yX4_sortAt, .selects RX4 yX4_sortAt yX4_sortAt, .code yX4_sortAt cX4_sortAt 3 (some .int), .methodLink RX4 15 Lib.Math.min.name, .static Lib.Math.min.name, .initialized "java/lang/Math", .code Lib.Math.min.name Lib.Math.min.code 2 (some .int), .methodLink RX4 44 yX4_fail, .instanceMethod yX4_fail, .selects RX4 yX4_fail yX4_fail, .code yX4_fail cX4_fail 2 (some .boolean), .fieldLink RX4 137 "SkiShots$Reader" "fault" "I", .fieldLink RX4 31 "SkiShots$Reader" "faultPlace" "I"] ++ wsX40)
set_option maxRecDepth 20000 in
theorem gk_X4_readWord_X4_isWord_1 : GoodIn w4X4_readWord (wsV RX4 107 RX4 yX4_isWord w4X4_isWord) := goodIn_p _ [5, 10, 15, 23, 27, 31, 34, 39] rfl (by decide +kernel)
set_option maxRecDepth 20000 in
theorem gk_X4_readWord_X4_step_6 : GoodIn w4X4_readWord (wsV RX4 34 RX4 yX4_step w4X4_step) := goodIn_p _ [45, 50, 54] rfl (by decide +kernel)
set_option maxRecDepth 20000 in
theorem gk_X4_readWord_X4_fail_13 : GoodIn w4X4_readWord (wsV RX4 44 RX4 yX4_fail w4X4_fail) := goodIn_p _ [58] rfl (by decide +kernel)
set_option maxHeartbeats 4000000 in
set_option maxRecDepth 100000 in
theorem h4_X4_readWord (l : Launch) (D : va_G) (cA : Nat → ClassId) (ad av : Nat → Nat) (L : List Nat) (K : Nat → Nat) (I : Nat → Nat → Int32) (O : Nat → Nat → Option Nat) (sz : Nat) (x0 : Nat) (si : Nat) (hI : cI L K I O) (mx0 : x0 ∈ L) (kx0 : K x0 = 4) (hsi : si < 11) (hrp : (I x0 6).toInt = 0 ∨ (I x0 7).toInt ≤ 999) : Met l yX4_readWord w4X4_readWord ({ frames := 5, cells := 0, slots := 0, locals := 107 }) (cPre D cA ad av L K I O sz [.ref x0, .ref (ad si)]) (cQi D cA L K I O sz [] [(4, 4), (4, 5), (4, 6), (4, 7), (4, 8)] [] (fun r L' K' I' O' => (I' x0 6).toInt = 0 ∨ (I' x0 7).toInt ≤ 999)) 0 0 (va_A (cW cA L K I O) sz) := by
  refine cr_met (own := RX4) (xs := []) (WI := [(4, 4), (4, 5), (4, 6), (4, 7), (4, 8)]) (WO := []) (cc := cX4_readWord) (maxL := 2) (ret := (some .boolean)) (by decide) rfl rfl (Nat.le_of_ble_eq_true rfl) hI ?_
  intro p e s m args below meth c ls E hV hml hr hlk hname hsz hA hM hl
  have hx := E.1
  have hb := E.2.1
  have hts := E.2.2.1
  have hown := E.2.2.2.1
  have hl : lv_has ls 2 [(0, .ref x0), (1, .ref (ad si))] := hl
  have hin4 : ∀ w ∈ wsX40, w ∈ w4X4_readWord := by decide +kernel
  refine lv_aload_n hx hb dX4_readWord_0 rfl (lv_at hl 0 rfl) ?_
  refine lv_aload_n hx hb dX4_readWord_1 rfl (lv_at hl 1 rfl) ?_
  refine cc_Vip (vs := [.ref (ad si)]) (rest := []) (b := x0) (κ := 4) E hV rfl hA hml hM mx0 kx0 rfl rfl (h4_X4_isWord l D cA ad av L K I O _ x0 si hM.2.2.2.1 mx0 kx0 hsi) (cwV 1 hts gk_X4_readWord_X4_isWord_1 rfl rfl rfl (by decide +kernel) ⟨Nat.le_of_ble_eq_true rfl, Nat.le_of_ble_eq_true rfl⟩) rfl hl.1 rfl (Nat.le_of_ble_eq_true rfl) dX4_readWord_2 ⟨show (0 : Nat) ≤ 0 from by omega, show (0 : Nat) ≤ 0 from by omega⟩ (fun r_2 H locs p_3 hM => ?_)
  replace p_3 : r_2.toInt = 0 ∨ r_2.toInt = 1 := p_3
  refine mm_if_ne (X := r_2.toInt) (tgt := 14) hx hb dX4_readWord_5 (by decide) rfl (fun c_5 => ?_) (fun c_5 => ?_)
  · refine lv_aload_n hx hb dX4_readWord_14 rfl (lv_at hl 0 rfl) ?_
    refine cc_Vv (vs := []) (rest := []) (b := x0) (κ := 4) E hV rfl hA hml hM mx0 kx0 rfl rfl (h4_X4_step l D cA ad av L K I O _ x0 hM.2.2.2.1 mx0 kx0) (cwV 0 hts gk_X4_readWord_X4_step_6 rfl rfl rfl (by decide +kernel) ⟨Nat.le_of_ble_eq_true rfl, Nat.le_of_ble_eq_true rfl⟩) rfl hl.1 rfl (Nat.le_of_ble_eq_true rfl) dX4_readWord_15 ⟨show (0 + 0 : Nat) ≤ 0 from by omega, show (0 + 0 : Nat) ≤ 0 from by omega⟩ (fun _ h => by cases h) (by decide) (by decide) (fun L_9 K_9 I_9 O_9 H locs fr_9 p_8 hM => ?_)
    have m_10 := (fr_9 x0 mx0 (fun z => by cases z)).1
    have k_10 : K_9 x0 = 4 := (fr_9 x0 mx0 (fun z => by cases z)).2.1.trans kx0
    replace p_8 : (I_9 x0 6).toInt = 0 ∨ (I_9 x0 7).toInt ≤ 999 := p_8
    refine lv_iconst (v := 1) hx hb dX4_readWord_18 (by decide) ?_
    have b_11 : 0 ≤ (I_9 x0 6).toInt ∧ (I_9 x0 6).toInt ≤ 4 := hM.ib m_10 k_10 6 rfl
    have b_12 : 0 ≤ (I_9 x0 7).toInt ∧ (I_9 x0 7).toInt ≤ 1000 := hM.ib m_10 k_10 7 rfl
    exact cr_rz (mc := 0) (ms := 0) (X := 1) E hr hlk hsz hM ⟨show (0 : Nat) ≤ 0 from by omega, show (0 : Nat) ≤ 0 from by omega⟩ num_1 (by omega) (show (I_9 x0 6).toInt = 0 ∨ (I_9 x0 7).toInt ≤ 999 from by have n9 := num_1; omega) dX4_readWord_19
  · refine lv_aload_n hx hb dX4_readWord_8 rfl (lv_at hl 0 rfl) ?_
    refine lv_iconst (v := 1) hx hb dX4_readWord_9 (by decide) ?_
    refine cc_Vi (vs := [.int 1]) (rest := []) (b := x0) (κ := 4) E hV rfl hA hml hM mx0 kx0 rfl rfl (h4_X4_fail l D cA ad av L K I O _ x0 1 hM.2.2.2.1 mx0 kx0) (cwV 1 hts gk_X4_readWord_X4_fail_13 rfl rfl rfl (by decide +kernel) ⟨Nat.le_of_ble_eq_true rfl, Nat.le_of_ble_eq_true rfl⟩) rfl hl.1 rfl (Nat.le_of_ble_eq_true rfl) dX4_readWord_10 ⟨show (0 + 0 : Nat) ≤ 0 from by omega, show (0 + 0 : Nat) ≤ 0 from by omega⟩ (fun _ h => by cases h) (by decide) (by decide) (fun r_14 L_16 K_16 I_16 O_16 H locs fr_16 p_15 hM => ?_)
    have m_17 := (fr_16 x0 mx0 (fun z => by cases z)).1
    have k_17 : K_16 x0 = 4 := (fr_16 x0 mx0 (fun z => by cases z)).2.1.trans kx0
    replace p_15 : r_14.toInt = 0 := p_15
    have b_18 : 0 ≤ (I_16 x0 6).toInt ∧ (I_16 x0 6).toInt ≤ 4 := hM.ib m_17 k_17 6 rfl
    have e_19 : (I_16 x0 6).toInt = (I x0 6).toInt := congrArg Int32.toInt ((fr_16 x0 mx0 (fun z => by cases z)).2.2.1 6 (by rw [kx0]; rfl))
    have b_20 : 0 ≤ (I_16 x0 7).toInt ∧ (I_16 x0 7).toInt ≤ 1000 := hM.ib m_17 k_17 7 rfl
    have e_21 : (I_16 x0 7).toInt = (I x0 7).toInt := congrArg Int32.toInt ((fr_16 x0 mx0 (fun z => by cases z)).2.2.1 7 (by rw [kx0]; rfl))
    exact cr_rz (mc := 0) (ms := 0) (X := r_14.toInt) E hr hlk hsz hM ⟨show (0 : Nat) ≤ 0 from by omega, show (0 : Nat) ≤ 0 from by omega⟩ rfl (by omega) (show (I_16 x0 6).toInt = 0 ∨ (I_16 x0 7).toInt ≤ 999 from by omega) dX4_readWord_13
def w4X4_readSign : List Cond := .code yX4_readSign cX4_readSign 2 (some .boolean) :: ([.fieldLink RX4 37 "SkiShots$Reader" "sort" "I", .methodLink RX4 44 yX4_fail, .instanceMethod yX4_fail, .selects RX4 yX4_fail yX4_fail, .initialized RX4, .code yX4_fail cX4_fail 2 (some .boolean), .fieldLink RX4 137 "SkiShots$Reader" "fault" "I", .fieldLink RX4 54 "SkiShots$Reader" "place" "I", .fieldLink RX4 31 "SkiShots$Reader" "faultPlace" "I", .fieldLink RX4 9 "SkiShots$Reader" "text" "[B", .methodLink RX4 34 yX4_step, .instanceMethod yX4_step, .selects RX4 yX4_step yX4_step, .code yX4_step cX4_step 1 none, .fieldLink RX4 133 "SkiShots$Reader" "behind" "I", .fieldLink RX4 21 "SkiShots$Reader" "length" "I", .methodLink RX4 149 yX4_sortAt, .instanceMethod yX4_sortAt, .selects RX4 yX4_sortAt yX4_sortAt, .code yX4_sortAt cX4_sortAt 3 (some .int), .methodLink RX4 15 Lib.Math.min.name, .static Lib.Math.min.name, .initialized "java/lang/Math", .code Lib.Math.min.name Lib.Math.min.code 2 (some .int)] ++ wsX40)
set_option maxRecDepth 20000 in
theorem gk_X4_readSign_X4_fail_3 : GoodIn w4X4_readSign (wsV RX4 44 RX4 yX4_fail w4X4_fail) := goodIn_p _ [6] rfl (by decide +kernel)
set_option maxRecDepth 20000 in
theorem gk_X4_readSign_X4_step_15 : GoodIn w4X4_readSign (wsV RX4 34 RX4 yX4_step w4X4_step) := goodIn_p _ [14, 20, 24] rfl (by decide +kernel)
set_option maxRecDepth 20000 in
theorem gk_X4_readSign_X4_fail_23 : GoodIn w4X4_readSign (wsV RX4 44 RX4 yX4_fail w4X4_fail) := goodIn_p _ [6] rfl (by decide +kernel)
set_option maxHeartbeats 4000000 in
set_option maxRecDepth 100000 in
theorem h4_X4_readSign (l : Launch) (D : va_G) (cA : Nat → ClassId) (ad av : Nat → Nat) (L : List Nat) (K : Nat → Nat) (I : Nat → Nat → Int32) (O : Nat → Nat → Option Nat) (sz : Nat) (x0 : Nat) (p0 : Int32) (hI : cI L K I O) (mx0 : x0 ∈ L) (kx0 : K x0 = 4) (hrp : (I x0 6).toInt = 0 ∨ (I x0 7).toInt ≤ 999) : Met l yX4_readSign w4X4_readSign ({ frames := 2, cells := 0, slots := 0, locals := 44 }) (cPre D cA ad av L K I O sz [.ref x0, .int p0]) (cQi D cA L K I O sz [] [(4, 4), (4, 5), (4, 6), (4, 7), (4, 8)] [] (fun r L' K' I' O' => (I' x0 6).toInt = 0 ∨ (I' x0 7).toInt ≤ 999)) 0 0 (va_A (cW cA L K I O) sz) := by
  refine cr_met (own := RX4) (xs := []) (WI := [(4, 4), (4, 5), (4, 6), (4, 7), (4, 8)]) (WO := []) (cc := cX4_readSign) (maxL := 2) (ret := (some .boolean)) (by decide) rfl rfl (Nat.le_of_ble_eq_true rfl) hI ?_
  intro p e s m args below meth c ls E hV hml hr hlk hname hsz hA hM hl
  have hx := E.1
  have hb := E.2.1
  have hts := E.2.2.1
  have hown := E.2.2.2.1
  have hl : lv_has ls 2 [(0, .ref x0), (1, .int p0)] := hl
  have hin4 : ∀ w ∈ wsX40, w ∈ w4X4_readSign := by decide +kernel
  refine lv_aload_n hx hb dX4_readSign_0 rfl (lv_at hl 0 rfl) ?_
  have b_1 : 0 ≤ (I x0 6).toInt ∧ (I x0 6).toInt ≤ 4 := hM.ib mx0 kx0 6 rfl
  refine cr_get (κ := 4) (ci := 4) (k := 6) (C := RX4) (T := TX4) (N := 10) (fs := cfs 4) (v := .int (I x0 6)) E hM mx0 kx0 (fun _ _ => rfl) rfl hin4 (by decide) (index := 37) (mm_at 1 rfl) rfl rfl dX4_readSign_1 ?_
  refine lv_iconst (v := 3) hx hb dX4_readSign_4 (by decide) ?_
  refine mm_icmp_ne (X := (I x0 6).toInt) (Y := 3) (tgt := 21) hx hb dX4_readSign_5 (by decide) rfl num_3 (fun c_2 => ?_) (fun c_2 => ?_)
  · refine lv_aload_n hx hb dX4_readSign_21 rfl (lv_at hl 0 rfl) ?_
    refine lv_iconst (v := 1) hx hb dX4_readSign_22 (by decide) ?_
    refine cc_Vi (vs := [.int 1]) (rest := []) (b := x0) (κ := 4) E hV rfl hA hml hM mx0 kx0 rfl rfl (h4_X4_fail l D cA ad av L K I O _ x0 1 hM.2.2.2.1 mx0 kx0) (cwV 1 hts gk_X4_readSign_X4_fail_3 rfl rfl rfl (by decide +kernel) ⟨Nat.le_of_ble_eq_true rfl, Nat.le_of_ble_eq_true rfl⟩) rfl hl.1 rfl (Nat.le_of_ble_eq_true rfl) dX4_readSign_23 ⟨show (0 + 0 : Nat) ≤ 0 from by omega, show (0 + 0 : Nat) ≤ 0 from by omega⟩ (fun _ h => by cases h) (by decide) (by decide) (fun r_4 L_6 K_6 I_6 O_6 H locs fr_6 p_5 hM => ?_)
    have m_7 := (fr_6 x0 mx0 (fun z => by cases z)).1
    have k_7 : K_6 x0 = 4 := (fr_6 x0 mx0 (fun z => by cases z)).2.1.trans kx0
    replace p_5 : r_4.toInt = 0 := p_5
    have b_8 : 0 ≤ (I_6 x0 6).toInt ∧ (I_6 x0 6).toInt ≤ 4 := hM.ib m_7 k_7 6 rfl
    have e_9 : (I_6 x0 6).toInt = (I x0 6).toInt := congrArg Int32.toInt ((fr_6 x0 mx0 (fun z => by cases z)).2.2.1 6 (by rw [kx0]; rfl))
    have b_10 : 0 ≤ (I_6 x0 7).toInt ∧ (I_6 x0 7).toInt ≤ 1000 := hM.ib m_7 k_7 7 rfl
    have e_11 : (I_6 x0 7).toInt = (I x0 7).toInt := congrArg Int32.toInt ((fr_6 x0 mx0 (fun z => by cases z)).2.2.1 7 (by rw [kx0]; rfl))
    exact cr_rz (mc := 0) (ms := 0) (X := r_4.toInt) E hr hlk hsz hM ⟨show (0 : Nat) ≤ 0 from by omega, show (0 : Nat) ≤ 0 from by omega⟩ rfl (by omega) (show (I_6 x0 6).toInt = 0 ∨ (I_6 x0 7).toInt ≤ 999 from by omega) dX4_readSign_26
  · refine lv_aload_n hx hb dX4_readSign_8 rfl (lv_at hl 0 rfl) ?_
    obtain ⟨x_12, o_12, m_12, k_12⟩ := hM.nn mx0 kx0 0 (κ' := 10) rfl rfl
    refine cr_get (κ := 4) (ci := 4) (k := 0) (C := RX4) (T := TX4) (N := 10) (fs := cfs 4) (v := .ref x_12) E hM mx0 kx0 (fun _ _ => rfl) rfl hin4 (by decide) (index := 9) (mm_at 10 rfl) rfl (by show some (va_rf (O x0 0)) = some (.ref x_12); rw [o_12]; rfl) dX4_readSign_9 ?_
    refine lv_aload_n hx hb dX4_readSign_12 rfl (lv_at hl 0 rfl) ?_
    have b_13 : 0 ≤ (I x0 7).toInt ∧ (I x0 7).toInt ≤ 1000 := hM.ib mx0 kx0 7 rfl
    refine cr_get (κ := 4) (ci := 4) (k := 7) (C := RX4) (T := TX4) (N := 10) (fs := cfs 4) (v := .int (I x0 7)) E hM mx0 kx0 (fun _ _ => rfl) rfl hin4 (by decide) (index := 54) (mm_at 8 rfl) rfl rfl dX4_readSign_13 ?_
    refine cr_bald (κ := 10) (t0 := 0) (X := (I x0 7).toInt) E hM m_12 k_12 (fun _ _ => rfl) rfl rfl (by omega) dX4_readSign_16 ?_
    refine lv_iload_n hx hb dX4_readSign_17 rfl (lv_at hl 1 rfl) ?_
    refine mm_icmp_eq (X := (I x_12 (Int32.toNatClampNeg (I x0 7))).toInt) (Y := p0.toInt) (tgt := 27) hx hb dX4_readSign_18 (by decide) rfl rfl (fun c_14 => ?_) (fun c_14 => ?_)
    · refine lv_aload_n hx hb dX4_readSign_27 rfl (lv_at hl 0 rfl) ?_
      refine cc_Vv (vs := []) (rest := []) (b := x0) (κ := 4) E hV rfl hA hml hM mx0 kx0 rfl rfl (h4_X4_step l D cA ad av L K I O _ x0 hM.2.2.2.1 mx0 kx0) (cwV 0 hts gk_X4_readSign_X4_step_15 rfl rfl rfl (by decide +kernel) ⟨Nat.le_of_ble_eq_true rfl, Nat.le_of_ble_eq_true rfl⟩) rfl hl.1 rfl (Nat.le_of_ble_eq_true rfl) dX4_readSign_28 ⟨show (0 + 0 : Nat) ≤ 0 from by omega, show (0 + 0 : Nat) ≤ 0 from by omega⟩ (fun _ h => by cases h) (by decide) (by decide) (fun L_18 K_18 I_18 O_18 H locs fr_18 p_17 hM => ?_)
      have m_19 := (fr_18 x0 mx0 (fun z => by cases z)).1
      have k_19 : K_18 x0 = 4 := (fr_18 x0 mx0 (fun z => by cases z)).2.1.trans kx0
      have m_20 := (fr_18 x_12 m_12 (fun z => by cases z)).1
      have k_20 : K_18 x_12 = 10 := (fr_18 x_12 m_12 (fun z => by cases z)).2.1.trans k_12
      replace p_17 : (I_18 x0 6).toInt = 0 ∨ (I_18 x0 7).toInt ≤ 999 := p_17
      refine lv_iconst (v := 1) hx hb dX4_readSign_31 (by decide) ?_
      have b_21 : 0 ≤ (I_18 x0 6).toInt ∧ (I_18 x0 6).toInt ≤ 4 := hM.ib m_19 k_19 6 rfl
      have b_22 : 0 ≤ (I_18 x0 7).toInt ∧ (I_18 x0 7).toInt ≤ 1000 := hM.ib m_19 k_19 7 rfl
      exact cr_rz (mc := 0) (ms := 0) (X := 1) E hr hlk hsz hM ⟨show (0 : Nat) ≤ 0 from by omega, show (0 : Nat) ≤ 0 from by omega⟩ num_1 (by omega) (show (I_18 x0 6).toInt = 0 ∨ (I_18 x0 7).toInt ≤ 999 from by have n9 := num_1; omega) dX4_readSign_32
    · refine lv_aload_n hx hb dX4_readSign_21 rfl (lv_at hl 0 rfl) ?_
      refine lv_iconst (v := 1) hx hb dX4_readSign_22 (by decide) ?_
      refine cc_Vi (vs := [.int 1]) (rest := []) (b := x0) (κ := 4) E hV rfl hA hml hM mx0 kx0 rfl rfl (h4_X4_fail l D cA ad av L K I O _ x0 1 hM.2.2.2.1 mx0 kx0) (cwV 1 hts gk_X4_readSign_X4_fail_23 rfl rfl rfl (by decide +kernel) ⟨Nat.le_of_ble_eq_true rfl, Nat.le_of_ble_eq_true rfl⟩) rfl hl.1 rfl (Nat.le_of_ble_eq_true rfl) dX4_readSign_23 ⟨show (0 + 0 : Nat) ≤ 0 from by omega, show (0 + 0 : Nat) ≤ 0 from by omega⟩ (fun _ h => by cases h) (by decide) (by decide) (fun r_24 L_26 K_26 I_26 O_26 H locs fr_26 p_25 hM => ?_)
      have m_27 := (fr_26 x0 mx0 (fun z => by cases z)).1
      have k_27 : K_26 x0 = 4 := (fr_26 x0 mx0 (fun z => by cases z)).2.1.trans kx0
      have m_28 := (fr_26 x_12 m_12 (fun z => by cases z)).1
      have k_28 : K_26 x_12 = 10 := (fr_26 x_12 m_12 (fun z => by cases z)).2.1.trans k_12
      replace p_25 : r_24.toInt = 0 := p_25
      have b_29 : 0 ≤ (I_26 x0 6).toInt ∧ (I_26 x0 6).toInt ≤ 4 := hM.ib m_27 k_27 6 rfl
      have e_30 : (I_26 x0 6).toInt = (I x0 6).toInt := congrArg Int32.toInt ((fr_26 x0 mx0 (fun z => by cases z)).2.2.1 6 (by rw [kx0]; rfl))
      have b_31 : 0 ≤ (I_26 x0 7).toInt ∧ (I_26 x0 7).toInt ≤ 1000 := hM.ib m_27 k_27 7 rfl
      have e_32 : (I_26 x0 7).toInt = (I x0 7).toInt := congrArg Int32.toInt ((fr_26 x0 mx0 (fun z => by cases z)).2.2.1 7 (by rw [kx0]; rfl))
      exact cr_rz (mc := 0) (ms := 0) (X := r_24.toInt) E hr hlk hsz hM ⟨show (0 : Nat) ≤ 0 from by omega, show (0 : Nat) ≤ 0 from by omega⟩ rfl (by omega) (show (I_26 x0 6).toInt = 0 ∨ (I_26 x0 7).toInt ≤ 999 from by omega) dX4_readSign_26
def w4X4_readNumber : List Cond := .code yX4_readNumber cX4_readNumber 4 (some .boolean) :: ([.fieldLink RX4 133 "SkiShots$Reader" "behind" "I", .fieldLink RX4 89 "SkiShots$Reader" "number" "I", .methodLink RX4 44 yX4_fail, .instanceMethod yX4_fail, .selects RX4 yX4_fail yX4_fail, .initialized RX4, .code yX4_fail cX4_fail 2 (some .boolean), .fieldLink RX4 137 "SkiShots$Reader" "fault" "I", .fieldLink RX4 54 "SkiShots$Reader" "place" "I", .fieldLink RX4 31 "SkiShots$Reader" "faultPlace" "I", .methodLink RX4 34 yX4_step, .instanceMethod yX4_step, .selects RX4 yX4_step yX4_step, .code yX4_step cX4_step 1 none, .fieldLink RX4 21 "SkiShots$Reader" "length" "I", .methodLink RX4 149 yX4_sortAt, .instanceMethod yX4_sortAt, .selects RX4 yX4_sortAt yX4_sortAt, .code yX4_sortAt cX4_sortAt 3 (some .int), .fieldLink RX4 9 "SkiShots$Reader" "text" "[B", .fieldLink RX4 37 "SkiShots$Reader" "sort" "I", .methodLink RX4 15 Lib.Math.min.name, .static Lib.Math.min.name, .initialized "java/lang/Math", .code Lib.Math.min.name Lib.Math.min.code 2 (some .int), .constant RX4 136 (100000)] ++ wsX40)
set_option maxRecDepth 20000 in
theorem gk_X4_readNumber_X4_fail_5 : GoodIn w4X4_readNumber (wsV RX4 44 RX4 yX4_fail w4X4_fail) := goodIn_p _ [7] rfl (by decide +kernel)
set_option maxRecDepth 20000 in
theorem gk_X4_readNumber_X4_step_15 : GoodIn w4X4_readNumber (wsV RX4 34 RX4 yX4_step w4X4_step) := goodIn_p _ [14, 19, 25] rfl (by decide +kernel)
set_option maxRecDepth 20000 in
theorem gk_X4_readNumber_X4_fail_22 : GoodIn w4X4_readNumber (wsV RX4 44 RX4 yX4_fail w4X4_fail) := goodIn_p _ [7] rfl (by decide +kernel)
set_option maxRecDepth 20000 in
theorem gk_X4_readNumber_X4_fail_49 : GoodIn w4X4_readNumber (wsV RX4 44 RX4 yX4_fail w4X4_fail) := goodIn_p _ [7] rfl (by decide +kernel)
set_option maxHeartbeats 4000000 in
set_option maxRecDepth 100000 in
theorem h4_X4_readNumber (l : Launch) (D : va_G) (cA : Nat → ClassId) (ad av : Nat → Nat) (L : List Nat) (K : Nat → Nat) (I : Nat → Nat → Int32) (O : Nat → Nat → Option Nat) (sz : Nat) (x0 : Nat) (p0 : Int32) (p1 : Int32) (hI : cI L K I O) (mx0 : x0 ∈ L) (kx0 : K x0 = 4) (hrp : (I x0 6).toInt = 0 ∨ (I x0 7).toInt ≤ 999) : Met l yX4_readNumber w4X4_readNumber ({ frames := 2, cells := 0, slots := 0, locals := 44 }) (cPre D cA ad av L K I O sz [.ref x0, .int p0, .int p1]) (cQi D cA L K I O sz [] [(4, 4), (4, 5), (4, 6), (4, 7), (4, 8), (4, 9)] [] (fun r L' K' I' O' => (I' x0 6).toInt = 0 ∨ (I' x0 7).toInt ≤ 999)) 0 0 (va_A (cW cA L K I O) sz) := by
  refine cr_met (own := RX4) (xs := []) (WI := [(4, 4), (4, 5), (4, 6), (4, 7), (4, 8), (4, 9)]) (WO := []) (cc := cX4_readNumber) (maxL := 4) (ret := (some .boolean)) (by decide) rfl rfl (Nat.le_of_ble_eq_true rfl) hI ?_
  intro p e s m args below meth c ls E hV hml hr hlk hname hsz hA hM hl
  have hx := E.1
  have hb := E.2.1
  have hts := E.2.2.1
  have hown := E.2.2.2.1
  have hl : lv_has ls 4 [(0, .ref x0), (1, .int p0), (2, .int p1)] := hl
  have hin4 : ∀ w ∈ wsX40, w ∈ w4X4_readNumber := by decide +kernel
  have B_24 : ∀ n_24 : Nat, ∀ (H : Heap) (locs : List Loc) (ls : Array Slot) (Lc_24 : List Nat) (Kc_24 : Nat → Nat) (Ic_24 : Nat → Nat → Int32) (Oc_24 : Nat → Nat → Option Nat) (i : Int32), (0 ≤ i.toInt ∧ i.toInt ≤ 1000) → (Ic_24 x0 6).toInt = 0 ∨ (Ic_24 x0 7).toInt ≤ 999 → (1000 - i.toInt) < (n_24 : Int) → cQ D cA (va_A (cW cA L K I O) sz) s.heap [] [(4, 4), (4, 5), (4, 6), (4, 7), (4, 8), (4, 9)] [] L K I O H locs Lc_24 Kc_24 Ic_24 Oc_24 → lv_has ls 4 [(0, .ref x0), (1, .int p0), (2, .int p1), (3, .int i)] → W p l e ({ frames := 2, cells := 0, slots := 0, locals := 44 }) s m args below meth c H locs 0 0 (MQ below (cQi D cA L K I O sz [] [(4, 4), (4, 5), (4, 6), (4, 7), (4, 8), (4, 9)] [] (fun r L' K' I' O' => (I' x0 6).toInt = 0 ∨ (I' x0 7).toInt ≤ 999)) args s 0 0 (va_A (cW cA L K I O) sz)) (F0 m 24 ls []) := by
    intro n_24
    induction n_24 with
    | zero => intro H locs ls Lc_24 Kc_24 Ic_24 Oc_24 i f24_0 f24_1 hn hM hl; exact False.elim (by omega)
    | succ n_24 ih_24 =>
      intro H locs ls Lc_24 Kc_24 Ic_24 Oc_24 i f24_0 f24_1 hn hM hl
      have hfr_24 := hM.2.2.2.2
      have m_1 := (hfr_24 x0 mx0 (fun z => by cases z)).1
      have k_1 : Kc_24 x0 = 4 := (hfr_24 x0 mx0 (fun z => by cases z)).2.1.trans kx0
      refine lv_iload_n hx hb dX4_readNumber_24 rfl (lv_at hl 3 rfl) ?_
      refine lv_aload_n hx hb dX4_readNumber_25 rfl (lv_at hl 0 rfl) ?_
      have b_2 : 0 ≤ (Ic_24 x0 8).toInt ∧ (Ic_24 x0 8).toInt ≤ 1000 := hM.ib m_1 k_1 8 rfl
      refine cr_get (κ := 4) (ci := 4) (k := 8) (C := RX4) (T := TX4) (N := 10) (fs := cfs 4) (v := .int (Ic_24 x0 8)) E hM m_1 k_1 (fun _ _ => rfl) rfl hin4 (by decide) (index := 133) (mm_at 1 rfl) rfl rfl dX4_readNumber_26 ?_
      refine mm_icmp_ge (X := i.toInt) (Y := (Ic_24 x0 8).toInt) (tgt := 64) hx hb dX4_readNumber_29 (by decide) rfl rfl (fun c_3 => ?_) (fun c_3 => ?_)
      · refine lv_aload_n hx hb dX4_readNumber_64 rfl (lv_at hl 0 rfl) ?_
        refine cr_get (κ := 4) (ci := 4) (k := 9) (C := RX4) (T := TX4) (N := 10) (fs := cfs 4) (v := .int (Ic_24 x0 9)) E hM m_1 k_1 (fun _ _ => rfl) rfl hin4 (by decide) (index := 89) (mm_at 2 rfl) rfl rfl dX4_readNumber_65 ?_
        refine lv_iload_n hx hb dX4_readNumber_68 rfl (lv_at hl 1 rfl) ?_
        refine mm_icmp_lt (X := (Ic_24 x0 9).toInt) (Y := p0.toInt) (tgt := 80) hx hb dX4_readNumber_69 (by decide) rfl rfl (fun c_4 => ?_) (fun c_4 => ?_)
        · refine lv_aload_n hx hb dX4_readNumber_80 rfl (lv_at hl 0 rfl) ?_
          refine lv_iconst (v := 2) hx hb dX4_readNumber_81 (by decide) ?_
          refine cc_Vi (vs := [.int 2]) (rest := []) (b := x0) (κ := 4) E hV rfl hA hml hM m_1 k_1 rfl rfl (h4_X4_fail l D cA ad av Lc_24 Kc_24 Ic_24 Oc_24 _ x0 2 hM.2.2.2.1 m_1 k_1) (cwV 1 hts gk_X4_readNumber_X4_fail_5 rfl rfl rfl (by decide +kernel) ⟨Nat.le_of_ble_eq_true rfl, Nat.le_of_ble_eq_true rfl⟩) rfl hl.1 rfl (Nat.le_of_ble_eq_true rfl) dX4_readNumber_82 ⟨show (0 + 0 : Nat) ≤ 0 from by omega, show (0 + 0 : Nat) ≤ 0 from by omega⟩ (fun _ h => by cases h) (by decide) (by decide) (fun r_6 L_8 K_8 I_8 O_8 H locs fr_8 p_7 hM => ?_)
          have m_9 := (fr_8 x0 m_1 (fun z => by cases z)).1
          have k_9 : K_8 x0 = 4 := (fr_8 x0 m_1 (fun z => by cases z)).2.1.trans k_1
          replace p_7 : r_6.toInt = 0 := p_7
          have b_10 : 0 ≤ (I_8 x0 6).toInt ∧ (I_8 x0 6).toInt ≤ 4 := hM.ib m_9 k_9 6 rfl
          have e_11 : (I_8 x0 6).toInt = (Ic_24 x0 6).toInt := congrArg Int32.toInt ((fr_8 x0 m_1 (fun z => by cases z)).2.2.1 6 (by rw [k_1]; rfl))
          have b_12 : 0 ≤ (I_8 x0 7).toInt ∧ (I_8 x0 7).toInt ≤ 1000 := hM.ib m_9 k_9 7 rfl
          have e_13 : (I_8 x0 7).toInt = (Ic_24 x0 7).toInt := congrArg Int32.toInt ((fr_8 x0 m_1 (fun z => by cases z)).2.2.1 7 (by rw [k_1]; rfl))
          exact cr_rz (mc := 0) (ms := 0) (X := r_6.toInt) E hr hlk hsz hM ⟨show (0 : Nat) ≤ 0 from by omega, show (0 : Nat) ≤ 0 from by omega⟩ rfl (by omega) (show (I_8 x0 6).toInt = 0 ∨ (I_8 x0 7).toInt ≤ 999 from by omega) dX4_readNumber_85
        · refine lv_aload_n hx hb dX4_readNumber_72 rfl (lv_at hl 0 rfl) ?_
          refine cr_get (κ := 4) (ci := 4) (k := 9) (C := RX4) (T := TX4) (N := 10) (fs := cfs 4) (v := .int (Ic_24 x0 9)) E hM m_1 k_1 (fun _ _ => rfl) rfl hin4 (by decide) (index := 89) (mm_at 2 rfl) rfl rfl dX4_readNumber_73 ?_
          refine lv_iload_n hx hb dX4_readNumber_76 rfl (lv_at hl 2 rfl) ?_
          refine mm_icmp_le (X := (Ic_24 x0 9).toInt) (Y := p1.toInt) (tgt := 86) hx hb dX4_readNumber_77 (by decide) rfl rfl (fun c_14 => ?_) (fun c_14 => ?_)
          · refine lv_aload_n hx hb dX4_readNumber_86 rfl (lv_at hl 0 rfl) ?_
            refine cc_Vv (vs := []) (rest := []) (b := x0) (κ := 4) E hV rfl hA hml hM m_1 k_1 rfl rfl (h4_X4_step l D cA ad av Lc_24 Kc_24 Ic_24 Oc_24 _ x0 hM.2.2.2.1 m_1 k_1) (cwV 0 hts gk_X4_readNumber_X4_step_15 rfl rfl rfl (by decide +kernel) ⟨Nat.le_of_ble_eq_true rfl, Nat.le_of_ble_eq_true rfl⟩) rfl hl.1 rfl (Nat.le_of_ble_eq_true rfl) dX4_readNumber_87 ⟨show (0 + 0 : Nat) ≤ 0 from by omega, show (0 + 0 : Nat) ≤ 0 from by omega⟩ (fun _ h => by cases h) (by decide) (by decide) (fun L_18 K_18 I_18 O_18 H locs fr_18 p_17 hM => ?_)
            have m_19 := (fr_18 x0 m_1 (fun z => by cases z)).1
            have k_19 : K_18 x0 = 4 := (fr_18 x0 m_1 (fun z => by cases z)).2.1.trans k_1
            replace p_17 : (I_18 x0 6).toInt = 0 ∨ (I_18 x0 7).toInt ≤ 999 := p_17
            refine lv_iconst (v := 1) hx hb dX4_readNumber_90 (by decide) ?_
            have b_20 : 0 ≤ (I_18 x0 6).toInt ∧ (I_18 x0 6).toInt ≤ 4 := hM.ib m_19 k_19 6 rfl
            have b_21 : 0 ≤ (I_18 x0 7).toInt ∧ (I_18 x0 7).toInt ≤ 1000 := hM.ib m_19 k_19 7 rfl
            exact cr_rz (mc := 0) (ms := 0) (X := 1) E hr hlk hsz hM ⟨show (0 : Nat) ≤ 0 from by omega, show (0 : Nat) ≤ 0 from by omega⟩ num_1 (by omega) (show (I_18 x0 6).toInt = 0 ∨ (I_18 x0 7).toInt ≤ 999 from by have n9 := num_1; omega) dX4_readNumber_91
          · refine lv_aload_n hx hb dX4_readNumber_80 rfl (lv_at hl 0 rfl) ?_
            refine lv_iconst (v := 2) hx hb dX4_readNumber_81 (by decide) ?_
            refine cc_Vi (vs := [.int 2]) (rest := []) (b := x0) (κ := 4) E hV rfl hA hml hM m_1 k_1 rfl rfl (h4_X4_fail l D cA ad av Lc_24 Kc_24 Ic_24 Oc_24 _ x0 2 hM.2.2.2.1 m_1 k_1) (cwV 1 hts gk_X4_readNumber_X4_fail_22 rfl rfl rfl (by decide +kernel) ⟨Nat.le_of_ble_eq_true rfl, Nat.le_of_ble_eq_true rfl⟩) rfl hl.1 rfl (Nat.le_of_ble_eq_true rfl) dX4_readNumber_82 ⟨show (0 + 0 : Nat) ≤ 0 from by omega, show (0 + 0 : Nat) ≤ 0 from by omega⟩ (fun _ h => by cases h) (by decide) (by decide) (fun r_23 L_25 K_25 I_25 O_25 H locs fr_25 p_24 hM => ?_)
            have m_26 := (fr_25 x0 m_1 (fun z => by cases z)).1
            have k_26 : K_25 x0 = 4 := (fr_25 x0 m_1 (fun z => by cases z)).2.1.trans k_1
            replace p_24 : r_23.toInt = 0 := p_24
            have b_27 : 0 ≤ (I_25 x0 6).toInt ∧ (I_25 x0 6).toInt ≤ 4 := hM.ib m_26 k_26 6 rfl
            have e_28 : (I_25 x0 6).toInt = (Ic_24 x0 6).toInt := congrArg Int32.toInt ((fr_25 x0 m_1 (fun z => by cases z)).2.2.1 6 (by rw [k_1]; rfl))
            have b_29 : 0 ≤ (I_25 x0 7).toInt ∧ (I_25 x0 7).toInt ≤ 1000 := hM.ib m_26 k_26 7 rfl
            have e_30 : (I_25 x0 7).toInt = (Ic_24 x0 7).toInt := congrArg Int32.toInt ((fr_25 x0 m_1 (fun z => by cases z)).2.2.1 7 (by rw [k_1]; rfl))
            exact cr_rz (mc := 0) (ms := 0) (X := r_23.toInt) E hr hlk hsz hM ⟨show (0 : Nat) ≤ 0 from by omega, show (0 : Nat) ≤ 0 from by omega⟩ rfl (by omega) (show (I_25 x0 6).toInt = 0 ∨ (I_25 x0 7).toInt ≤ 999 from by omega) dX4_readNumber_85
      · refine lv_aload_n hx hb dX4_readNumber_32 rfl (lv_at hl 0 rfl) ?_
        refine lv_aload_n hx hb dX4_readNumber_33 rfl (lv_at hl 0 rfl) ?_
        refine cr_get (κ := 4) (ci := 4) (k := 9) (C := RX4) (T := TX4) (N := 10) (fs := cfs 4) (v := .int (Ic_24 x0 9)) E hM m_1 k_1 (fun _ _ => rfl) rfl hin4 (by decide) (index := 89) (mm_at 2 rfl) rfl rfl dX4_readNumber_34 ?_
        refine lv_bipush (v := 10) hx hb dX4_readNumber_37 (by decide) ?_
        refine mm_imulU hx hb dX4_readNumber_39 (fun z_31 => ?_)
        refine lv_aload_n hx hb dX4_readNumber_40 rfl (lv_at hl 0 rfl) ?_
        obtain ⟨x_32, o_32, m_32, k_32⟩ := hM.nn m_1 k_1 0 (κ' := 10) rfl rfl
        refine cr_get (κ := 4) (ci := 4) (k := 0) (C := RX4) (T := TX4) (N := 10) (fs := cfs 4) (v := .ref x_32) E hM m_1 k_1 (fun _ _ => rfl) rfl hin4 (by decide) (index := 9) (mm_at 20 rfl) rfl (by show some (va_rf (Oc_24 x0 0)) = some (.ref x_32); rw [o_32]; rfl) dX4_readNumber_41 ?_
        refine lv_iload_n hx hb dX4_readNumber_44 rfl (lv_at hl 3 rfl) ?_
        refine cr_bald (κ := 10) (t0 := 0) (X := i.toInt) E hM m_32 k_32 (fun _ _ => rfl) rfl rfl (by omega) dX4_readNumber_45 ?_
        refine mm_iaddU hx hb dX4_readNumber_46 (fun z_33 => ?_)
        refine lv_bipush (v := 48) hx hb dX4_readNumber_47 (by decide) ?_
        refine mm_isubU hx hb dX4_readNumber_49 (fun z_34 => ?_)
        refine lv_ldc (v := 100000) hx hb hown (hts _ (mm_at 26 rfl)) dX4_readNumber_50 ?_
        refine mm_min (X := z_34.toInt) (Y := 100000) hx hb (hml.trans hl.1.symm) hown (hts _ (mm_at 22 rfl)) (hts _ (mm_at 23 rfl)) (hts _ (mm_at 24 rfl)) (hts _ (mm_at 25 rfl)) (Nat.le_of_ble_eq_true rfl) (Nat.le_of_ble_eq_true rfl) (Nat.le_of_ble_eq_true rfl) (Nat.le_of_ble_eq_true rfl) rfl num_100000 dX4_readNumber_52 (fun z_35 hz_35 => ?_)
        refine cr_puti (κ := 4) (ci := 4) (k := 9) (C := RX4) (T := TX4) (N := 10) (fs := cfs 4) (ty := .int) (v := z_35) E hM m_1 k_1 (fun _ _ => rfl) rfl hin4 tyX4 tyX4_ok nmX4 (by decide) (index := 89) (mm_at 2 rfl) rfl (Or.inl rfl) (by decide +kernel) rfl rfl (show (9 : Nat) < 10 from by decide) (fun _ _ _ => rfl) (cz_nb rfl) (cS_upd (hM.sp m_1 k_1) (by decide) (by decide)) (Or.inr (Or.inr rfl)) dX4_readNumber_55 (fun H locs I_36 eI_36 hM => ?_)
        refine mm_iinc (X := i.toInt) (v := 1) (lv2 := fun z => [(3, .int z), (0, .ref x0), (1, .int p0), (2, .int p1)]) hx hb dX4_readNumber_58 hl (k := 3) rfl rfl (by decide) num_1 (by omega) (by decide) (fun _ => rfl) (fun z_37 ls hz_37 hl => ?_)
        have hl : lv_has ls 4 [(3, .int z_37), (0, .ref x0), (1, .int p0), (2, .int p1)] := hl
        refine lv_goto (tgt := 24) hx hb dX4_readNumber_61 (by decide) ?_
        have b_38 : 0 ≤ (I_36 x0 6).toInt ∧ (I_36 x0 6).toInt ≤ 4 := hM.ib m_1 k_1 6 rfl
        have e_39 : (I_36 x0 6).toInt = (Ic_24 x0 6).toInt := congrArg Int32.toInt (cu_k eI_36 (by decide))
        have b_40 : 0 ≤ (I_36 x0 7).toInt ∧ (I_36 x0 7).toInt ≤ 1000 := hM.ib m_1 k_1 7 rfl
        have e_41 : (I_36 x0 7).toInt = (Ic_24 x0 7).toInt := congrArg Int32.toInt (cu_k eI_36 (by decide))
        exact ih_24 _ _ _ Lc_24 Kc_24 I_36 Oc_24 z_37    (show (0 ≤ z_37.toInt ∧ z_37.toInt ≤ 1000) from by omega) (show (I_36 x0 6).toInt = 0 ∨ (I_36 x0 7).toInt ≤ 999 from by omega) (show (1000 - z_37.toInt) < ((n_24 : Nat) : Int) from by omega) hM (lv_sub hl [1, 2, 3, 0] rfl)
  refine lv_aload_n hx hb dX4_readNumber_0 rfl (lv_at hl 0 rfl) ?_
  have b_42 : 0 ≤ (I x0 6).toInt ∧ (I x0 6).toInt ≤ 4 := hM.ib mx0 kx0 6 rfl
  refine cr_get (κ := 4) (ci := 4) (k := 6) (C := RX4) (T := TX4) (N := 10) (fs := cfs 4) (v := .int (I x0 6)) E hM mx0 kx0 (fun _ _ => rfl) rfl hin4 (by decide) (index := 37) (mm_at 21 rfl) rfl rfl dX4_readNumber_1 ?_
  refine lv_iconst (v := 2) hx hb dX4_readNumber_4 (by decide) ?_
  refine mm_icmp_eq (X := (I x0 6).toInt) (Y := 2) (tgt := 14) hx hb dX4_readNumber_5 (by decide) rfl num_2 (fun c_43 => ?_) (fun c_43 => ?_)
  · refine lv_aload_n hx hb dX4_readNumber_14 rfl (lv_at hl 0 rfl) ?_
    refine lv_iconst (v := 0) hx hb dX4_readNumber_15 (by decide) ?_
    refine cr_puti (κ := 4) (ci := 4) (k := 9) (C := RX4) (T := TX4) (N := 10) (fs := cfs 4) (ty := .int) (v := 0) E hM mx0 kx0 (fun _ _ => rfl) rfl hin4 tyX4 tyX4_ok nmX4 (by decide) (index := 89) (mm_at 2 rfl) rfl (Or.inl rfl) (by decide +kernel) rfl rfl (show (9 : Nat) < 10 from by decide) (fun _ _ _ => rfl) (cz_nb rfl) (cS_upd (hM.sp mx0 kx0) (by decide) (by decide)) (Or.inr (Or.inr rfl)) dX4_readNumber_16 (fun H locs I_44 eI_44 hM => ?_)
    refine lv_aload_n hx hb dX4_readNumber_19 rfl (lv_at hl 0 rfl) ?_
    have b_45 : 0 ≤ (I_44 x0 7).toInt ∧ (I_44 x0 7).toInt ≤ 1000 := hM.ib mx0 kx0 7 rfl
    have e_46 : (I_44 x0 7).toInt = (I x0 7).toInt := congrArg Int32.toInt (cu_k eI_44 (by decide))
    refine cr_get (κ := 4) (ci := 4) (k := 7) (C := RX4) (T := TX4) (N := 10) (fs := cfs 4) (v := .int (I_44 x0 7)) E hM mx0 kx0 (fun _ _ => rfl) rfl hin4 (by decide) (index := 54) (mm_at 9 rfl) rfl rfl dX4_readNumber_20 ?_
    refine lv_istore_n (lv' := [(3, .int (I_44 x0 7)), (0, .ref x0), (1, .int p0), (2, .int p1)]) hx hb dX4_readNumber_23 rfl hl (by decide) rfl (fun ls hl => ?_)
    have b_47 : 0 ≤ (I_44 x0 6).toInt ∧ (I_44 x0 6).toInt ≤ 4 := hM.ib mx0 kx0 6 rfl
    have e_48 : (I_44 x0 6).toInt = (I x0 6).toInt := congrArg Int32.toInt (cu_k eI_44 (by decide))
    exact B_24 4294967296 _ _ _ L K I_44 O (I_44 x0 7)    (show (0 ≤ (I_44 x0 7).toInt ∧ (I_44 x0 7).toInt ≤ 1000) from by omega) (show (I_44 x0 6).toInt = 0 ∨ (I_44 x0 7).toInt ≤ 999 from by omega) (show (1000 - (I_44 x0 7).toInt) < ((4294967296 : Nat) : Int) from by omega) hM (lv_sub hl [1, 2, 3, 0] rfl)
  · refine lv_aload_n hx hb dX4_readNumber_8 rfl (lv_at hl 0 rfl) ?_
    refine lv_iconst (v := 1) hx hb dX4_readNumber_9 (by decide) ?_
    refine cc_Vi (vs := [.int 1]) (rest := []) (b := x0) (κ := 4) E hV rfl hA hml hM mx0 kx0 rfl rfl (h4_X4_fail l D cA ad av L K I O _ x0 1 hM.2.2.2.1 mx0 kx0) (cwV 1 hts gk_X4_readNumber_X4_fail_49 rfl rfl rfl (by decide +kernel) ⟨Nat.le_of_ble_eq_true rfl, Nat.le_of_ble_eq_true rfl⟩) rfl hl.1 rfl (Nat.le_of_ble_eq_true rfl) dX4_readNumber_10 ⟨show (0 + 0 : Nat) ≤ 0 from by omega, show (0 + 0 : Nat) ≤ 0 from by omega⟩ (fun _ h => by cases h) (by decide) (by decide) (fun r_50 L_52 K_52 I_52 O_52 H locs fr_52 p_51 hM => ?_)
    have m_53 := (fr_52 x0 mx0 (fun z => by cases z)).1
    have k_53 : K_52 x0 = 4 := (fr_52 x0 mx0 (fun z => by cases z)).2.1.trans kx0
    replace p_51 : r_50.toInt = 0 := p_51
    have b_54 : 0 ≤ (I_52 x0 6).toInt ∧ (I_52 x0 6).toInt ≤ 4 := hM.ib m_53 k_53 6 rfl
    have e_55 : (I_52 x0 6).toInt = (I x0 6).toInt := congrArg Int32.toInt ((fr_52 x0 mx0 (fun z => by cases z)).2.2.1 6 (by rw [kx0]; rfl))
    have b_56 : 0 ≤ (I_52 x0 7).toInt ∧ (I_52 x0 7).toInt ≤ 1000 := hM.ib m_53 k_53 7 rfl
    have e_57 : (I_52 x0 7).toInt = (I x0 7).toInt := congrArg Int32.toInt ((fr_52 x0 mx0 (fun z => by cases z)).2.2.1 7 (by rw [kx0]; rfl))
    exact cr_rz (mc := 0) (ms := 0) (X := r_50.toInt) E hr hlk hsz hM ⟨show (0 : Nat) ≤ 0 from by omega, show (0 : Nat) ≤ 0 from by omega⟩ rfl (by omega) (show (I_52 x0 6).toInt = 0 ∨ (I_52 x0 7).toInt ≤ 999 from by omega) dX4_readNumber_13
def w4X4_readLaps : List Cond := .code yX4_readLaps cX4_readLaps 2 (some .boolean) :: ([.methodLink RX4 50 yX4_readWord, .instanceMethod yX4_readWord, .selects RX4 yX4_readWord yX4_readWord, .initialized RX4, .code yX4_readWord cX4_readWord 2 (some .boolean), .methodLink RX4 107 yX4_isWord, .instanceMethod yX4_isWord, .selects RX4 yX4_isWord yX4_isWord, .code yX4_isWord cX4_isWord 3 (some .boolean), .methodLink RX4 140 yJ0_length_8abf5, .instanceMethod yJ0_length_8abf5, .selects RJ0 yJ0_length_8abf5 yJ0_length_8abf5, .initialized RJ0, .code yJ0_length_8abf5 cJ0_length_8abf5 1 (some .int), .fieldLink RJ0 9 "java/lang/String" "value" "[B", .methodLink RJ0 335 yJ0_coder_7d493, .instanceMethod yJ0_coder_7d493, .selects RJ0 yJ0_coder_7d493 yJ0_coder_7d493, .code yJ0_coder_7d493 cJ0_coder_7d493 1 (some .byte), .fieldLink RJ0 38 "java/lang/String" "COMPACT_STRINGS" "Z", .fieldLink RJ0 15 "java/lang/String" "coder" "B", .fieldLink RX4 9 "SkiShots$Reader" "text" "[B", .fieldLink RX4 54 "SkiShots$Reader" "place" "I", .methodLink RX4 145 yJ0_charAt_5068e, .instanceMethod yJ0_charAt_5068e, .selects RJ0 yJ0_charAt_5068e yJ0_charAt_5068e, .code yJ0_charAt_5068e cJ0_charAt_5068e 2 (some .char), .methodLink RJ0 492 yJ0_isLatin1_aae02, .instanceMethod yJ0_isLatin1_aae02, .selects RJ0 yJ0_isLatin1_aae02 yJ0_isLatin1_aae02, .code yJ0_isLatin1_aae02 cJ0_isLatin1_aae02 1 (some .boolean), .methodLink RJ0 495 yJ1_charAt_3b067, .static yJ1_charAt_3b067, .initialized RJ1, .code yJ1_charAt_3b067 cJ1_charAt_3b067 2 (some .char), .methodLink RJ1 9 yJ0_checkIndex_df160, .static yJ0_checkIndex_df160, .code yJ0_checkIndex_df160 cJ0_checkIndex_df160 2 none, .fieldLink RJ0 1053 "jdk/internal/util/Preconditions" "SIOOBE_FORMATTER" "Ljava/util/function/BiFunction;", .methodLink RJ0 1059 yJ3_checkIndex_8e157, .static yJ3_checkIndex_8e157, .initialized RJ3, .code yJ3_checkIndex_8e157 cJ3_checkIndex_8e157 3 (some .int), .fieldLink RX4 37 "SkiShots$Reader" "sort" "I", .fieldLink RX4 133 "SkiShots$Reader" "behind" "I", .methodLink RX4 34 yX4_step, .instanceMethod yX4_step, .selects RX4 yX4_step yX4_step, .code yX4_step cX4_step 1 none, .fieldLink RX4 21 "SkiShots$Reader" "length" "I", .methodLink RX4 149 yX4_sortAt, .instanceMethod yX4_sortAt, .selects RX4 yX4_sortAt yX4_sortAt, .code yX4_sortAt cX4_sortAt 3 (some .int), .methodLink RX4 15 Lib.Math.min.name, .static Lib.Math.min.name, .initialized "java/lang/Math", .code Lib.Math.min.name Lib.Math.min.code 2 (some .int), .methodLink RX4 44 yX4_fail, .instanceMethod yX4_fail, .selects RX4 yX4_fail yX4_fail, .code yX4_fail cX4_fail 2 (some .boolean), .fieldLink RX4 137 "SkiShots$Reader" "fault" "I", .fieldLink RX4 31 "SkiShots$Reader" "faultPlace" "I", .methodLink RX4 85 yX4_readNumber, .instanceMethod yX4_readNumber, .selects RX4 yX4_readNumber yX4_readNumber, .code yX4_readNumber cX4_readNumber 4 (some .boolean), .fieldLink RX4 89 "SkiShots$Reader" "number" "I", .constant RX4 136 (100000), .fieldLink RX4 92 "SkiShots$Format" "laps" "I"] ++ wsX20 ++ wsX40)
set_option maxRecDepth 20000 in
theorem gk_X4_readLaps_X4_readWord_1 : GoodIn w4X4_readLaps (wsV RX4 50 RX4 yX4_readWord w4X4_readWord) := goodIn_p _ [5, 9, 14, 19, 27, 31, 35, 38, 43, 49, 54, 58, 62] rfl (by decide +kernel)
set_option maxRecDepth 20000 in
theorem gk_X4_readLaps_X4_readNumber_12 : GoodIn w4X4_readLaps (wsV RX4 85 RX4 yX4_readNumber w4X4_readNumber) := goodIn_p _ [68, 62, 49, 54, 58] rfl (by decide +kernel)
set_option maxHeartbeats 4000000 in
set_option maxRecDepth 100000 in
theorem h4_X4_readLaps (l : Launch) (D : va_G) (cA : Nat → ClassId) (ad av : Nat → Nat) (L : List Nat) (K : Nat → Nat) (I : Nat → Nat → Int32) (O : Nat → Nat → Option Nat) (sz : Nat) (x0 : Nat) (p0 : Nat) (hI : cI L K I O) (mx0 : x0 ∈ L) (kx0 : K x0 = 4) (mp0 : p0 ∈ L) (kp0 : K p0 = 2) (hrp : (I x0 6).toInt = 0 ∨ (I x0 7).toInt ≤ 999) : Met l yX4_readLaps w4X4_readLaps ({ frames := 6, cells := 0, slots := 0, locals := 128 }) (cPre D cA ad av L K I O sz [.ref x0, .ref p0]) (cQi D cA L K I O sz [] [(2, 1), (4, 4), (4, 5), (4, 6), (4, 7), (4, 8), (4, 9)] [] (fun r L' K' I' O' => (I' x0 6).toInt = 0 ∨ (I' x0 7).toInt ≤ 999)) 0 0 (va_A (cW cA L K I O) sz) := by
  refine cr_met (own := RX4) (xs := []) (WI := [(2, 1), (4, 4), (4, 5), (4, 6), (4, 7), (4, 8), (4, 9)]) (WO := []) (cc := cX4_readLaps) (maxL := 2) (ret := (some .boolean)) (by decide) rfl rfl (Nat.le_of_ble_eq_true rfl) hI ?_
  intro p e s m args below meth c ls E hV hml hr hlk hname hsz hA hM hl
  have hx := E.1
  have hb := E.2.1
  have hts := E.2.2.1
  have hown := E.2.2.2.1
  have hl : lv_has ls 2 [(0, .ref x0), (1, .ref p0)] := hl
  have hin2 : ∀ w ∈ wsX20, w ∈ w4X4_readLaps := by decide +kernel
  have hin4 : ∀ w ∈ wsX40, w ∈ w4X4_readLaps := by decide +kernel
  refine lv_aload_n hx hb dX4_readLaps_0 rfl (lv_at hl 0 rfl) ?_
  refine va_ldcS (own := RX4) (q := ad 1) hx hb hown (hV.2.2.1 1 (83, "laps") rfl) dX4_readLaps_1 ?_
  have b_2 : 0 ≤ (I x0 6).toInt ∧ (I x0 6).toInt ≤ 4 := hM.ib mx0 kx0 6 rfl
  have b_3 : 0 ≤ (I x0 7).toInt ∧ (I x0 7).toInt ≤ 1000 := hM.ib mx0 kx0 7 rfl
  refine cc_Vi (vs := [.ref (ad 1)]) (rest := []) (b := x0) (κ := 4) E hV rfl hA hml hM mx0 kx0 rfl rfl (h4_X4_readWord l D cA ad av L K I O _ x0 1 hM.2.2.2.1 mx0 kx0 (by decide) (show (I x0 6).toInt = 0 ∨ (I x0 7).toInt ≤ 999 from by omega)) (cwV 1 hts gk_X4_readLaps_X4_readWord_1 rfl rfl rfl (by decide +kernel) ⟨Nat.le_of_ble_eq_true rfl, Nat.le_of_ble_eq_true rfl⟩) rfl hl.1 rfl (Nat.le_of_ble_eq_true rfl) dX4_readLaps_3 ⟨show (0 + 0 : Nat) ≤ 0 from by omega, show (0 + 0 : Nat) ≤ 0 from by omega⟩ (fun _ h => by cases h) (by decide) (by decide) (fun r_4 L_6 K_6 I_6 O_6 H locs fr_6 p_5 hM => ?_)
  have m_7 := (fr_6 x0 mx0 (fun z => by cases z)).1
  have k_7 : K_6 x0 = 4 := (fr_6 x0 mx0 (fun z => by cases z)).2.1.trans kx0
  have m_8 := (fr_6 p0 mp0 (fun z => by cases z)).1
  have k_8 : K_6 p0 = 2 := (fr_6 p0 mp0 (fun z => by cases z)).2.1.trans kp0
  replace p_5 : (I_6 x0 6).toInt = 0 ∨ (I_6 x0 7).toInt ≤ 999 := p_5
  refine mm_if_eq (X := r_4.toInt) (tgt := 19) hx hb dX4_readLaps_6 (by decide) rfl (fun c_9 => ?_) (fun c_9 => ?_)
  · refine lv_iconst (v := 0) hx hb dX4_readLaps_19 (by decide) ?_
    have b_10 : 0 ≤ (I_6 x0 6).toInt ∧ (I_6 x0 6).toInt ≤ 4 := hM.ib m_7 k_7 6 rfl
    have b_11 : 0 ≤ (I_6 x0 7).toInt ∧ (I_6 x0 7).toInt ≤ 1000 := hM.ib m_7 k_7 7 rfl
    exact cr_rz (mc := 0) (ms := 0) (X := 0) E hr hlk hsz hM ⟨show (0 : Nat) ≤ 0 from by omega, show (0 : Nat) ≤ 0 from by omega⟩ num_0 (by omega) (show (I_6 x0 6).toInt = 0 ∨ (I_6 x0 7).toInt ≤ 999 from by have n9 := num_0; omega) dX4_readLaps_20
  · refine lv_aload_n hx hb dX4_readLaps_9 rfl (lv_at hl 0 rfl) ?_
    refine lv_iconst (v := 1) hx hb dX4_readLaps_10 (by decide) ?_
    refine lv_bipush (v := 6) hx hb dX4_readLaps_11 (by decide) ?_
    have b_13 : 0 ≤ (I_6 x0 6).toInt ∧ (I_6 x0 6).toInt ≤ 4 := hM.ib m_7 k_7 6 rfl
    have b_14 : 0 ≤ (I_6 x0 7).toInt ∧ (I_6 x0 7).toInt ≤ 1000 := hM.ib m_7 k_7 7 rfl
    refine cc_Vi (vs := [.int 1, .int 6]) (rest := []) (b := x0) (κ := 4) E hV rfl hA hml hM m_7 k_7 rfl rfl (h4_X4_readNumber l D cA ad av L_6 K_6 I_6 O_6 _ x0 1 6 hM.2.2.2.1 m_7 k_7 (show (I_6 x0 6).toInt = 0 ∨ (I_6 x0 7).toInt ≤ 999 from by have n_0 := num_1; have n_1 := num_6; omega)) (cwV 2 hts gk_X4_readLaps_X4_readNumber_12 rfl rfl rfl (by decide +kernel) ⟨Nat.le_of_ble_eq_true rfl, Nat.le_of_ble_eq_true rfl⟩) rfl hl.1 rfl (Nat.le_of_ble_eq_true rfl) dX4_readLaps_13 ⟨show (0 + 0 : Nat) ≤ 0 from by omega, show (0 + 0 : Nat) ≤ 0 from by omega⟩ (fun _ h => by cases h) (by decide) (by decide) (fun r_15 L_17 K_17 I_17 O_17 H locs fr_17 p_16 hM => ?_)
    have m_18 := (fr_17 x0 m_7 (fun z => by cases z)).1
    have k_18 : K_17 x0 = 4 := (fr_17 x0 m_7 (fun z => by cases z)).2.1.trans k_7
    have m_19 := (fr_17 p0 m_8 (fun z => by cases z)).1
    have k_19 : K_17 p0 = 2 := (fr_17 p0 m_8 (fun z => by cases z)).2.1.trans k_8
    clear p_5
    replace p_16 : (I_17 x0 6).toInt = 0 ∨ (I_17 x0 7).toInt ≤ 999 := p_16
    refine mm_if_ne (X := r_15.toInt) (tgt := 21) hx hb dX4_readLaps_16 (by decide) rfl (fun c_20 => ?_) (fun c_20 => ?_)
    · refine lv_aload_n hx hb dX4_readLaps_21 rfl (lv_at hl 1 rfl) ?_
      refine lv_aload_n hx hb dX4_readLaps_22 rfl (lv_at hl 0 rfl) ?_
      refine cr_get (κ := 4) (ci := 4) (k := 9) (C := RX4) (T := TX4) (N := 10) (fs := cfs 4) (v := .int (I_17 x0 9)) E hM m_18 k_18 (fun _ _ => rfl) rfl hin4 (by decide) (index := 89) (mm_at 69 rfl) rfl rfl dX4_readLaps_23 ?_
      refine cr_puti (κ := 2) (ci := 2) (k := 1) (C := RX2) (T := TX2) (N := 8) (fs := cfs 2) (ty := .int) (v := (I_17 x0 9)) E hM m_19 k_19 (fun _ _ => rfl) rfl hin2 tyX2 tyX2_ok nmX2 (by decide) (index := 92) (mm_at 71 rfl) rfl (Or.inl rfl) (by decide +kernel) rfl rfl (show (1 : Nat) < 8 from by decide) (fun _ _ _ => rfl) (cz_nb rfl) (cS_upd (hM.sp m_19 k_19) (by decide) (by decide)) (Or.inr (Or.inr rfl)) dX4_readLaps_26 (fun H locs I_21 eI_21 hM => ?_)
      refine lv_iconst (v := 1) hx hb dX4_readLaps_29 (by decide) ?_
      have b_22 : 0 ≤ (I_21 x0 6).toInt ∧ (I_21 x0 6).toInt ≤ 4 := hM.ib m_18 k_18 6 rfl
      have e_23 : (I_21 x0 6).toInt = (I_17 x0 6).toInt := congrArg Int32.toInt (cu_k eI_21 (by decide))
      have b_24 : 0 ≤ (I_21 x0 7).toInt ∧ (I_21 x0 7).toInt ≤ 1000 := hM.ib m_18 k_18 7 rfl
      have e_25 : (I_21 x0 7).toInt = (I_17 x0 7).toInt := congrArg Int32.toInt (cu_k eI_21 (by decide))
      exact cr_rz (mc := 0) (ms := 0) (X := 1) E hr hlk hsz hM ⟨show (0 : Nat) ≤ 0 from by omega, show (0 : Nat) ≤ 0 from by omega⟩ num_1 (by omega) (show (I_21 x0 6).toInt = 0 ∨ (I_21 x0 7).toInt ≤ 999 from by have n9 := num_1; omega) dX4_readLaps_30
    · refine lv_iconst (v := 0) hx hb dX4_readLaps_19 (by decide) ?_
      have b_26 : 0 ≤ (I_17 x0 6).toInt ∧ (I_17 x0 6).toInt ≤ 4 := hM.ib m_18 k_18 6 rfl
      have b_27 : 0 ≤ (I_17 x0 7).toInt ∧ (I_17 x0 7).toInt ≤ 1000 := hM.ib m_18 k_18 7 rfl
      exact cr_rz (mc := 0) (ms := 0) (X := 0) E hr hlk hsz hM ⟨show (0 : Nat) ≤ 0 from by omega, show (0 : Nat) ≤ 0 from by omega⟩ num_0 (by omega) (show (I_17 x0 6).toInt = 0 ∨ (I_17 x0 7).toInt ≤ 999 from by have n9 := num_0; omega) dX4_readLaps_20
def w4X4_readSpares : List Cond := .code yX4_readSpares cX4_readSpares 2 (some .boolean) :: ([.methodLink RX4 50 yX4_readWord, .instanceMethod yX4_readWord, .selects RX4 yX4_readWord yX4_readWord, .initialized RX4, .code yX4_readWord cX4_readWord 2 (some .boolean), .methodLink RX4 107 yX4_isWord, .instanceMethod yX4_isWord, .selects RX4 yX4_isWord yX4_isWord, .code yX4_isWord cX4_isWord 3 (some .boolean), .methodLink RX4 140 yJ0_length_8abf5, .instanceMethod yJ0_length_8abf5, .selects RJ0 yJ0_length_8abf5 yJ0_length_8abf5, .initialized RJ0, .code yJ0_length_8abf5 cJ0_length_8abf5 1 (some .int), .fieldLink RJ0 9 "java/lang/String" "value" "[B", .methodLink RJ0 335 yJ0_coder_7d493, .instanceMethod yJ0_coder_7d493, .selects RJ0 yJ0_coder_7d493 yJ0_coder_7d493, .code yJ0_coder_7d493 cJ0_coder_7d493 1 (some .byte), .fieldLink RJ0 38 "java/lang/String" "COMPACT_STRINGS" "Z", .fieldLink RJ0 15 "java/lang/String" "coder" "B", .fieldLink RX4 9 "SkiShots$Reader" "text" "[B", .fieldLink RX4 54 "SkiShots$Reader" "place" "I", .methodLink RX4 145 yJ0_charAt_5068e, .instanceMethod yJ0_charAt_5068e, .selects RJ0 yJ0_charAt_5068e yJ0_charAt_5068e, .code yJ0_charAt_5068e cJ0_charAt_5068e 2 (some .char), .methodLink RJ0 492 yJ0_isLatin1_aae02, .instanceMethod yJ0_isLatin1_aae02, .selects RJ0 yJ0_isLatin1_aae02 yJ0_isLatin1_aae02, .code yJ0_isLatin1_aae02 cJ0_isLatin1_aae02 1 (some .boolean), .methodLink RJ0 495 yJ1_charAt_3b067, .static yJ1_charAt_3b067, .initialized RJ1, .code yJ1_charAt_3b067 cJ1_charAt_3b067 2 (some .char), .methodLink RJ1 9 yJ0_checkIndex_df160, .static yJ0_checkIndex_df160, .code yJ0_checkIndex_df160 cJ0_checkIndex_df160 2 none, .fieldLink RJ0 1053 "jdk/internal/util/Preconditions" "SIOOBE_FORMATTER" "Ljava/util/function/BiFunction;", .methodLink RJ0 1059 yJ3_checkIndex_8e157, .static yJ3_checkIndex_8e157, .initialized RJ3, .code yJ3_checkIndex_8e157 cJ3_checkIndex_8e157 3 (some .int), .fieldLink RX4 37 "SkiShots$Reader" "sort" "I", .fieldLink RX4 133 "SkiShots$Reader" "behind" "I", .methodLink RX4 34 yX4_step, .instanceMethod yX4_step, .selects RX4 yX4_step yX4_step, .code yX4_step cX4_step 1 none, .fieldLink RX4 21 "SkiShots$Reader" "length" "I", .methodLink RX4 149 yX4_sortAt, .instanceMethod yX4_sortAt, .selects RX4 yX4_sortAt yX4_sortAt, .code yX4_sortAt cX4_sortAt 3 (some .int), .methodLink RX4 15 Lib.Math.min.name, .static Lib.Math.min.name, .initialized "java/lang/Math", .code Lib.Math.min.name Lib.Math.min.code 2 (some .int), .methodLink RX4 44 yX4_fail, .instanceMethod yX4_fail, .selects RX4 yX4_fail yX4_fail, .code yX4_fail cX4_fail 2 (some .boolean), .fieldLink RX4 137 "SkiShots$Reader" "fault" "I", .fieldLink RX4 31 "SkiShots$Reader" "faultPlace" "I", .methodLink RX4 85 yX4_readNumber, .instanceMethod yX4_readNumber, .selects RX4 yX4_readNumber yX4_readNumber, .code yX4_readNumber cX4_readNumber 4 (some .boolean), .fieldLink RX4 89 "SkiShots$Reader" "number" "I", .constant RX4 136 (100000), .fieldLink RX4 101 "SkiShots$Format" "spares" "I"] ++ wsX20 ++ wsX40)
set_option maxRecDepth 20000 in
theorem gk_X4_readSpares_X4_readWord_1 : GoodIn w4X4_readSpares (wsV RX4 50 RX4 yX4_readWord w4X4_readWord) := goodIn_p _ [5, 9, 14, 19, 27, 31, 35, 38, 43, 49, 54, 58, 62] rfl (by decide +kernel)
set_option maxRecDepth 20000 in
theorem gk_X4_readSpares_X4_readNumber_12 : GoodIn w4X4_readSpares (wsV RX4 85 RX4 yX4_readNumber w4X4_readNumber) := goodIn_p _ [68, 62, 49, 54, 58] rfl (by decide +kernel)
set_option maxHeartbeats 4000000 in
set_option maxRecDepth 100000 in
theorem h4_X4_readSpares (l : Launch) (D : va_G) (cA : Nat → ClassId) (ad av : Nat → Nat) (L : List Nat) (K : Nat → Nat) (I : Nat → Nat → Int32) (O : Nat → Nat → Option Nat) (sz : Nat) (x0 : Nat) (p0 : Nat) (hI : cI L K I O) (mx0 : x0 ∈ L) (kx0 : K x0 = 4) (mp0 : p0 ∈ L) (kp0 : K p0 = 2) (hrp : (I x0 6).toInt = 0 ∨ (I x0 7).toInt ≤ 999) : Met l yX4_readSpares w4X4_readSpares ({ frames := 6, cells := 0, slots := 0, locals := 128 }) (cPre D cA ad av L K I O sz [.ref x0, .ref p0]) (cQi D cA L K I O sz [] [(2, 3), (4, 4), (4, 5), (4, 6), (4, 7), (4, 8), (4, 9)] [] (fun r L' K' I' O' => (I' x0 6).toInt = 0 ∨ (I' x0 7).toInt ≤ 999)) 0 0 (va_A (cW cA L K I O) sz) := by
  refine cr_met (own := RX4) (xs := []) (WI := [(2, 3), (4, 4), (4, 5), (4, 6), (4, 7), (4, 8), (4, 9)]) (WO := []) (cc := cX4_readSpares) (maxL := 2) (ret := (some .boolean)) (by decide) rfl rfl (Nat.le_of_ble_eq_true rfl) hI ?_
  intro p e s m args below meth c ls E hV hml hr hlk hname hsz hA hM hl
  have hx := E.1
  have hb := E.2.1
  have hts := E.2.2.1
  have hown := E.2.2.2.1
  have hl : lv_has ls 2 [(0, .ref x0), (1, .ref p0)] := hl
  have hin2 : ∀ w ∈ wsX20, w ∈ w4X4_readSpares := by decide +kernel
  have hin4 : ∀ w ∈ wsX40, w ∈ w4X4_readSpares := by decide +kernel
  refine lv_aload_n hx hb dX4_readSpares_0 rfl (lv_at hl 0 rfl) ?_
  refine va_ldcS (own := RX4) (q := ad 3) hx hb hown (hV.2.2.1 3 (99, "spares") rfl) dX4_readSpares_1 ?_
  have b_2 : 0 ≤ (I x0 6).toInt ∧ (I x0 6).toInt ≤ 4 := hM.ib mx0 kx0 6 rfl
  have b_3 : 0 ≤ (I x0 7).toInt ∧ (I x0 7).toInt ≤ 1000 := hM.ib mx0 kx0 7 rfl
  refine cc_Vi (vs := [.ref (ad 3)]) (rest := []) (b := x0) (κ := 4) E hV rfl hA hml hM mx0 kx0 rfl rfl (h4_X4_readWord l D cA ad av L K I O _ x0 3 hM.2.2.2.1 mx0 kx0 (by decide) (show (I x0 6).toInt = 0 ∨ (I x0 7).toInt ≤ 999 from by omega)) (cwV 1 hts gk_X4_readSpares_X4_readWord_1 rfl rfl rfl (by decide +kernel) ⟨Nat.le_of_ble_eq_true rfl, Nat.le_of_ble_eq_true rfl⟩) rfl hl.1 rfl (Nat.le_of_ble_eq_true rfl) dX4_readSpares_3 ⟨show (0 + 0 : Nat) ≤ 0 from by omega, show (0 + 0 : Nat) ≤ 0 from by omega⟩ (fun _ h => by cases h) (by decide) (by decide) (fun r_4 L_6 K_6 I_6 O_6 H locs fr_6 p_5 hM => ?_)
  have m_7 := (fr_6 x0 mx0 (fun z => by cases z)).1
  have k_7 : K_6 x0 = 4 := (fr_6 x0 mx0 (fun z => by cases z)).2.1.trans kx0
  have m_8 := (fr_6 p0 mp0 (fun z => by cases z)).1
  have k_8 : K_6 p0 = 2 := (fr_6 p0 mp0 (fun z => by cases z)).2.1.trans kp0
  replace p_5 : (I_6 x0 6).toInt = 0 ∨ (I_6 x0 7).toInt ≤ 999 := p_5
  refine mm_if_eq (X := r_4.toInt) (tgt := 18) hx hb dX4_readSpares_6 (by decide) rfl (fun c_9 => ?_) (fun c_9 => ?_)
  · refine lv_iconst (v := 0) hx hb dX4_readSpares_18 (by decide) ?_
    have b_10 : 0 ≤ (I_6 x0 6).toInt ∧ (I_6 x0 6).toInt ≤ 4 := hM.ib m_7 k_7 6 rfl
    have b_11 : 0 ≤ (I_6 x0 7).toInt ∧ (I_6 x0 7).toInt ≤ 1000 := hM.ib m_7 k_7 7 rfl
    exact cr_rz (mc := 0) (ms := 0) (X := 0) E hr hlk hsz hM ⟨show (0 : Nat) ≤ 0 from by omega, show (0 : Nat) ≤ 0 from by omega⟩ num_0 (by omega) (show (I_6 x0 6).toInt = 0 ∨ (I_6 x0 7).toInt ≤ 999 from by have n9 := num_0; omega) dX4_readSpares_19
  · refine lv_aload_n hx hb dX4_readSpares_9 rfl (lv_at hl 0 rfl) ?_
    refine lv_iconst (v := 0) hx hb dX4_readSpares_10 (by decide) ?_
    refine lv_iconst (v := 3) hx hb dX4_readSpares_11 (by decide) ?_
    have b_13 : 0 ≤ (I_6 x0 6).toInt ∧ (I_6 x0 6).toInt ≤ 4 := hM.ib m_7 k_7 6 rfl
    have b_14 : 0 ≤ (I_6 x0 7).toInt ∧ (I_6 x0 7).toInt ≤ 1000 := hM.ib m_7 k_7 7 rfl
    refine cc_Vi (vs := [.int 0, .int 3]) (rest := []) (b := x0) (κ := 4) E hV rfl hA hml hM m_7 k_7 rfl rfl (h4_X4_readNumber l D cA ad av L_6 K_6 I_6 O_6 _ x0 0 3 hM.2.2.2.1 m_7 k_7 (show (I_6 x0 6).toInt = 0 ∨ (I_6 x0 7).toInt ≤ 999 from by have n_0 := num_0; have n_1 := num_3; omega)) (cwV 2 hts gk_X4_readSpares_X4_readNumber_12 rfl rfl rfl (by decide +kernel) ⟨Nat.le_of_ble_eq_true rfl, Nat.le_of_ble_eq_true rfl⟩) rfl hl.1 rfl (Nat.le_of_ble_eq_true rfl) dX4_readSpares_12 ⟨show (0 + 0 : Nat) ≤ 0 from by omega, show (0 + 0 : Nat) ≤ 0 from by omega⟩ (fun _ h => by cases h) (by decide) (by decide) (fun r_15 L_17 K_17 I_17 O_17 H locs fr_17 p_16 hM => ?_)
    have m_18 := (fr_17 x0 m_7 (fun z => by cases z)).1
    have k_18 : K_17 x0 = 4 := (fr_17 x0 m_7 (fun z => by cases z)).2.1.trans k_7
    have m_19 := (fr_17 p0 m_8 (fun z => by cases z)).1
    have k_19 : K_17 p0 = 2 := (fr_17 p0 m_8 (fun z => by cases z)).2.1.trans k_8
    clear p_5
    replace p_16 : (I_17 x0 6).toInt = 0 ∨ (I_17 x0 7).toInt ≤ 999 := p_16
    refine mm_if_ne (X := r_15.toInt) (tgt := 20) hx hb dX4_readSpares_15 (by decide) rfl (fun c_20 => ?_) (fun c_20 => ?_)
    · refine lv_aload_n hx hb dX4_readSpares_20 rfl (lv_at hl 1 rfl) ?_
      refine lv_aload_n hx hb dX4_readSpares_21 rfl (lv_at hl 0 rfl) ?_
      refine cr_get (κ := 4) (ci := 4) (k := 9) (C := RX4) (T := TX4) (N := 10) (fs := cfs 4) (v := .int (I_17 x0 9)) E hM m_18 k_18 (fun _ _ => rfl) rfl hin4 (by decide) (index := 89) (mm_at 69 rfl) rfl rfl dX4_readSpares_22 ?_
      refine cr_puti (κ := 2) (ci := 2) (k := 3) (C := RX2) (T := TX2) (N := 8) (fs := cfs 2) (ty := .int) (v := (I_17 x0 9)) E hM m_19 k_19 (fun _ _ => rfl) rfl hin2 tyX2 tyX2_ok nmX2 (by decide) (index := 101) (mm_at 71 rfl) rfl (Or.inl rfl) (by decide +kernel) rfl rfl (show (3 : Nat) < 8 from by decide) (fun _ _ _ => rfl) (cz_nb rfl) (cS_upd (hM.sp m_19 k_19) (by decide) (by decide)) (Or.inr (Or.inr rfl)) dX4_readSpares_25 (fun H locs I_21 eI_21 hM => ?_)
      refine lv_iconst (v := 1) hx hb dX4_readSpares_28 (by decide) ?_
      have b_22 : 0 ≤ (I_21 x0 6).toInt ∧ (I_21 x0 6).toInt ≤ 4 := hM.ib m_18 k_18 6 rfl
      have e_23 : (I_21 x0 6).toInt = (I_17 x0 6).toInt := congrArg Int32.toInt (cu_k eI_21 (by decide))
      have b_24 : 0 ≤ (I_21 x0 7).toInt ∧ (I_21 x0 7).toInt ≤ 1000 := hM.ib m_18 k_18 7 rfl
      have e_25 : (I_21 x0 7).toInt = (I_17 x0 7).toInt := congrArg Int32.toInt (cu_k eI_21 (by decide))
      exact cr_rz (mc := 0) (ms := 0) (X := 1) E hr hlk hsz hM ⟨show (0 : Nat) ≤ 0 from by omega, show (0 : Nat) ≤ 0 from by omega⟩ num_1 (by omega) (show (I_21 x0 6).toInt = 0 ∨ (I_21 x0 7).toInt ≤ 999 from by have n9 := num_1; omega) dX4_readSpares_29
    · refine lv_iconst (v := 0) hx hb dX4_readSpares_18 (by decide) ?_
      have b_26 : 0 ≤ (I_17 x0 6).toInt ∧ (I_17 x0 6).toInt ≤ 4 := hM.ib m_18 k_18 6 rfl
      have b_27 : 0 ≤ (I_17 x0 7).toInt ∧ (I_17 x0 7).toInt ≤ 1000 := hM.ib m_18 k_18 7 rfl
      exact cr_rz (mc := 0) (ms := 0) (X := 0) E hr hlk hsz hM ⟨show (0 : Nat) ≤ 0 from by omega, show (0 : Nat) ≤ 0 from by omega⟩ num_0 (by omega) (show (I_17 x0 6).toInt = 0 ∨ (I_17 x0 7).toInt ≤ 999 from by have n9 := num_0; omega) dX4_readSpares_19
def w4X4_readShootings : List Cond := .code yX4_readShootings cX4_readShootings 4 (some .boolean) :: ([.fieldLink RX4 37 "SkiShots$Reader" "sort" "I", .methodLink RX4 44 yX4_fail, .instanceMethod yX4_fail, .selects RX4 yX4_fail yX4_fail, .initialized RX4, .code yX4_fail cX4_fail 2 (some .boolean), .fieldLink RX4 137 "SkiShots$Reader" "fault" "I", .fieldLink RX4 54 "SkiShots$Reader" "place" "I", .fieldLink RX4 31 "SkiShots$Reader" "faultPlace" "I", .fieldLink RX4 92 "SkiShots$Format" "laps" "I", .methodLink RX4 85 yX4_readNumber, .instanceMethod yX4_readNumber, .selects RX4 yX4_readNumber yX4_readNumber, .code yX4_readNumber cX4_readNumber 4 (some .boolean), .fieldLink RX4 133 "SkiShots$Reader" "behind" "I", .fieldLink RX4 89 "SkiShots$Reader" "number" "I", .methodLink RX4 34 yX4_step, .instanceMethod yX4_step, .selects RX4 yX4_step yX4_step, .code yX4_step cX4_step 1 none, .fieldLink RX4 21 "SkiShots$Reader" "length" "I", .methodLink RX4 149 yX4_sortAt, .instanceMethod yX4_sortAt, .selects RX4 yX4_sortAt yX4_sortAt, .code yX4_sortAt cX4_sortAt 3 (some .int), .fieldLink RX4 9 "SkiShots$Reader" "text" "[B", .methodLink RX4 15 Lib.Math.min.name, .static Lib.Math.min.name, .initialized "java/lang/Math", .code Lib.Math.min.name Lib.Math.min.code 2 (some .int), .constant RX4 136 (100000), .fieldLink RX4 96 "SkiShots$Format" "shootings" "I", .methodLink RX4 50 yX4_readWord, .instanceMethod yX4_readWord, .selects RX4 yX4_readWord yX4_readWord, .code yX4_readWord cX4_readWord 2 (some .boolean), .methodLink RX4 107 yX4_isWord, .instanceMethod yX4_isWord, .selects RX4 yX4_isWord yX4_isWord, .code yX4_isWord cX4_isWord 3 (some .boolean), .methodLink RX4 140 yJ0_length_8abf5, .instanceMethod yJ0_length_8abf5, .selects RJ0 yJ0_length_8abf5 yJ0_length_8abf5, .initialized RJ0, .code yJ0_length_8abf5 cJ0_length_8abf5 1 (some .int), .fieldLink RJ0 9 "java/lang/String" "value" "[B", .methodLink RJ0 335 yJ0_coder_7d493, .instanceMethod yJ0_coder_7d493, .selects RJ0 yJ0_coder_7d493 yJ0_coder_7d493, .code yJ0_coder_7d493 cJ0_coder_7d493 1 (some .byte), .fieldLink RJ0 38 "java/lang/String" "COMPACT_STRINGS" "Z", .fieldLink RJ0 15 "java/lang/String" "coder" "B", .methodLink RX4 145 yJ0_charAt_5068e, .instanceMethod yJ0_charAt_5068e, .selects RJ0 yJ0_charAt_5068e yJ0_charAt_5068e, .code yJ0_charAt_5068e cJ0_charAt_5068e 2 (some .char), .methodLink RJ0 492 yJ0_isLatin1_aae02, .instanceMethod yJ0_isLatin1_aae02, .selects RJ0 yJ0_isLatin1_aae02 yJ0_isLatin1_aae02, .code yJ0_isLatin1_aae02 cJ0_isLatin1_aae02 1 (some .boolean), .methodLink RJ0 495 yJ1_charAt_3b067, .static yJ1_charAt_3b067, .initialized RJ1, .code yJ1_charAt_3b067 cJ1_charAt_3b067 2 (some .char), .methodLink RJ1 9 yJ0_checkIndex_df160, .static yJ0_checkIndex_df160, .code yJ0_checkIndex_df160 cJ0_checkIndex_df160 2 none, .fieldLink RJ0 1053 "jdk/internal/util/Preconditions" "SIOOBE_FORMATTER" "Ljava/util/function/BiFunction;", .methodLink RJ0 1059 yJ3_checkIndex_8e157, .static yJ3_checkIndex_8e157, .initialized RJ3, .code yJ3_checkIndex_8e157 cJ3_checkIndex_8e157 3 (some .int)] ++ wsX20 ++ wsX40)
set_option maxRecDepth 20000 in
theorem gk_X4_readShootings_X4_fail_7 : GoodIn w4X4_readShootings (wsV RX4 44 RX4 yX4_fail w4X4_fail) := goodIn_p _ [6] rfl (by decide +kernel)
set_option maxRecDepth 20000 in
theorem gk_X4_readShootings_X4_readNumber_21 : GoodIn w4X4_readShootings (wsV RX4 85 RX4 yX4_readNumber w4X4_readNumber) := goodIn_p _ [14, 6, 20, 25, 30] rfl (by decide +kernel)
set_option maxRecDepth 20000 in
theorem gk_X4_readShootings_X4_fail_45 : GoodIn w4X4_readShootings (wsV RX4 44 RX4 yX4_fail w4X4_fail) := goodIn_p _ [6] rfl (by decide +kernel)
set_option maxRecDepth 20000 in
theorem gk_X4_readShootings_X4_readNumber_58 : GoodIn w4X4_readShootings (wsV RX4 85 RX4 yX4_readNumber w4X4_readNumber) := goodIn_p _ [14, 6, 20, 25, 30] rfl (by decide +kernel)
set_option maxRecDepth 20000 in
theorem gk_X4_readShootings_X4_readWord_77 : GoodIn w4X4_readShootings (wsV RX4 50 RX4 yX4_readWord w4X4_readWord) := goodIn_p _ [36, 40, 45, 50, 56, 60, 64, 67, 72, 20, 25, 30, 6] rfl (by decide +kernel)
set_option maxHeartbeats 4000000 in
set_option maxRecDepth 100000 in
theorem h4_X4_readShootings (l : Launch) (D : va_G) (cA : Nat → ClassId) (ad av : Nat → Nat) (L : List Nat) (K : Nat → Nat) (I : Nat → Nat → Int32) (O : Nat → Nat → Option Nat) (sz : Nat) (x0 : Nat) (p0 : Nat) (hI : cI L K I O) (mx0 : x0 ∈ L) (kx0 : K x0 = 4) (mp0 : p0 ∈ L) (kp0 : K p0 = 2) (hrp : (I x0 6).toInt = 0 ∨ (I x0 7).toInt ≤ 999) : Met l yX4_readShootings w4X4_readShootings ({ frames := 6, cells := 0, slots := 0, locals := 128 }) (cPre D cA ad av L K I O sz [.ref x0, .ref p0]) (cQi D cA L K I O sz [] [(2, 2), (4, 4), (4, 5), (4, 6), (4, 7), (4, 8), (4, 9)] [] (fun r L' K' I' O' => (I' x0 6).toInt = 0 ∨ (I' x0 7).toInt ≤ 999)) 0 0 (va_A (cW cA L K I O) sz) := by
  refine cr_met (own := RX4) (xs := []) (WI := [(2, 2), (4, 4), (4, 5), (4, 6), (4, 7), (4, 8), (4, 9)]) (WO := []) (cc := cX4_readShootings) (maxL := 4) (ret := (some .boolean)) (by decide) rfl rfl (Nat.le_of_ble_eq_true rfl) hI ?_
  intro p e s m args below meth c ls E hV hml hr hlk hname hsz hA hM hl
  have hx := E.1
  have hb := E.2.1
  have hts := E.2.2.1
  have hown := E.2.2.2.1
  have hl : lv_has ls 4 [(0, .ref x0), (1, .ref p0)] := hl
  have hin2 : ∀ w ∈ wsX20, w ∈ w4X4_readShootings := by decide +kernel
  have hin4 : ∀ w ∈ wsX40, w ∈ w4X4_readShootings := by decide +kernel
  have B_15 : ∀ n_15 : Nat, ∀ (H : Heap) (locs : List Loc) (ls : Array Slot) (Lc_15 : List Nat) (Kc_15 : Nat → Nat) (Ic_15 : Nat → Nat → Int32) (Oc_15 : Nat → Nat → Option Nat) (le i : Int32), (0 ≤ i.toInt ∧ i.toInt ≤ 4) → (Ic_15 x0 6).toInt = 0 ∨ (Ic_15 x0 7).toInt ≤ 999 → (4 - i.toInt) < (n_15 : Int) → cQ D cA (va_A (cW cA L K I O) sz) s.heap [] [(2, 2), (4, 4), (4, 5), (4, 6), (4, 7), (4, 8), (4, 9)] [] L K I O H locs Lc_15 Kc_15 Ic_15 Oc_15 → lv_has ls 4 [(0, .ref x0), (1, .ref p0), (2, .int le), (3, .int i)] → W p l e ({ frames := 6, cells := 0, slots := 0, locals := 128 }) s m args below meth c H locs 0 0 (MQ below (cQi D cA L K I O sz [] [(2, 2), (4, 4), (4, 5), (4, 6), (4, 7), (4, 8), (4, 9)] [] (fun r L' K' I' O' => (I' x0 6).toInt = 0 ∨ (I' x0 7).toInt ≤ 999)) args s 0 0 (va_A (cW cA L K I O) sz)) (F0 m 15 ls []) := by
    intro n_15
    induction n_15 with
    | zero => intro H locs ls Lc_15 Kc_15 Ic_15 Oc_15 le i f15_0 f15_1 hn hM hl; exact False.elim (by omega)
    | succ n_15 ih_15 =>
      intro H locs ls Lc_15 Kc_15 Ic_15 Oc_15 le i f15_0 f15_1 hn hM hl
      have hfr_15 := hM.2.2.2.2
      have m_1 := (hfr_15 x0 mx0 (fun z => by cases z)).1
      have k_1 : Kc_15 x0 = 4 := (hfr_15 x0 mx0 (fun z => by cases z)).2.1.trans kx0
      have m_2 := (hfr_15 p0 mp0 (fun z => by cases z)).1
      have k_2 : Kc_15 p0 = 2 := (hfr_15 p0 mp0 (fun z => by cases z)).2.1.trans kp0
      refine lv_iload_n hx hb dX4_readShootings_15 rfl (lv_at hl 3 rfl) ?_
      refine lv_iconst (v := 4) hx hb dX4_readShootings_16 (by decide) ?_
      refine mm_icmp_ge (X := i.toInt) (Y := 4) (tgt := 71) hx hb dX4_readShootings_17 (by decide) rfl num_4 (fun c_3 => ?_) (fun c_3 => ?_)
      · refine lv_aload_n hx hb dX4_readShootings_71 rfl (lv_at hl 0 rfl) ?_
        have b_4 : 0 ≤ (Ic_15 x0 6).toInt ∧ (Ic_15 x0 6).toInt ≤ 4 := hM.ib m_1 k_1 6 rfl
        refine cr_get (κ := 4) (ci := 4) (k := 6) (C := RX4) (T := TX4) (N := 10) (fs := cfs 4) (v := .int (Ic_15 x0 6)) E hM m_1 k_1 (fun _ _ => rfl) rfl hin4 (by decide) (index := 37) (mm_at 1 rfl) rfl rfl dX4_readShootings_72 ?_
        refine lv_iconst (v := 2) hx hb dX4_readShootings_75 (by decide) ?_
        refine mm_icmp_ne (X := (Ic_15 x0 6).toInt) (Y := 2) (tgt := 87) hx hb dX4_readShootings_76 (by decide) rfl num_2 (fun c_5 => ?_) (fun c_5 => ?_)
        · refine lv_iconst (v := 1) hx hb dX4_readShootings_87 (by decide) ?_
          refine lv_goto (tgt := 92) hx hb dX4_readShootings_88 (by decide) ?_
          have b_6 : 0 ≤ (Ic_15 x0 7).toInt ∧ (Ic_15 x0 7).toInt ≤ 1000 := hM.ib m_1 k_1 7 rfl
          exact cr_rz (mc := 0) (ms := 0) (X := 1) E hr hlk hsz hM ⟨show (0 : Nat) ≤ 0 from by omega, show (0 : Nat) ≤ 0 from by omega⟩ num_1 (by omega) (show (Ic_15 x0 6).toInt = 0 ∨ (Ic_15 x0 7).toInt ≤ 999 from by have n9 := num_1; omega) dX4_readShootings_92
        · refine lv_aload_n hx hb dX4_readShootings_79 rfl (lv_at hl 0 rfl) ?_
          refine lv_iconst (v := 2) hx hb dX4_readShootings_80 (by decide) ?_
          refine cc_Vi (vs := [.int 2]) (rest := []) (b := x0) (κ := 4) E hV rfl hA hml hM m_1 k_1 rfl rfl (h4_X4_fail l D cA ad av Lc_15 Kc_15 Ic_15 Oc_15 _ x0 2 hM.2.2.2.1 m_1 k_1) (cwV 1 hts gk_X4_readShootings_X4_fail_7 rfl rfl rfl (by decide +kernel) ⟨Nat.le_of_ble_eq_true rfl, Nat.le_of_ble_eq_true rfl⟩) rfl hl.1 rfl (Nat.le_of_ble_eq_true rfl) dX4_readShootings_81 ⟨show (0 + 0 : Nat) ≤ 0 from by omega, show (0 + 0 : Nat) ≤ 0 from by omega⟩ (fun _ h => by cases h) (by decide) (by decide) (fun r_8 L_10 K_10 I_10 O_10 H locs fr_10 p_9 hM => ?_)
          have m_11 := (fr_10 x0 m_1 (fun z => by cases z)).1
          have k_11 : K_10 x0 = 4 := (fr_10 x0 m_1 (fun z => by cases z)).2.1.trans k_1
          have m_12 := (fr_10 p0 m_2 (fun z => by cases z)).1
          have k_12 : K_10 p0 = 2 := (fr_10 p0 m_2 (fun z => by cases z)).2.1.trans k_2
          replace p_9 : r_8.toInt = 0 := p_9
          refine mm_if_eq (X := r_8.toInt) (tgt := 91) hx hb dX4_readShootings_84 (by decide) rfl (fun c_13 => ?_) (fun c_13 => False.elim (by omega))
          refine lv_iconst (v := 0) hx hb dX4_readShootings_91 (by decide) ?_
          have b_14 : 0 ≤ (I_10 x0 6).toInt ∧ (I_10 x0 6).toInt ≤ 4 := hM.ib m_11 k_11 6 rfl
          have e_15 : (I_10 x0 6).toInt = (Ic_15 x0 6).toInt := congrArg Int32.toInt ((fr_10 x0 m_1 (fun z => by cases z)).2.2.1 6 (by rw [k_1]; rfl))
          have b_16 : 0 ≤ (I_10 x0 7).toInt ∧ (I_10 x0 7).toInt ≤ 1000 := hM.ib m_11 k_11 7 rfl
          have e_17 : (I_10 x0 7).toInt = (Ic_15 x0 7).toInt := congrArg Int32.toInt ((fr_10 x0 m_1 (fun z => by cases z)).2.2.1 7 (by rw [k_1]; rfl))
          exact cr_rz (mc := 0) (ms := 0) (X := 0) E hr hlk hsz hM ⟨show (0 : Nat) ≤ 0 from by omega, show (0 : Nat) ≤ 0 from by omega⟩ num_0 (by omega) (show (I_10 x0 6).toInt = 0 ∨ (I_10 x0 7).toInt ≤ 999 from by have n9 := num_0; omega) dX4_readShootings_92
      · refine lv_iload_n hx hb dX4_readShootings_20 rfl (lv_at hl 3 rfl) ?_
        refine mm_if_eq (X := i.toInt) (tgt := 32) hx hb dX4_readShootings_21 (by decide) rfl (fun c_18 => ?_) (fun c_18 => ?_)
        · refine lv_aload_n hx hb dX4_readShootings_32 rfl (lv_at hl 0 rfl) ?_
          refine lv_iload_n hx hb dX4_readShootings_33 rfl (lv_at hl 2 rfl) ?_
          refine lv_aload_n hx hb dX4_readShootings_34 rfl (lv_at hl 1 rfl) ?_
          have e_19 : (Ic_15 p0 1).toInt = (I p0 1).toInt := congrArg Int32.toInt ((hfr_15 p0 mp0 (fun z => by cases z)).2.2.1 1 (by rw [kp0]; rfl))
          refine cr_get (κ := 2) (ci := 2) (k := 1) (C := RX2) (T := TX2) (N := 8) (fs := cfs 2) (v := .int (Ic_15 p0 1)) E hM m_2 k_2 (fun _ _ => rfl) rfl hin2 (by decide) (index := 92) (mm_at 10 rfl) rfl rfl dX4_readShootings_35 ?_
          refine lv_iconst (v := 1) hx hb dX4_readShootings_38 (by decide) ?_
          refine mm_isubU hx hb dX4_readShootings_39 (fun z_20 => ?_)
          have b_22 : 0 ≤ (Ic_15 x0 6).toInt ∧ (Ic_15 x0 6).toInt ≤ 4 := hM.ib m_1 k_1 6 rfl
          have b_23 : 0 ≤ (Ic_15 x0 7).toInt ∧ (Ic_15 x0 7).toInt ≤ 1000 := hM.ib m_1 k_1 7 rfl
          refine cc_Vi (vs := [.int le, .int z_20]) (rest := []) (b := x0) (κ := 4) E hV rfl hA hml hM m_1 k_1 rfl rfl (h4_X4_readNumber l D cA ad av Lc_15 Kc_15 Ic_15 Oc_15 _ x0 le z_20 hM.2.2.2.1 m_1 k_1 (show (Ic_15 x0 6).toInt = 0 ∨ (Ic_15 x0 7).toInt ≤ 999 from by omega)) (cwV 2 hts gk_X4_readShootings_X4_readNumber_21 rfl rfl rfl (by decide +kernel) ⟨Nat.le_of_ble_eq_true rfl, Nat.le_of_ble_eq_true rfl⟩) rfl hl.1 rfl (Nat.le_of_ble_eq_true rfl) dX4_readShootings_40 ⟨show (0 + 0 : Nat) ≤ 0 from by omega, show (0 + 0 : Nat) ≤ 0 from by omega⟩ (fun _ h => by cases h) (by decide) (by decide) (fun r_24 L_26 K_26 I_26 O_26 H locs fr_26 p_25 hM => ?_)
          have m_27 := (fr_26 x0 m_1 (fun z => by cases z)).1
          have k_27 : K_26 x0 = 4 := (fr_26 x0 m_1 (fun z => by cases z)).2.1.trans k_1
          have m_28 := (fr_26 p0 m_2 (fun z => by cases z)).1
          have k_28 : K_26 p0 = 2 := (fr_26 p0 m_2 (fun z => by cases z)).2.1.trans k_2
          replace p_25 : (I_26 x0 6).toInt = 0 ∨ (I_26 x0 7).toInt ≤ 999 := p_25
          refine mm_if_ne (X := r_24.toInt) (tgt := 48) hx hb dX4_readShootings_43 (by decide) rfl (fun c_29 => ?_) (fun c_29 => ?_)
          · refine lv_aload_n hx hb dX4_readShootings_48 rfl (lv_at hl 0 rfl) ?_
            refine cr_get (κ := 4) (ci := 4) (k := 9) (C := RX4) (T := TX4) (N := 10) (fs := cfs 4) (v := .int (I_26 x0 9)) E hM m_27 k_27 (fun _ _ => rfl) rfl hin4 (by decide) (index := 89) (mm_at 16 rfl) rfl rfl dX4_readShootings_49 ?_
            refine lv_iconst (v := 1) hx hb dX4_readShootings_52 (by decide) ?_
            refine mm_iaddU hx hb dX4_readShootings_53 (fun z_30 => ?_)
            refine lv_istore_n (lv' := [(2, .int z_30), (0, .ref x0), (1, .ref p0), (3, .int i)]) hx hb dX4_readShootings_54 rfl hl (by decide) rfl (fun ls hl => ?_)
            refine lv_aload_n hx hb dX4_readShootings_55 rfl (lv_at hl 2 rfl) ?_
            refine lv_dup hx hb dX4_readShootings_56 rfl ?_
            have e_31 : (I_26 p0 2).toInt = (Ic_15 p0 2).toInt := congrArg Int32.toInt ((fr_26 p0 m_2 (fun z => by cases z)).2.2.1 2 (by rw [k_2]; rfl))
            refine cr_get (κ := 2) (ci := 2) (k := 2) (C := RX2) (T := TX2) (N := 8) (fs := cfs 2) (v := .int (I_26 p0 2)) E hM m_28 k_28 (fun _ _ => rfl) rfl hin2 (by decide) (index := 96) (mm_at 32 rfl) rfl rfl dX4_readShootings_57 ?_
            refine lv_iconst (v := 1) hx hb dX4_readShootings_60 (by decide) ?_
            refine mm_iaddU hx hb dX4_readShootings_61 (fun z_32 => ?_)
            refine cr_puti (κ := 2) (ci := 2) (k := 2) (C := RX2) (T := TX2) (N := 8) (fs := cfs 2) (ty := .int) (v := z_32) E hM m_28 k_28 (fun _ _ => rfl) rfl hin2 tyX2 tyX2_ok nmX2 (by decide) (index := 96) (mm_at 32 rfl) rfl (Or.inl rfl) (by decide +kernel) rfl rfl (show (2 : Nat) < 8 from by decide) (fun _ _ _ => rfl) (cz_nb rfl) (cS_upd (hM.sp m_28 k_28) (by decide) (by decide)) (Or.inr (Or.inr rfl)) dX4_readShootings_62 (fun H locs I_33 eI_33 hM => ?_)
            refine mm_iinc (X := i.toInt) (v := 1) (lv2 := fun z => [(3, .int z), (2, .int z_30), (0, .ref x0), (1, .ref p0)]) hx hb dX4_readShootings_65 hl (k := 3) rfl rfl (by decide) num_1 (by omega) (by decide) (fun _ => rfl) (fun z_34 ls hz_34 hl => ?_)
            have hl : lv_has ls 4 [(3, .int z_34), (2, .int z_30), (0, .ref x0), (1, .ref p0)] := hl
            refine lv_goto (tgt := 15) hx hb dX4_readShootings_68 (by decide) ?_
            have b_35 : 0 ≤ (I_33 x0 6).toInt ∧ (I_33 x0 6).toInt ≤ 4 := hM.ib m_27 k_27 6 rfl
            have e_36 : (I_33 x0 6).toInt = (I_26 x0 6).toInt := congrArg Int32.toInt (cu_k eI_33 (by decide))
            have b_37 : 0 ≤ (I_33 x0 7).toInt ∧ (I_33 x0 7).toInt ≤ 1000 := hM.ib m_27 k_27 7 rfl
            have e_38 : (I_33 x0 7).toInt = (I_26 x0 7).toInt := congrArg Int32.toInt (cu_k eI_33 (by decide))
            exact ih_15 _ _ _ L_26 K_26 I_33 O_26 z_30 z_34    (show (0 ≤ z_34.toInt ∧ z_34.toInt ≤ 4) from by omega) (show (I_33 x0 6).toInt = 0 ∨ (I_33 x0 7).toInt ≤ 999 from by omega) (show (4 - z_34.toInt) < ((n_15 : Nat) : Int) from by omega) hM (lv_sub hl [2, 3, 1, 0] rfl)
          · refine lv_iconst (v := 0) hx hb dX4_readShootings_46 (by decide) ?_
            have b_39 : 0 ≤ (I_26 x0 6).toInt ∧ (I_26 x0 6).toInt ≤ 4 := hM.ib m_27 k_27 6 rfl
            have b_40 : 0 ≤ (I_26 x0 7).toInt ∧ (I_26 x0 7).toInt ≤ 1000 := hM.ib m_27 k_27 7 rfl
            exact cr_rz (mc := 0) (ms := 0) (X := 0) E hr hlk hsz hM ⟨show (0 : Nat) ≤ 0 from by omega, show (0 : Nat) ≤ 0 from by omega⟩ num_0 (by omega) (show (I_26 x0 6).toInt = 0 ∨ (I_26 x0 7).toInt ≤ 999 from by have n9 := num_0; omega) dX4_readShootings_47
        · refine lv_aload_n hx hb dX4_readShootings_24 rfl (lv_at hl 0 rfl) ?_
          have b_41 : 0 ≤ (Ic_15 x0 6).toInt ∧ (Ic_15 x0 6).toInt ≤ 4 := hM.ib m_1 k_1 6 rfl
          refine cr_get (κ := 4) (ci := 4) (k := 6) (C := RX4) (T := TX4) (N := 10) (fs := cfs 4) (v := .int (Ic_15 x0 6)) E hM m_1 k_1 (fun _ _ => rfl) rfl hin4 (by decide) (index := 37) (mm_at 1 rfl) rfl rfl dX4_readShootings_25 ?_
          refine lv_iconst (v := 2) hx hb dX4_readShootings_28 (by decide) ?_
          refine mm_icmp_ne (X := (Ic_15 x0 6).toInt) (Y := 2) (tgt := 71) hx hb dX4_readShootings_29 (by decide) rfl num_2 (fun c_42 => ?_) (fun c_42 => ?_)
          · refine lv_aload_n hx hb dX4_readShootings_71 rfl (lv_at hl 0 rfl) ?_
            refine cr_get (κ := 4) (ci := 4) (k := 6) (C := RX4) (T := TX4) (N := 10) (fs := cfs 4) (v := .int (Ic_15 x0 6)) E hM m_1 k_1 (fun _ _ => rfl) rfl hin4 (by decide) (index := 37) (mm_at 1 rfl) rfl rfl dX4_readShootings_72 ?_
            refine lv_iconst (v := 2) hx hb dX4_readShootings_75 (by decide) ?_
            refine mm_icmp_ne (X := (Ic_15 x0 6).toInt) (Y := 2) (tgt := 87) hx hb dX4_readShootings_76 (by decide) rfl num_2 (fun c_43 => ?_) (fun c_43 => ?_)
            · refine lv_iconst (v := 1) hx hb dX4_readShootings_87 (by decide) ?_
              refine lv_goto (tgt := 92) hx hb dX4_readShootings_88 (by decide) ?_
              have b_44 : 0 ≤ (Ic_15 x0 7).toInt ∧ (Ic_15 x0 7).toInt ≤ 1000 := hM.ib m_1 k_1 7 rfl
              exact cr_rz (mc := 0) (ms := 0) (X := 1) E hr hlk hsz hM ⟨show (0 : Nat) ≤ 0 from by omega, show (0 : Nat) ≤ 0 from by omega⟩ num_1 (by omega) (show (Ic_15 x0 6).toInt = 0 ∨ (Ic_15 x0 7).toInt ≤ 999 from by have n9 := num_1; omega) dX4_readShootings_92
            · refine lv_aload_n hx hb dX4_readShootings_79 rfl (lv_at hl 0 rfl) ?_
              refine lv_iconst (v := 2) hx hb dX4_readShootings_80 (by decide) ?_
              refine cc_Vi (vs := [.int 2]) (rest := []) (b := x0) (κ := 4) E hV rfl hA hml hM m_1 k_1 rfl rfl (h4_X4_fail l D cA ad av Lc_15 Kc_15 Ic_15 Oc_15 _ x0 2 hM.2.2.2.1 m_1 k_1) (cwV 1 hts gk_X4_readShootings_X4_fail_45 rfl rfl rfl (by decide +kernel) ⟨Nat.le_of_ble_eq_true rfl, Nat.le_of_ble_eq_true rfl⟩) rfl hl.1 rfl (Nat.le_of_ble_eq_true rfl) dX4_readShootings_81 ⟨show (0 + 0 : Nat) ≤ 0 from by omega, show (0 + 0 : Nat) ≤ 0 from by omega⟩ (fun _ h => by cases h) (by decide) (by decide) (fun r_46 L_48 K_48 I_48 O_48 H locs fr_48 p_47 hM => ?_)
              have m_49 := (fr_48 x0 m_1 (fun z => by cases z)).1
              have k_49 : K_48 x0 = 4 := (fr_48 x0 m_1 (fun z => by cases z)).2.1.trans k_1
              have m_50 := (fr_48 p0 m_2 (fun z => by cases z)).1
              have k_50 : K_48 p0 = 2 := (fr_48 p0 m_2 (fun z => by cases z)).2.1.trans k_2
              replace p_47 : r_46.toInt = 0 := p_47
              refine mm_if_eq (X := r_46.toInt) (tgt := 91) hx hb dX4_readShootings_84 (by decide) rfl (fun c_51 => ?_) (fun c_51 => False.elim (by omega))
              refine lv_iconst (v := 0) hx hb dX4_readShootings_91 (by decide) ?_
              have b_52 : 0 ≤ (I_48 x0 6).toInt ∧ (I_48 x0 6).toInt ≤ 4 := hM.ib m_49 k_49 6 rfl
              have e_53 : (I_48 x0 6).toInt = (Ic_15 x0 6).toInt := congrArg Int32.toInt ((fr_48 x0 m_1 (fun z => by cases z)).2.2.1 6 (by rw [k_1]; rfl))
              have b_54 : 0 ≤ (I_48 x0 7).toInt ∧ (I_48 x0 7).toInt ≤ 1000 := hM.ib m_49 k_49 7 rfl
              have e_55 : (I_48 x0 7).toInt = (Ic_15 x0 7).toInt := congrArg Int32.toInt ((fr_48 x0 m_1 (fun z => by cases z)).2.2.1 7 (by rw [k_1]; rfl))
              exact cr_rz (mc := 0) (ms := 0) (X := 0) E hr hlk hsz hM ⟨show (0 : Nat) ≤ 0 from by omega, show (0 : Nat) ≤ 0 from by omega⟩ num_0 (by omega) (show (I_48 x0 6).toInt = 0 ∨ (I_48 x0 7).toInt ≤ 999 from by have n9 := num_0; omega) dX4_readShootings_92
          · refine lv_aload_n hx hb dX4_readShootings_32 rfl (lv_at hl 0 rfl) ?_
            refine lv_iload_n hx hb dX4_readShootings_33 rfl (lv_at hl 2 rfl) ?_
            refine lv_aload_n hx hb dX4_readShootings_34 rfl (lv_at hl 1 rfl) ?_
            have e_56 : (Ic_15 p0 1).toInt = (I p0 1).toInt := congrArg Int32.toInt ((hfr_15 p0 mp0 (fun z => by cases z)).2.2.1 1 (by rw [kp0]; rfl))
            refine cr_get (κ := 2) (ci := 2) (k := 1) (C := RX2) (T := TX2) (N := 8) (fs := cfs 2) (v := .int (Ic_15 p0 1)) E hM m_2 k_2 (fun _ _ => rfl) rfl hin2 (by decide) (index := 92) (mm_at 10 rfl) rfl rfl dX4_readShootings_35 ?_
            refine lv_iconst (v := 1) hx hb dX4_readShootings_38 (by decide) ?_
            refine mm_isubU hx hb dX4_readShootings_39 (fun z_57 => ?_)
            have b_59 : 0 ≤ (Ic_15 x0 7).toInt ∧ (Ic_15 x0 7).toInt ≤ 1000 := hM.ib m_1 k_1 7 rfl
            refine cc_Vi (vs := [.int le, .int z_57]) (rest := []) (b := x0) (κ := 4) E hV rfl hA hml hM m_1 k_1 rfl rfl (h4_X4_readNumber l D cA ad av Lc_15 Kc_15 Ic_15 Oc_15 _ x0 le z_57 hM.2.2.2.1 m_1 k_1 (show (Ic_15 x0 6).toInt = 0 ∨ (Ic_15 x0 7).toInt ≤ 999 from by omega)) (cwV 2 hts gk_X4_readShootings_X4_readNumber_58 rfl rfl rfl (by decide +kernel) ⟨Nat.le_of_ble_eq_true rfl, Nat.le_of_ble_eq_true rfl⟩) rfl hl.1 rfl (Nat.le_of_ble_eq_true rfl) dX4_readShootings_40 ⟨show (0 + 0 : Nat) ≤ 0 from by omega, show (0 + 0 : Nat) ≤ 0 from by omega⟩ (fun _ h => by cases h) (by decide) (by decide) (fun r_60 L_62 K_62 I_62 O_62 H locs fr_62 p_61 hM => ?_)
            have m_63 := (fr_62 x0 m_1 (fun z => by cases z)).1
            have k_63 : K_62 x0 = 4 := (fr_62 x0 m_1 (fun z => by cases z)).2.1.trans k_1
            have m_64 := (fr_62 p0 m_2 (fun z => by cases z)).1
            have k_64 : K_62 p0 = 2 := (fr_62 p0 m_2 (fun z => by cases z)).2.1.trans k_2
            replace p_61 : (I_62 x0 6).toInt = 0 ∨ (I_62 x0 7).toInt ≤ 999 := p_61
            refine mm_if_ne (X := r_60.toInt) (tgt := 48) hx hb dX4_readShootings_43 (by decide) rfl (fun c_65 => ?_) (fun c_65 => ?_)
            · refine lv_aload_n hx hb dX4_readShootings_48 rfl (lv_at hl 0 rfl) ?_
              refine cr_get (κ := 4) (ci := 4) (k := 9) (C := RX4) (T := TX4) (N := 10) (fs := cfs 4) (v := .int (I_62 x0 9)) E hM m_63 k_63 (fun _ _ => rfl) rfl hin4 (by decide) (index := 89) (mm_at 16 rfl) rfl rfl dX4_readShootings_49 ?_
              refine lv_iconst (v := 1) hx hb dX4_readShootings_52 (by decide) ?_
              refine mm_iaddU hx hb dX4_readShootings_53 (fun z_66 => ?_)
              refine lv_istore_n (lv' := [(2, .int z_66), (0, .ref x0), (1, .ref p0), (3, .int i)]) hx hb dX4_readShootings_54 rfl hl (by decide) rfl (fun ls hl => ?_)
              refine lv_aload_n hx hb dX4_readShootings_55 rfl (lv_at hl 2 rfl) ?_
              refine lv_dup hx hb dX4_readShootings_56 rfl ?_
              have e_67 : (I_62 p0 2).toInt = (Ic_15 p0 2).toInt := congrArg Int32.toInt ((fr_62 p0 m_2 (fun z => by cases z)).2.2.1 2 (by rw [k_2]; rfl))
              refine cr_get (κ := 2) (ci := 2) (k := 2) (C := RX2) (T := TX2) (N := 8) (fs := cfs 2) (v := .int (I_62 p0 2)) E hM m_64 k_64 (fun _ _ => rfl) rfl hin2 (by decide) (index := 96) (mm_at 32 rfl) rfl rfl dX4_readShootings_57 ?_
              refine lv_iconst (v := 1) hx hb dX4_readShootings_60 (by decide) ?_
              refine mm_iaddU hx hb dX4_readShootings_61 (fun z_68 => ?_)
              refine cr_puti (κ := 2) (ci := 2) (k := 2) (C := RX2) (T := TX2) (N := 8) (fs := cfs 2) (ty := .int) (v := z_68) E hM m_64 k_64 (fun _ _ => rfl) rfl hin2 tyX2 tyX2_ok nmX2 (by decide) (index := 96) (mm_at 32 rfl) rfl (Or.inl rfl) (by decide +kernel) rfl rfl (show (2 : Nat) < 8 from by decide) (fun _ _ _ => rfl) (cz_nb rfl) (cS_upd (hM.sp m_64 k_64) (by decide) (by decide)) (Or.inr (Or.inr rfl)) dX4_readShootings_62 (fun H locs I_69 eI_69 hM => ?_)
              refine mm_iinc (X := i.toInt) (v := 1) (lv2 := fun z => [(3, .int z), (2, .int z_66), (0, .ref x0), (1, .ref p0)]) hx hb dX4_readShootings_65 hl (k := 3) rfl rfl (by decide) num_1 (by omega) (by decide) (fun _ => rfl) (fun z_70 ls hz_70 hl => ?_)
              have hl : lv_has ls 4 [(3, .int z_70), (2, .int z_66), (0, .ref x0), (1, .ref p0)] := hl
              refine lv_goto (tgt := 15) hx hb dX4_readShootings_68 (by decide) ?_
              have b_71 : 0 ≤ (I_69 x0 6).toInt ∧ (I_69 x0 6).toInt ≤ 4 := hM.ib m_63 k_63 6 rfl
              have e_72 : (I_69 x0 6).toInt = (I_62 x0 6).toInt := congrArg Int32.toInt (cu_k eI_69 (by decide))
              have b_73 : 0 ≤ (I_69 x0 7).toInt ∧ (I_69 x0 7).toInt ≤ 1000 := hM.ib m_63 k_63 7 rfl
              have e_74 : (I_69 x0 7).toInt = (I_62 x0 7).toInt := congrArg Int32.toInt (cu_k eI_69 (by decide))
              exact ih_15 _ _ _ L_62 K_62 I_69 O_62 z_66 z_70    (show (0 ≤ z_70.toInt ∧ z_70.toInt ≤ 4) from by omega) (show (I_69 x0 6).toInt = 0 ∨ (I_69 x0 7).toInt ≤ 999 from by omega) (show (4 - z_70.toInt) < ((n_15 : Nat) : Int) from by omega) hM (lv_sub hl [2, 3, 1, 0] rfl)
            · refine lv_iconst (v := 0) hx hb dX4_readShootings_46 (by decide) ?_
              have b_75 : 0 ≤ (I_62 x0 6).toInt ∧ (I_62 x0 6).toInt ≤ 4 := hM.ib m_63 k_63 6 rfl
              have b_76 : 0 ≤ (I_62 x0 7).toInt ∧ (I_62 x0 7).toInt ≤ 1000 := hM.ib m_63 k_63 7 rfl
              exact cr_rz (mc := 0) (ms := 0) (X := 0) E hr hlk hsz hM ⟨show (0 : Nat) ≤ 0 from by omega, show (0 : Nat) ≤ 0 from by omega⟩ num_0 (by omega) (show (I_62 x0 6).toInt = 0 ∨ (I_62 x0 7).toInt ≤ 999 from by have n9 := num_0; omega) dX4_readShootings_47
  refine lv_aload_n hx hb dX4_readShootings_0 rfl (lv_at hl 0 rfl) ?_
  refine va_ldcS (own := RX4) (q := ad 2) hx hb hown (hV.2.2.1 2 (94, "shoot") rfl) dX4_readShootings_1 ?_
  have b_78 : 0 ≤ (I x0 6).toInt ∧ (I x0 6).toInt ≤ 4 := hM.ib mx0 kx0 6 rfl
  have b_79 : 0 ≤ (I x0 7).toInt ∧ (I x0 7).toInt ≤ 1000 := hM.ib mx0 kx0 7 rfl
  refine cc_Vi (vs := [.ref (ad 2)]) (rest := []) (b := x0) (κ := 4) E hV rfl hA hml hM mx0 kx0 rfl rfl (h4_X4_readWord l D cA ad av L K I O _ x0 2 hM.2.2.2.1 mx0 kx0 (by decide) (show (I x0 6).toInt = 0 ∨ (I x0 7).toInt ≤ 999 from by omega)) (cwV 1 hts gk_X4_readShootings_X4_readWord_77 rfl rfl rfl (by decide +kernel) ⟨Nat.le_of_ble_eq_true rfl, Nat.le_of_ble_eq_true rfl⟩) rfl hl.1 rfl (Nat.le_of_ble_eq_true rfl) dX4_readShootings_3 ⟨show (0 + 0 : Nat) ≤ 0 from by omega, show (0 + 0 : Nat) ≤ 0 from by omega⟩ (fun _ h => by cases h) (by decide) (by decide) (fun r_80 L_82 K_82 I_82 O_82 H locs fr_82 p_81 hM => ?_)
  have m_83 := (fr_82 x0 mx0 (fun z => by cases z)).1
  have k_83 : K_82 x0 = 4 := (fr_82 x0 mx0 (fun z => by cases z)).2.1.trans kx0
  have m_84 := (fr_82 p0 mp0 (fun z => by cases z)).1
  have k_84 : K_82 p0 = 2 := (fr_82 p0 mp0 (fun z => by cases z)).2.1.trans kp0
  replace p_81 : (I_82 x0 6).toInt = 0 ∨ (I_82 x0 7).toInt ≤ 999 := p_81
  refine mm_if_ne (X := r_80.toInt) (tgt := 11) hx hb dX4_readShootings_6 (by decide) rfl (fun c_85 => ?_) (fun c_85 => ?_)
  · refine lv_iconst (v := 1) hx hb dX4_readShootings_11 (by decide) ?_
    refine lv_istore_n (lv' := [(2, .int 1), (0, .ref x0), (1, .ref p0)]) hx hb dX4_readShootings_12 rfl hl (by decide) rfl (fun ls hl => ?_)
    refine lv_iconst (v := 0) hx hb dX4_readShootings_13 (by decide) ?_
    refine lv_istore_n (lv' := [(3, .int 0), (2, .int 1), (0, .ref x0), (1, .ref p0)]) hx hb dX4_readShootings_14 rfl hl (by decide) rfl (fun ls hl => ?_)
    have b_86 : 0 ≤ (I_82 x0 6).toInt ∧ (I_82 x0 6).toInt ≤ 4 := hM.ib m_83 k_83 6 rfl
    have b_87 : 0 ≤ (I_82 x0 7).toInt ∧ (I_82 x0 7).toInt ≤ 1000 := hM.ib m_83 k_83 7 rfl
    exact B_15 4294967296 _ _ _ L_82 K_82 I_82 O_82 1 0    (show (0 ≤ (0 : Int32).toInt ∧ (0 : Int32).toInt ≤ 4) from by have n_0 := num_1; have n_1 := num_0; omega) (show (I_82 x0 6).toInt = 0 ∨ (I_82 x0 7).toInt ≤ 999 from by have n_0 := num_1; have n_1 := num_0; omega) (show (4 - (0 : Int32).toInt) < ((4294967296 : Nat) : Int) from by have n_0 := num_1; have n_1 := num_0; omega) hM (lv_sub hl [2, 3, 1, 0] rfl)
  · refine lv_iconst (v := 0) hx hb dX4_readShootings_9 (by decide) ?_
    have b_88 : 0 ≤ (I_82 x0 6).toInt ∧ (I_82 x0 6).toInt ≤ 4 := hM.ib m_83 k_83 6 rfl
    have b_89 : 0 ≤ (I_82 x0 7).toInt ∧ (I_82 x0 7).toInt ≤ 1000 := hM.ib m_83 k_83 7 rfl
    exact cr_rz (mc := 0) (ms := 0) (X := 0) E hr hlk hsz hM ⟨show (0 : Nat) ≤ 0 from by omega, show (0 : Nat) ≤ 0 from by omega⟩ num_0 (by omega) (show (I_82 x0 6).toInt = 0 ∨ (I_82 x0 7).toInt ≤ 999 from by have n9 := num_0; omega) dX4_readShootings_10
def w4X4_readMiss : List Cond := .code yX4_readMiss cX4_readMiss 2 (some .boolean) :: ([.methodLink RX4 50 yX4_readWord, .instanceMethod yX4_readWord, .selects RX4 yX4_readWord yX4_readWord, .initialized RX4, .code yX4_readWord cX4_readWord 2 (some .boolean), .methodLink RX4 107 yX4_isWord, .instanceMethod yX4_isWord, .selects RX4 yX4_isWord yX4_isWord, .code yX4_isWord cX4_isWord 3 (some .boolean), .methodLink RX4 140 yJ0_length_8abf5, .instanceMethod yJ0_length_8abf5, .selects RJ0 yJ0_length_8abf5 yJ0_length_8abf5, .initialized RJ0, .code yJ0_length_8abf5 cJ0_length_8abf5 1 (some .int), .fieldLink RJ0 9 "java/lang/String" "value" "[B", .methodLink RJ0 335 yJ0_coder_7d493, .instanceMethod yJ0_coder_7d493, .selects RJ0 yJ0_coder_7d493 yJ0_coder_7d493, .code yJ0_coder_7d493 cJ0_coder_7d493 1 (some .byte), .fieldLink RJ0 38 "java/lang/String" "COMPACT_STRINGS" "Z", .fieldLink RJ0 15 "java/lang/String" "coder" "B", .fieldLink RX4 9 "SkiShots$Reader" "text" "[B", .fieldLink RX4 54 "SkiShots$Reader" "place" "I", .methodLink RX4 145 yJ0_charAt_5068e, .instanceMethod yJ0_charAt_5068e, .selects RJ0 yJ0_charAt_5068e yJ0_charAt_5068e, .code yJ0_charAt_5068e cJ0_charAt_5068e 2 (some .char), .methodLink RJ0 492 yJ0_isLatin1_aae02, .instanceMethod yJ0_isLatin1_aae02, .selects RJ0 yJ0_isLatin1_aae02 yJ0_isLatin1_aae02, .code yJ0_isLatin1_aae02 cJ0_isLatin1_aae02 1 (some .boolean), .methodLink RJ0 495 yJ1_charAt_3b067, .static yJ1_charAt_3b067, .initialized RJ1, .code yJ1_charAt_3b067 cJ1_charAt_3b067 2 (some .char), .methodLink RJ1 9 yJ0_checkIndex_df160, .static yJ0_checkIndex_df160, .code yJ0_checkIndex_df160 cJ0_checkIndex_df160 2 none, .fieldLink RJ0 1053 "jdk/internal/util/Preconditions" "SIOOBE_FORMATTER" "Ljava/util/function/BiFunction;", .methodLink RJ0 1059 yJ3_checkIndex_8e157, .static yJ3_checkIndex_8e157, .initialized RJ3, .code yJ3_checkIndex_8e157 cJ3_checkIndex_8e157 3 (some .int), .fieldLink RX4 37 "SkiShots$Reader" "sort" "I", .fieldLink RX4 133 "SkiShots$Reader" "behind" "I", .methodLink RX4 34 yX4_step, .instanceMethod yX4_step, .selects RX4 yX4_step yX4_step, .code yX4_step cX4_step 1 none, .fieldLink RX4 21 "SkiShots$Reader" "length" "I", .methodLink RX4 149 yX4_sortAt, .instanceMethod yX4_sortAt, .selects RX4 yX4_sortAt yX4_sortAt, .code yX4_sortAt cX4_sortAt 3 (some .int), .methodLink RX4 15 Lib.Math.min.name, .static Lib.Math.min.name, .initialized "java/lang/Math", .code Lib.Math.min.name Lib.Math.min.code 2 (some .int), .methodLink RX4 44 yX4_fail, .instanceMethod yX4_fail, .selects RX4 yX4_fail yX4_fail, .code yX4_fail cX4_fail 2 (some .boolean), .fieldLink RX4 137 "SkiShots$Reader" "fault" "I", .fieldLink RX4 31 "SkiShots$Reader" "faultPlace" "I", .fieldLink RX4 110 "SkiShots$Format" "loops" "Z", .methodLink RX4 85 yX4_readNumber, .instanceMethod yX4_readNumber, .selects RX4 yX4_readNumber yX4_readNumber, .code yX4_readNumber cX4_readNumber 4 (some .boolean), .fieldLink RX4 89 "SkiShots$Reader" "number" "I", .constant RX4 136 (100000), .fieldLink RX4 116 "SkiShots$Format" "missSeconds" "I"] ++ wsX20 ++ wsX40)
set_option maxRecDepth 20000 in
theorem gk_X4_readMiss_X4_readWord_1 : GoodIn w4X4_readMiss (wsV RX4 50 RX4 yX4_readWord w4X4_readWord) := goodIn_p _ [5, 9, 14, 19, 27, 31, 35, 38, 43, 49, 54, 58, 62] rfl (by decide +kernel)
set_option maxRecDepth 20000 in
theorem gk_X4_readMiss_X4_isWord_10 : GoodIn w4X4_readMiss (wsV RX4 107 RX4 yX4_isWord w4X4_isWord) := goodIn_p _ [9, 14, 19, 27, 31, 35, 38, 43] rfl (by decide +kernel)
set_option maxRecDepth 20000 in
theorem gk_X4_readMiss_X4_step_17 : GoodIn w4X4_readMiss (wsV RX4 34 RX4 yX4_step w4X4_step) := goodIn_p _ [49, 54, 58] rfl (by decide +kernel)
set_option maxRecDepth 20000 in
theorem gk_X4_readMiss_X4_readNumber_23 : GoodIn w4X4_readMiss (wsV RX4 85 RX4 yX4_readNumber w4X4_readNumber) := goodIn_p _ [69, 62, 49, 54, 58] rfl (by decide +kernel)
set_option maxRecDepth 20000 in
theorem gk_X4_readMiss_X4_isWord_39 : GoodIn w4X4_readMiss (wsV RX4 107 RX4 yX4_isWord w4X4_isWord) := goodIn_p _ [9, 14, 19, 27, 31, 35, 38, 43] rfl (by decide +kernel)
set_option maxRecDepth 20000 in
theorem gk_X4_readMiss_X4_step_44 : GoodIn w4X4_readMiss (wsV RX4 34 RX4 yX4_step w4X4_step) := goodIn_p _ [49, 54, 58] rfl (by decide +kernel)
set_option maxRecDepth 20000 in
theorem gk_X4_readMiss_X4_readNumber_50 : GoodIn w4X4_readMiss (wsV RX4 85 RX4 yX4_readNumber w4X4_readNumber) := goodIn_p _ [69, 62, 49, 54, 58] rfl (by decide +kernel)
set_option maxRecDepth 20000 in
theorem gk_X4_readMiss_X4_fail_66 : GoodIn w4X4_readMiss (wsV RX4 44 RX4 yX4_fail w4X4_fail) := goodIn_p _ [62] rfl (by decide +kernel)
set_option maxHeartbeats 4000000 in
set_option maxRecDepth 100000 in
theorem h4_X4_readMiss (l : Launch) (D : va_G) (cA : Nat → ClassId) (ad av : Nat → Nat) (L : List Nat) (K : Nat → Nat) (I : Nat → Nat → Int32) (O : Nat → Nat → Option Nat) (sz : Nat) (x0 : Nat) (p0 : Nat) (hI : cI L K I O) (mx0 : x0 ∈ L) (kx0 : K x0 = 4) (mp0 : p0 ∈ L) (kp0 : K p0 = 2) (hrp : (I x0 6).toInt = 0 ∨ (I x0 7).toInt ≤ 999) : Met l yX4_readMiss w4X4_readMiss ({ frames := 6, cells := 0, slots := 0, locals := 128 }) (cPre D cA ad av L K I O sz [.ref x0, .ref p0]) (cQi D cA L K I O sz [] [(2, 4), (2, 5), (4, 4), (4, 5), (4, 6), (4, 7), (4, 8), (4, 9)] [] (fun r L' K' I' O' => (I' x0 6).toInt = 0 ∨ (I' x0 7).toInt ≤ 999)) 0 0 (va_A (cW cA L K I O) sz) := by
  refine cr_met (own := RX4) (xs := []) (WI := [(2, 4), (2, 5), (4, 4), (4, 5), (4, 6), (4, 7), (4, 8), (4, 9)]) (WO := []) (cc := cX4_readMiss) (maxL := 2) (ret := (some .boolean)) (by decide) rfl rfl (Nat.le_of_ble_eq_true rfl) hI ?_
  intro p e s m args below meth c ls E hV hml hr hlk hname hsz hA hM hl
  have hx := E.1
  have hb := E.2.1
  have hts := E.2.2.1
  have hown := E.2.2.2.1
  have hl : lv_has ls 2 [(0, .ref x0), (1, .ref p0)] := hl
  have hin2 : ∀ w ∈ wsX20, w ∈ w4X4_readMiss := by decide +kernel
  have hin4 : ∀ w ∈ wsX40, w ∈ w4X4_readMiss := by decide +kernel
  refine lv_aload_n hx hb dX4_readMiss_0 rfl (lv_at hl 0 rfl) ?_
  refine va_ldcS (own := RX4) (q := ad 4) hx hb hown (hV.2.2.1 4 (103, "miss") rfl) dX4_readMiss_1 ?_
  have b_2 : 0 ≤ (I x0 6).toInt ∧ (I x0 6).toInt ≤ 4 := hM.ib mx0 kx0 6 rfl
  have b_3 : 0 ≤ (I x0 7).toInt ∧ (I x0 7).toInt ≤ 1000 := hM.ib mx0 kx0 7 rfl
  refine cc_Vi (vs := [.ref (ad 4)]) (rest := []) (b := x0) (κ := 4) E hV rfl hA hml hM mx0 kx0 rfl rfl (h4_X4_readWord l D cA ad av L K I O _ x0 4 hM.2.2.2.1 mx0 kx0 (by decide) (show (I x0 6).toInt = 0 ∨ (I x0 7).toInt ≤ 999 from by omega)) (cwV 1 hts gk_X4_readMiss_X4_readWord_1 rfl rfl rfl (by decide +kernel) ⟨Nat.le_of_ble_eq_true rfl, Nat.le_of_ble_eq_true rfl⟩) rfl hl.1 rfl (Nat.le_of_ble_eq_true rfl) dX4_readMiss_3 ⟨show (0 + 0 : Nat) ≤ 0 from by omega, show (0 + 0 : Nat) ≤ 0 from by omega⟩ (fun _ h => by cases h) (by decide) (by decide) (fun r_4 L_6 K_6 I_6 O_6 H locs fr_6 p_5 hM => ?_)
  have m_7 := (fr_6 x0 mx0 (fun z => by cases z)).1
  have k_7 : K_6 x0 = 4 := (fr_6 x0 mx0 (fun z => by cases z)).2.1.trans kx0
  have m_8 := (fr_6 p0 mp0 (fun z => by cases z)).1
  have k_8 : K_6 p0 = 2 := (fr_6 p0 mp0 (fun z => by cases z)).2.1.trans kp0
  replace p_5 : (I_6 x0 6).toInt = 0 ∨ (I_6 x0 7).toInt ≤ 999 := p_5
  refine mm_if_ne (X := r_4.toInt) (tgt := 11) hx hb dX4_readMiss_6 (by decide) rfl (fun c_9 => ?_) (fun c_9 => ?_)
  · refine lv_aload_n hx hb dX4_readMiss_11 rfl (lv_at hl 1 rfl) ?_
    refine lv_aload_n hx hb dX4_readMiss_12 rfl (lv_at hl 0 rfl) ?_
    refine va_ldcS (own := RX4) (q := ad 5) hx hb hown (hV.2.2.1 5 (105, "loop") rfl) dX4_readMiss_13 ?_
    refine cc_Vip (vs := [.ref (ad 5)]) (rest := [.ref p0]) (b := x0) (κ := 4) E hV rfl hA hml hM m_7 k_7 rfl rfl (h4_X4_isWord l D cA ad av L_6 K_6 I_6 O_6 _ x0 5 hM.2.2.2.1 m_7 k_7 (by decide)) (cwV 1 hts gk_X4_readMiss_X4_isWord_10 rfl rfl rfl (by decide +kernel) ⟨Nat.le_of_ble_eq_true rfl, Nat.le_of_ble_eq_true rfl⟩) rfl hl.1 rfl (Nat.le_of_ble_eq_true rfl) dX4_readMiss_15 ⟨show (0 : Nat) ≤ 0 from by omega, show (0 : Nat) ≤ 0 from by omega⟩ (fun r_11 H locs p_12 hM => ?_)
    replace p_12 : r_11.toInt = 0 ∨ r_11.toInt = 1 := p_12
    refine cr_puti (κ := 2) (ci := 2) (k := 4) (C := RX2) (T := TX2) (N := 8) (fs := cfs 2) (ty := .boolean) (v := r_11) E hM m_8 k_8 (fun _ _ => rfl) rfl hin2 tyX2 tyX2_ok nmX2 (by decide) (index := 110) (mm_at 65 rfl) rfl (Or.inl rfl) (by decide +kernel) (cz_nar (X := r_11.toInt) rfl (by omega)).1 (cz_nar (X := r_11.toInt) rfl (by omega)).2 (show (4 : Nat) < 8 from by decide) (fun _ _ _ => rfl) (cz_nb rfl) (cS_upd (hM.sp m_8 k_8) (by decide) (by decide)) (Or.inr (Or.inr rfl)) dX4_readMiss_18 (fun H locs I_14 eI_14 hM => ?_)
    refine lv_aload_n hx hb dX4_readMiss_21 rfl (lv_at hl 1 rfl) ?_
    have e_15 : (I_14 p0 4).toInt = r_11.toInt := (congrArg Int32.toInt (cu_s eI_14)).trans rfl
    refine cr_get (κ := 2) (ci := 2) (k := 4) (C := RX2) (T := TX2) (N := 8) (fs := cfs 2) (v := .int (I_14 p0 4)) E hM m_8 k_8 (fun _ _ => rfl) rfl hin2 (by decide) (index := 110) (mm_at 65 rfl) rfl rfl dX4_readMiss_22 ?_
    refine mm_if_ne (X := (I_14 p0 4).toInt) (tgt := 43) hx hb dX4_readMiss_25 (by decide) rfl (fun c_16 => ?_) (fun c_16 => ?_)
    · refine lv_aload_n hx hb dX4_readMiss_43 rfl (lv_at hl 0 rfl) ?_
      refine cc_Vv (vs := []) (rest := []) (b := x0) (κ := 4) E hV rfl hA hml hM m_7 k_7 rfl rfl (h4_X4_step l D cA ad av L_6 K_6 I_14 O_6 _ x0 hM.2.2.2.1 m_7 k_7) (cwV 0 hts gk_X4_readMiss_X4_step_17 rfl rfl rfl (by decide +kernel) ⟨Nat.le_of_ble_eq_true rfl, Nat.le_of_ble_eq_true rfl⟩) rfl hl.1 rfl (Nat.le_of_ble_eq_true rfl) dX4_readMiss_44 ⟨show (0 + 0 : Nat) ≤ 0 from by omega, show (0 + 0 : Nat) ≤ 0 from by omega⟩ (fun _ h => by cases h) (by decide) (by decide) (fun L_20 K_20 I_20 O_20 H locs fr_20 p_19 hM => ?_)
      have m_21 := (fr_20 x0 m_7 (fun z => by cases z)).1
      have k_21 : K_20 x0 = 4 := (fr_20 x0 m_7 (fun z => by cases z)).2.1.trans k_7
      have m_22 := (fr_20 p0 m_8 (fun z => by cases z)).1
      have k_22 : K_20 p0 = 2 := (fr_20 p0 m_8 (fun z => by cases z)).2.1.trans k_8
      clear p_5
      replace p_19 : (I_20 x0 6).toInt = 0 ∨ (I_20 x0 7).toInt ≤ 999 := p_19
      refine lv_aload_n hx hb dX4_readMiss_47 rfl (lv_at hl 0 rfl) ?_
      refine lv_iconst (v := 0) hx hb dX4_readMiss_48 (by decide) ?_
      refine lv_sipush (v := 600) hx hb dX4_readMiss_49 (by decide) ?_
      have b_24 : 0 ≤ (I_20 x0 6).toInt ∧ (I_20 x0 6).toInt ≤ 4 := hM.ib m_21 k_21 6 rfl
      have b_25 : 0 ≤ (I_20 x0 7).toInt ∧ (I_20 x0 7).toInt ≤ 1000 := hM.ib m_21 k_21 7 rfl
      refine cc_Vi (vs := [.int 0, .int 600]) (rest := []) (b := x0) (κ := 4) E hV rfl hA hml hM m_21 k_21 rfl rfl (h4_X4_readNumber l D cA ad av L_20 K_20 I_20 O_20 _ x0 0 600 hM.2.2.2.1 m_21 k_21 (show (I_20 x0 6).toInt = 0 ∨ (I_20 x0 7).toInt ≤ 999 from by have n_0 := num_0; have n_1 := num_600; omega)) (cwV 2 hts gk_X4_readMiss_X4_readNumber_23 rfl rfl rfl (by decide +kernel) ⟨Nat.le_of_ble_eq_true rfl, Nat.le_of_ble_eq_true rfl⟩) rfl hl.1 rfl (Nat.le_of_ble_eq_true rfl) dX4_readMiss_52 ⟨show (0 + 0 : Nat) ≤ 0 from by omega, show (0 + 0 : Nat) ≤ 0 from by omega⟩ (fun _ h => by cases h) (by decide) (by decide) (fun r_26 L_28 K_28 I_28 O_28 H locs fr_28 p_27 hM => ?_)
      have m_29 := (fr_28 x0 m_21 (fun z => by cases z)).1
      have k_29 : K_28 x0 = 4 := (fr_28 x0 m_21 (fun z => by cases z)).2.1.trans k_21
      have m_30 := (fr_28 p0 m_22 (fun z => by cases z)).1
      have k_30 : K_28 p0 = 2 := (fr_28 p0 m_22 (fun z => by cases z)).2.1.trans k_22
      clear p_19
      replace p_27 : (I_28 x0 6).toInt = 0 ∨ (I_28 x0 7).toInt ≤ 999 := p_27
      refine mm_if_ne (X := r_26.toInt) (tgt := 60) hx hb dX4_readMiss_55 (by decide) rfl (fun c_31 => ?_) (fun c_31 => ?_)
      · refine lv_aload_n hx hb dX4_readMiss_60 rfl (lv_at hl 1 rfl) ?_
        refine lv_aload_n hx hb dX4_readMiss_61 rfl (lv_at hl 0 rfl) ?_
        refine cr_get (κ := 4) (ci := 4) (k := 9) (C := RX4) (T := TX4) (N := 10) (fs := cfs 4) (v := .int (I_28 x0 9)) E hM m_29 k_29 (fun _ _ => rfl) rfl hin4 (by decide) (index := 89) (mm_at 70 rfl) rfl rfl dX4_readMiss_62 ?_
        refine cr_puti (κ := 2) (ci := 2) (k := 5) (C := RX2) (T := TX2) (N := 8) (fs := cfs 2) (ty := .int) (v := (I_28 x0 9)) E hM m_30 k_30 (fun _ _ => rfl) rfl hin2 tyX2 tyX2_ok nmX2 (by decide) (index := 116) (mm_at 72 rfl) rfl (Or.inl rfl) (by decide +kernel) rfl rfl (show (5 : Nat) < 8 from by decide) (fun _ _ _ => rfl) (cz_nb rfl) (cS_upd (hM.sp m_30 k_30) (by decide) (by decide)) (Or.inr (Or.inr rfl)) dX4_readMiss_65 (fun H locs I_32 eI_32 hM => ?_)
        refine lv_iconst (v := 1) hx hb dX4_readMiss_68 (by decide) ?_
        have b_33 : 0 ≤ (I_32 x0 6).toInt ∧ (I_32 x0 6).toInt ≤ 4 := hM.ib m_29 k_29 6 rfl
        have e_34 : (I_32 x0 6).toInt = (I_28 x0 6).toInt := congrArg Int32.toInt (cu_k eI_32 (by decide))
        have b_35 : 0 ≤ (I_32 x0 7).toInt ∧ (I_32 x0 7).toInt ≤ 1000 := hM.ib m_29 k_29 7 rfl
        have e_36 : (I_32 x0 7).toInt = (I_28 x0 7).toInt := congrArg Int32.toInt (cu_k eI_32 (by decide))
        exact cr_rz (mc := 0) (ms := 0) (X := 1) E hr hlk hsz hM ⟨show (0 : Nat) ≤ 0 from by omega, show (0 : Nat) ≤ 0 from by omega⟩ num_1 (by omega) (show (I_32 x0 6).toInt = 0 ∨ (I_32 x0 7).toInt ≤ 999 from by have n9 := num_1; omega) dX4_readMiss_69
      · refine lv_iconst (v := 0) hx hb dX4_readMiss_58 (by decide) ?_
        have b_37 : 0 ≤ (I_28 x0 6).toInt ∧ (I_28 x0 6).toInt ≤ 4 := hM.ib m_29 k_29 6 rfl
        have b_38 : 0 ≤ (I_28 x0 7).toInt ∧ (I_28 x0 7).toInt ≤ 1000 := hM.ib m_29 k_29 7 rfl
        exact cr_rz (mc := 0) (ms := 0) (X := 0) E hr hlk hsz hM ⟨show (0 : Nat) ≤ 0 from by omega, show (0 : Nat) ≤ 0 from by omega⟩ num_0 (by omega) (show (I_28 x0 6).toInt = 0 ∨ (I_28 x0 7).toInt ≤ 999 from by have n9 := num_0; omega) dX4_readMiss_59
    · refine lv_aload_n hx hb dX4_readMiss_28 rfl (lv_at hl 0 rfl) ?_
      refine va_ldcS (own := RX4) (q := ad 6) hx hb hown (hV.2.2.1 6 (114, "add") rfl) dX4_readMiss_29 ?_
      refine cc_Vip (vs := [.ref (ad 6)]) (rest := []) (b := x0) (κ := 4) E hV rfl hA hml hM m_7 k_7 rfl rfl (h4_X4_isWord l D cA ad av L_6 K_6 I_14 O_6 _ x0 6 hM.2.2.2.1 m_7 k_7 (by decide)) (cwV 1 hts gk_X4_readMiss_X4_isWord_39 rfl rfl rfl (by decide +kernel) ⟨Nat.le_of_ble_eq_true rfl, Nat.le_of_ble_eq_true rfl⟩) rfl hl.1 rfl (Nat.le_of_ble_eq_true rfl) dX4_readMiss_31 ⟨show (0 : Nat) ≤ 0 from by omega, show (0 : Nat) ≤ 0 from by omega⟩ (fun r_40 H locs p_41 hM => ?_)
      replace p_41 : r_40.toInt = 0 ∨ r_40.toInt = 1 := p_41
      refine mm_if_ne (X := r_40.toInt) (tgt := 43) hx hb dX4_readMiss_34 (by decide) rfl (fun c_43 => ?_) (fun c_43 => ?_)
      · refine lv_aload_n hx hb dX4_readMiss_43 rfl (lv_at hl 0 rfl) ?_
        refine cc_Vv (vs := []) (rest := []) (b := x0) (κ := 4) E hV rfl hA hml hM m_7 k_7 rfl rfl (h4_X4_step l D cA ad av L_6 K_6 I_14 O_6 _ x0 hM.2.2.2.1 m_7 k_7) (cwV 0 hts gk_X4_readMiss_X4_step_44 rfl rfl rfl (by decide +kernel) ⟨Nat.le_of_ble_eq_true rfl, Nat.le_of_ble_eq_true rfl⟩) rfl hl.1 rfl (Nat.le_of_ble_eq_true rfl) dX4_readMiss_44 ⟨show (0 + 0 : Nat) ≤ 0 from by omega, show (0 + 0 : Nat) ≤ 0 from by omega⟩ (fun _ h => by cases h) (by decide) (by decide) (fun L_47 K_47 I_47 O_47 H locs fr_47 p_46 hM => ?_)
        have m_48 := (fr_47 x0 m_7 (fun z => by cases z)).1
        have k_48 : K_47 x0 = 4 := (fr_47 x0 m_7 (fun z => by cases z)).2.1.trans k_7
        have m_49 := (fr_47 p0 m_8 (fun z => by cases z)).1
        have k_49 : K_47 p0 = 2 := (fr_47 p0 m_8 (fun z => by cases z)).2.1.trans k_8
        clear p_5
        replace p_46 : (I_47 x0 6).toInt = 0 ∨ (I_47 x0 7).toInt ≤ 999 := p_46
        refine lv_aload_n hx hb dX4_readMiss_47 rfl (lv_at hl 0 rfl) ?_
        refine lv_iconst (v := 0) hx hb dX4_readMiss_48 (by decide) ?_
        refine lv_sipush (v := 600) hx hb dX4_readMiss_49 (by decide) ?_
        have b_51 : 0 ≤ (I_47 x0 6).toInt ∧ (I_47 x0 6).toInt ≤ 4 := hM.ib m_48 k_48 6 rfl
        have b_52 : 0 ≤ (I_47 x0 7).toInt ∧ (I_47 x0 7).toInt ≤ 1000 := hM.ib m_48 k_48 7 rfl
        refine cc_Vi (vs := [.int 0, .int 600]) (rest := []) (b := x0) (κ := 4) E hV rfl hA hml hM m_48 k_48 rfl rfl (h4_X4_readNumber l D cA ad av L_47 K_47 I_47 O_47 _ x0 0 600 hM.2.2.2.1 m_48 k_48 (show (I_47 x0 6).toInt = 0 ∨ (I_47 x0 7).toInt ≤ 999 from by have n_0 := num_0; have n_1 := num_600; omega)) (cwV 2 hts gk_X4_readMiss_X4_readNumber_50 rfl rfl rfl (by decide +kernel) ⟨Nat.le_of_ble_eq_true rfl, Nat.le_of_ble_eq_true rfl⟩) rfl hl.1 rfl (Nat.le_of_ble_eq_true rfl) dX4_readMiss_52 ⟨show (0 + 0 : Nat) ≤ 0 from by omega, show (0 + 0 : Nat) ≤ 0 from by omega⟩ (fun _ h => by cases h) (by decide) (by decide) (fun r_53 L_55 K_55 I_55 O_55 H locs fr_55 p_54 hM => ?_)
        have m_56 := (fr_55 x0 m_48 (fun z => by cases z)).1
        have k_56 : K_55 x0 = 4 := (fr_55 x0 m_48 (fun z => by cases z)).2.1.trans k_48
        have m_57 := (fr_55 p0 m_49 (fun z => by cases z)).1
        have k_57 : K_55 p0 = 2 := (fr_55 p0 m_49 (fun z => by cases z)).2.1.trans k_49
        clear p_46
        replace p_54 : (I_55 x0 6).toInt = 0 ∨ (I_55 x0 7).toInt ≤ 999 := p_54
        refine mm_if_ne (X := r_53.toInt) (tgt := 60) hx hb dX4_readMiss_55 (by decide) rfl (fun c_58 => ?_) (fun c_58 => ?_)
        · refine lv_aload_n hx hb dX4_readMiss_60 rfl (lv_at hl 1 rfl) ?_
          refine lv_aload_n hx hb dX4_readMiss_61 rfl (lv_at hl 0 rfl) ?_
          refine cr_get (κ := 4) (ci := 4) (k := 9) (C := RX4) (T := TX4) (N := 10) (fs := cfs 4) (v := .int (I_55 x0 9)) E hM m_56 k_56 (fun _ _ => rfl) rfl hin4 (by decide) (index := 89) (mm_at 70 rfl) rfl rfl dX4_readMiss_62 ?_
          refine cr_puti (κ := 2) (ci := 2) (k := 5) (C := RX2) (T := TX2) (N := 8) (fs := cfs 2) (ty := .int) (v := (I_55 x0 9)) E hM m_57 k_57 (fun _ _ => rfl) rfl hin2 tyX2 tyX2_ok nmX2 (by decide) (index := 116) (mm_at 72 rfl) rfl (Or.inl rfl) (by decide +kernel) rfl rfl (show (5 : Nat) < 8 from by decide) (fun _ _ _ => rfl) (cz_nb rfl) (cS_upd (hM.sp m_57 k_57) (by decide) (by decide)) (Or.inr (Or.inr rfl)) dX4_readMiss_65 (fun H locs I_59 eI_59 hM => ?_)
          refine lv_iconst (v := 1) hx hb dX4_readMiss_68 (by decide) ?_
          have b_60 : 0 ≤ (I_59 x0 6).toInt ∧ (I_59 x0 6).toInt ≤ 4 := hM.ib m_56 k_56 6 rfl
          have e_61 : (I_59 x0 6).toInt = (I_55 x0 6).toInt := congrArg Int32.toInt (cu_k eI_59 (by decide))
          have b_62 : 0 ≤ (I_59 x0 7).toInt ∧ (I_59 x0 7).toInt ≤ 1000 := hM.ib m_56 k_56 7 rfl
          have e_63 : (I_59 x0 7).toInt = (I_55 x0 7).toInt := congrArg Int32.toInt (cu_k eI_59 (by decide))
          exact cr_rz (mc := 0) (ms := 0) (X := 1) E hr hlk hsz hM ⟨show (0 : Nat) ≤ 0 from by omega, show (0 : Nat) ≤ 0 from by omega⟩ num_1 (by omega) (show (I_59 x0 6).toInt = 0 ∨ (I_59 x0 7).toInt ≤ 999 from by have n9 := num_1; omega) dX4_readMiss_69
        · refine lv_iconst (v := 0) hx hb dX4_readMiss_58 (by decide) ?_
          have b_64 : 0 ≤ (I_55 x0 6).toInt ∧ (I_55 x0 6).toInt ≤ 4 := hM.ib m_56 k_56 6 rfl
          have b_65 : 0 ≤ (I_55 x0 7).toInt ∧ (I_55 x0 7).toInt ≤ 1000 := hM.ib m_56 k_56 7 rfl
          exact cr_rz (mc := 0) (ms := 0) (X := 0) E hr hlk hsz hM ⟨show (0 : Nat) ≤ 0 from by omega, show (0 : Nat) ≤ 0 from by omega⟩ num_0 (by omega) (show (I_55 x0 6).toInt = 0 ∨ (I_55 x0 7).toInt ≤ 999 from by have n9 := num_0; omega) dX4_readMiss_59
      · refine lv_aload_n hx hb dX4_readMiss_37 rfl (lv_at hl 0 rfl) ?_
        refine lv_iconst (v := 1) hx hb dX4_readMiss_38 (by decide) ?_
        refine cc_Vi (vs := [.int 1]) (rest := []) (b := x0) (κ := 4) E hV rfl hA hml hM m_7 k_7 rfl rfl (h4_X4_fail l D cA ad av L_6 K_6 I_14 O_6 _ x0 1 hM.2.2.2.1 m_7 k_7) (cwV 1 hts gk_X4_readMiss_X4_fail_66 rfl rfl rfl (by decide +kernel) ⟨Nat.le_of_ble_eq_true rfl, Nat.le_of_ble_eq_true rfl⟩) rfl hl.1 rfl (Nat.le_of_ble_eq_true rfl) dX4_readMiss_39 ⟨show (0 + 0 : Nat) ≤ 0 from by omega, show (0 + 0 : Nat) ≤ 0 from by omega⟩ (fun _ h => by cases h) (by decide) (by decide) (fun r_67 L_69 K_69 I_69 O_69 H locs fr_69 p_68 hM => ?_)
        have m_70 := (fr_69 x0 m_7 (fun z => by cases z)).1
        have k_70 : K_69 x0 = 4 := (fr_69 x0 m_7 (fun z => by cases z)).2.1.trans k_7
        have m_71 := (fr_69 p0 m_8 (fun z => by cases z)).1
        have k_71 : K_69 p0 = 2 := (fr_69 p0 m_8 (fun z => by cases z)).2.1.trans k_8
        replace p_68 : r_67.toInt = 0 := p_68
        have b_72 : 0 ≤ (I_69 x0 6).toInt ∧ (I_69 x0 6).toInt ≤ 4 := hM.ib m_70 k_70 6 rfl
        have e_73 : (I_14 x0 6).toInt = (I_6 x0 6).toInt := congrArg Int32.toInt (cu_k eI_14 (by decide))
        have e_74 : (I_69 x0 6).toInt = (I_14 x0 6).toInt := congrArg Int32.toInt ((fr_69 x0 m_7 (fun z => by cases z)).2.2.1 6 (by rw [k_7]; rfl))
        have b_75 : 0 ≤ (I_69 x0 7).toInt ∧ (I_69 x0 7).toInt ≤ 1000 := hM.ib m_70 k_70 7 rfl
        have e_76 : (I_14 x0 7).toInt = (I_6 x0 7).toInt := congrArg Int32.toInt (cu_k eI_14 (by decide))
        have e_77 : (I_69 x0 7).toInt = (I_14 x0 7).toInt := congrArg Int32.toInt ((fr_69 x0 m_7 (fun z => by cases z)).2.2.1 7 (by rw [k_7]; rfl))
        exact cr_rz (mc := 0) (ms := 0) (X := r_67.toInt) E hr hlk hsz hM ⟨show (0 : Nat) ≤ 0 from by omega, show (0 : Nat) ≤ 0 from by omega⟩ rfl (by omega) (show (I_69 x0 6).toInt = 0 ∨ (I_69 x0 7).toInt ≤ 999 from by omega) dX4_readMiss_42
  · refine lv_iconst (v := 0) hx hb dX4_readMiss_9 (by decide) ?_
    have b_78 : 0 ≤ (I_6 x0 6).toInt ∧ (I_6 x0 6).toInt ≤ 4 := hM.ib m_7 k_7 6 rfl
    have b_79 : 0 ≤ (I_6 x0 7).toInt ∧ (I_6 x0 7).toInt ≤ 1000 := hM.ib m_7 k_7 7 rfl
    exact cr_rz (mc := 0) (ms := 0) (X := 0) E hr hlk hsz hM ⟨show (0 : Nat) ≤ 0 from by omega, show (0 : Nat) ≤ 0 from by omega⟩ num_0 (by omega) (show (I_6 x0 6).toInt = 0 ∨ (I_6 x0 7).toInt ≤ 999 from by have n9 := num_0; omega) dX4_readMiss_10
def w4X4_readStart : List Cond := .code yX4_readStart cX4_readStart 3 (some .boolean) :: ([.methodLink RX4 50 yX4_readWord, .instanceMethod yX4_readWord, .selects RX4 yX4_readWord yX4_readWord, .initialized RX4, .code yX4_readWord cX4_readWord 2 (some .boolean), .methodLink RX4 107 yX4_isWord, .instanceMethod yX4_isWord, .selects RX4 yX4_isWord yX4_isWord, .code yX4_isWord cX4_isWord 3 (some .boolean), .methodLink RX4 140 yJ0_length_8abf5, .instanceMethod yJ0_length_8abf5, .selects RJ0 yJ0_length_8abf5 yJ0_length_8abf5, .initialized RJ0, .code yJ0_length_8abf5 cJ0_length_8abf5 1 (some .int), .fieldLink RJ0 9 "java/lang/String" "value" "[B", .methodLink RJ0 335 yJ0_coder_7d493, .instanceMethod yJ0_coder_7d493, .selects RJ0 yJ0_coder_7d493 yJ0_coder_7d493, .code yJ0_coder_7d493 cJ0_coder_7d493 1 (some .byte), .fieldLink RJ0 38 "java/lang/String" "COMPACT_STRINGS" "Z", .fieldLink RJ0 15 "java/lang/String" "coder" "B", .fieldLink RX4 9 "SkiShots$Reader" "text" "[B", .fieldLink RX4 54 "SkiShots$Reader" "place" "I", .methodLink RX4 145 yJ0_charAt_5068e, .instanceMethod yJ0_charAt_5068e, .selects RJ0 yJ0_charAt_5068e yJ0_charAt_5068e, .code yJ0_charAt_5068e cJ0_charAt_5068e 2 (some .char), .methodLink RJ0 492 yJ0_isLatin1_aae02, .instanceMethod yJ0_isLatin1_aae02, .selects RJ0 yJ0_isLatin1_aae02 yJ0_isLatin1_aae02, .code yJ0_isLatin1_aae02 cJ0_isLatin1_aae02 1 (some .boolean), .methodLink RJ0 495 yJ1_charAt_3b067, .static yJ1_charAt_3b067, .initialized RJ1, .code yJ1_charAt_3b067 cJ1_charAt_3b067 2 (some .char), .methodLink RJ1 9 yJ0_checkIndex_df160, .static yJ0_checkIndex_df160, .code yJ0_checkIndex_df160 cJ0_checkIndex_df160 2 none, .fieldLink RJ0 1053 "jdk/internal/util/Preconditions" "SIOOBE_FORMATTER" "Ljava/util/function/BiFunction;", .methodLink RJ0 1059 yJ3_checkIndex_8e157, .static yJ3_checkIndex_8e157, .initialized RJ3, .code yJ3_checkIndex_8e157 cJ3_checkIndex_8e157 3 (some .int), .fieldLink RX4 37 "SkiShots$Reader" "sort" "I", .fieldLink RX4 133 "SkiShots$Reader" "behind" "I", .methodLink RX4 34 yX4_step, .instanceMethod yX4_step, .selects RX4 yX4_step yX4_step, .code yX4_step cX4_step 1 none, .fieldLink RX4 21 "SkiShots$Reader" "length" "I", .methodLink RX4 149 yX4_sortAt, .instanceMethod yX4_sortAt, .selects RX4 yX4_sortAt yX4_sortAt, .code yX4_sortAt cX4_sortAt 3 (some .int), .methodLink RX4 15 Lib.Math.min.name, .static Lib.Math.min.name, .initialized "java/lang/Math", .code Lib.Math.min.name Lib.Math.min.code 2 (some .int), .methodLink RX4 44 yX4_fail, .instanceMethod yX4_fail, .selects RX4 yX4_fail yX4_fail, .code yX4_fail cX4_fail 2 (some .boolean), .fieldLink RX4 137 "SkiShots$Reader" "fault" "I", .fieldLink RX4 31 "SkiShots$Reader" "faultPlace" "I", .fieldLink RX4 123 "SkiShots$Format" "startSort" "I", .methodLink RX4 85 yX4_readNumber, .instanceMethod yX4_readNumber, .selects RX4 yX4_readNumber yX4_readNumber, .code yX4_readNumber cX4_readNumber 4 (some .boolean), .fieldLink RX4 89 "SkiShots$Reader" "number" "I", .constant RX4 136 (100000), .fieldLink RX4 130 "SkiShots$Format" "startSeconds" "I"] ++ wsX20 ++ wsX40)
set_option maxRecDepth 20000 in
theorem gk_X4_readStart_X4_readWord_1 : GoodIn w4X4_readStart (wsV RX4 50 RX4 yX4_readWord w4X4_readWord) := goodIn_p _ [5, 9, 14, 19, 27, 31, 35, 38, 43, 49, 54, 58, 62] rfl (by decide +kernel)
set_option maxRecDepth 20000 in
theorem gk_X4_readStart_X4_isWord_10 : GoodIn w4X4_readStart (wsV RX4 107 RX4 yX4_isWord w4X4_isWord) := goodIn_p _ [9, 14, 19, 27, 31, 35, 38, 43] rfl (by decide +kernel)
set_option maxRecDepth 20000 in
theorem gk_X4_readStart_X4_isWord_15 : GoodIn w4X4_readStart (wsV RX4 107 RX4 yX4_isWord w4X4_isWord) := goodIn_p _ [9, 14, 19, 27, 31, 35, 38, 43] rfl (by decide +kernel)
set_option maxRecDepth 20000 in
theorem gk_X4_readStart_X4_step_22 : GoodIn w4X4_readStart (wsV RX4 34 RX4 yX4_step w4X4_step) := goodIn_p _ [49, 54, 58] rfl (by decide +kernel)
set_option maxRecDepth 20000 in
theorem gk_X4_readStart_X4_readNumber_30 : GoodIn w4X4_readStart (wsV RX4 85 RX4 yX4_readNumber w4X4_readNumber) := goodIn_p _ [69, 62, 49, 54, 58] rfl (by decide +kernel)
set_option maxRecDepth 20000 in
theorem gk_X4_readStart_X4_isWord_46 : GoodIn w4X4_readStart (wsV RX4 107 RX4 yX4_isWord w4X4_isWord) := goodIn_p _ [9, 14, 19, 27, 31, 35, 38, 43] rfl (by decide +kernel)
set_option maxRecDepth 20000 in
theorem gk_X4_readStart_X4_step_53 : GoodIn w4X4_readStart (wsV RX4 34 RX4 yX4_step w4X4_step) := goodIn_p _ [49, 54, 58] rfl (by decide +kernel)
set_option maxRecDepth 20000 in
theorem gk_X4_readStart_X4_readNumber_61 : GoodIn w4X4_readStart (wsV RX4 85 RX4 yX4_readNumber w4X4_readNumber) := goodIn_p _ [69, 62, 49, 54, 58] rfl (by decide +kernel)
set_option maxRecDepth 20000 in
theorem gk_X4_readStart_X4_fail_77 : GoodIn w4X4_readStart (wsV RX4 44 RX4 yX4_fail w4X4_fail) := goodIn_p _ [62] rfl (by decide +kernel)
set_option maxRecDepth 20000 in
theorem gk_X4_readStart_X4_step_88 : GoodIn w4X4_readStart (wsV RX4 34 RX4 yX4_step w4X4_step) := goodIn_p _ [49, 54, 58] rfl (by decide +kernel)
set_option maxHeartbeats 4000000 in
set_option maxRecDepth 100000 in
theorem h4_X4_readStart (l : Launch) (D : va_G) (cA : Nat → ClassId) (ad av : Nat → Nat) (L : List Nat) (K : Nat → Nat) (I : Nat → Nat → Int32) (O : Nat → Nat → Option Nat) (sz : Nat) (x0 : Nat) (p0 : Nat) (hI : cI L K I O) (mx0 : x0 ∈ L) (kx0 : K x0 = 4) (mp0 : p0 ∈ L) (kp0 : K p0 = 2) (hrp : (I x0 6).toInt = 0 ∨ (I x0 7).toInt ≤ 999) : Met l yX4_readStart w4X4_readStart ({ frames := 6, cells := 0, slots := 0, locals := 128 }) (cPre D cA ad av L K I O sz [.ref x0, .ref p0]) (cQi D cA L K I O sz [] [(2, 6), (2, 7), (4, 4), (4, 5), (4, 6), (4, 7), (4, 8), (4, 9)] [] (fun r L' K' I' O' => (I' x0 6).toInt = 0 ∨ (I' x0 7).toInt ≤ 999)) 0 0 (va_A (cW cA L K I O) sz) := by
  refine cr_met (own := RX4) (xs := []) (WI := [(2, 6), (2, 7), (4, 4), (4, 5), (4, 6), (4, 7), (4, 8), (4, 9)]) (WO := []) (cc := cX4_readStart) (maxL := 3) (ret := (some .boolean)) (by decide) rfl rfl (Nat.le_of_ble_eq_true rfl) hI ?_
  intro p e s m args below meth c ls E hV hml hr hlk hname hsz hA hM hl
  have hx := E.1
  have hb := E.2.1
  have hts := E.2.2.1
  have hown := E.2.2.2.1
  have hl : lv_has ls 3 [(0, .ref x0), (1, .ref p0)] := hl
  have hin2 : ∀ w ∈ wsX20, w ∈ w4X4_readStart := by decide +kernel
  have hin4 : ∀ w ∈ wsX40, w ∈ w4X4_readStart := by decide +kernel
  refine lv_aload_n hx hb dX4_readStart_0 rfl (lv_at hl 0 rfl) ?_
  refine va_ldcS (own := RX4) (q := ad 7) hx hb hown (hV.2.2.1 7 (119, "start") rfl) dX4_readStart_1 ?_
  have b_2 : 0 ≤ (I x0 6).toInt ∧ (I x0 6).toInt ≤ 4 := hM.ib mx0 kx0 6 rfl
  have b_3 : 0 ≤ (I x0 7).toInt ∧ (I x0 7).toInt ≤ 1000 := hM.ib mx0 kx0 7 rfl
  refine cc_Vi (vs := [.ref (ad 7)]) (rest := []) (b := x0) (κ := 4) E hV rfl hA hml hM mx0 kx0 rfl rfl (h4_X4_readWord l D cA ad av L K I O _ x0 7 hM.2.2.2.1 mx0 kx0 (by decide) (show (I x0 6).toInt = 0 ∨ (I x0 7).toInt ≤ 999 from by omega)) (cwV 1 hts gk_X4_readStart_X4_readWord_1 rfl rfl rfl (by decide +kernel) ⟨Nat.le_of_ble_eq_true rfl, Nat.le_of_ble_eq_true rfl⟩) rfl hl.1 rfl (Nat.le_of_ble_eq_true rfl) dX4_readStart_3 ⟨show (0 + 0 : Nat) ≤ 0 from by omega, show (0 + 0 : Nat) ≤ 0 from by omega⟩ (fun _ h => by cases h) (by decide) (by decide) (fun r_4 L_6 K_6 I_6 O_6 H locs fr_6 p_5 hM => ?_)
  have m_7 := (fr_6 x0 mx0 (fun z => by cases z)).1
  have k_7 : K_6 x0 = 4 := (fr_6 x0 mx0 (fun z => by cases z)).2.1.trans kx0
  have m_8 := (fr_6 p0 mp0 (fun z => by cases z)).1
  have k_8 : K_6 p0 = 2 := (fr_6 p0 mp0 (fun z => by cases z)).2.1.trans kp0
  replace p_5 : (I_6 x0 6).toInt = 0 ∨ (I_6 x0 7).toInt ≤ 999 := p_5
  refine mm_if_ne (X := r_4.toInt) (tgt := 11) hx hb dX4_readStart_6 (by decide) rfl (fun c_9 => ?_) (fun c_9 => ?_)
  · refine lv_aload_n hx hb dX4_readStart_11 rfl (lv_at hl 0 rfl) ?_
    refine va_ldcS (own := RX4) (q := ad 8) hx hb hown (hV.2.2.1 8 (121, "mass") rfl) dX4_readStart_12 ?_
    refine cc_Vip (vs := [.ref (ad 8)]) (rest := []) (b := x0) (κ := 4) E hV rfl hA hml hM m_7 k_7 rfl rfl (h4_X4_isWord l D cA ad av L_6 K_6 I_6 O_6 _ x0 8 hM.2.2.2.1 m_7 k_7 (by decide)) (cwV 1 hts gk_X4_readStart_X4_isWord_10 rfl rfl rfl (by decide +kernel) ⟨Nat.le_of_ble_eq_true rfl, Nat.le_of_ble_eq_true rfl⟩) rfl hl.1 rfl (Nat.le_of_ble_eq_true rfl) dX4_readStart_14 ⟨show (0 : Nat) ≤ 0 from by omega, show (0 : Nat) ≤ 0 from by omega⟩ (fun r_11 H locs p_12 hM => ?_)
    replace p_12 : r_11.toInt = 0 ∨ r_11.toInt = 1 := p_12
    refine mm_if_eq (X := r_11.toInt) (tgt := 31) hx hb dX4_readStart_17 (by decide) rfl (fun c_14 => ?_) (fun c_14 => ?_)
    · refine lv_aload_n hx hb dX4_readStart_31 rfl (lv_at hl 0 rfl) ?_
      refine va_ldcS (own := RX4) (q := ad 9) hx hb hown (hV.2.2.1 9 (126, "chase") rfl) dX4_readStart_32 ?_
      refine cc_Vip (vs := [.ref (ad 9)]) (rest := []) (b := x0) (κ := 4) E hV rfl hA hml hM m_7 k_7 rfl rfl (h4_X4_isWord l D cA ad av L_6 K_6 I_6 O_6 _ x0 9 hM.2.2.2.1 m_7 k_7 (by decide)) (cwV 1 hts gk_X4_readStart_X4_isWord_15 rfl rfl rfl (by decide +kernel) ⟨Nat.le_of_ble_eq_true rfl, Nat.le_of_ble_eq_true rfl⟩) rfl hl.1 rfl (Nat.le_of_ble_eq_true rfl) dX4_readStart_34 ⟨show (0 : Nat) ≤ 0 from by omega, show (0 : Nat) ≤ 0 from by omega⟩ (fun r_16 H locs p_17 hM => ?_)
      replace p_17 : r_16.toInt = 0 ∨ r_16.toInt = 1 := p_17
      refine lv_istore_n (lv' := [(2, .int r_16), (0, .ref x0), (1, .ref p0)]) hx hb dX4_readStart_37 rfl hl (by decide) rfl (fun ls hl => ?_)
      refine lv_iload_n hx hb dX4_readStart_38 rfl (lv_at hl 0 rfl) ?_
      refine mm_if_ne (X := r_16.toInt) (tgt := 57) hx hb dX4_readStart_39 (by decide) rfl (fun c_19 => ?_) (fun c_19 => ?_)
      · refine lv_aload_n hx hb dX4_readStart_57 rfl (lv_at hl 2 rfl) ?_
        refine lv_iload_n hx hb dX4_readStart_58 rfl (lv_at hl 0 rfl) ?_
        refine mm_if_eq (X := r_16.toInt) (tgt := 66) hx hb dX4_readStart_59 (by decide) rfl (fun c_20 => False.elim (by omega)) (fun c_20 => ?_)
        refine lv_iconst (v := 2) hx hb dX4_readStart_62 (by decide) ?_
        refine lv_goto (tgt := 67) hx hb dX4_readStart_63 (by decide) ?_
        refine cr_puti (κ := 2) (ci := 2) (k := 6) (C := RX2) (T := TX2) (N := 8) (fs := cfs 2) (ty := .int) (v := 2) E hM m_8 k_8 (fun _ _ => rfl) rfl hin2 tyX2 tyX2_ok nmX2 (by decide) (index := 123) (mm_at 65 rfl) rfl (Or.inl rfl) (by decide +kernel) rfl rfl (show (6 : Nat) < 8 from by decide) (fun _ _ _ => rfl) (cz_nb rfl) (cS_upd (hM.sp m_8 k_8) (by decide) (by decide)) (Or.inr (Or.inr rfl)) dX4_readStart_67 (fun H locs I_21 eI_21 hM => ?_)
        refine lv_aload_n hx hb dX4_readStart_70 rfl (lv_at hl 1 rfl) ?_
        refine cc_Vv (vs := []) (rest := []) (b := x0) (κ := 4) E hV rfl hA hml hM m_7 k_7 rfl rfl (h4_X4_step l D cA ad av L_6 K_6 I_21 O_6 _ x0 hM.2.2.2.1 m_7 k_7) (cwV 0 hts gk_X4_readStart_X4_step_22 rfl rfl rfl (by decide +kernel) ⟨Nat.le_of_ble_eq_true rfl, Nat.le_of_ble_eq_true rfl⟩) rfl hl.1 rfl (Nat.le_of_ble_eq_true rfl) dX4_readStart_71 ⟨show (0 + 0 : Nat) ≤ 0 from by omega, show (0 + 0 : Nat) ≤ 0 from by omega⟩ (fun _ h => by cases h) (by decide) (by decide) (fun L_25 K_25 I_25 O_25 H locs fr_25 p_24 hM => ?_)
        have m_26 := (fr_25 x0 m_7 (fun z => by cases z)).1
        have k_26 : K_25 x0 = 4 := (fr_25 x0 m_7 (fun z => by cases z)).2.1.trans k_7
        have m_27 := (fr_25 p0 m_8 (fun z => by cases z)).1
        have k_27 : K_25 p0 = 2 := (fr_25 p0 m_8 (fun z => by cases z)).2.1.trans k_8
        clear p_5
        replace p_24 : (I_25 x0 6).toInt = 0 ∨ (I_25 x0 7).toInt ≤ 999 := p_24
        refine lv_aload_n hx hb dX4_readStart_74 rfl (lv_at hl 1 rfl) ?_
        refine lv_iload_n hx hb dX4_readStart_75 rfl (lv_at hl 0 rfl) ?_
        refine mm_if_eq (X := r_16.toInt) (tgt := 83) hx hb dX4_readStart_76 (by decide) rfl (fun c_28 => False.elim (by omega)) (fun c_28 => ?_)
        refine lv_iconst (v := 0) hx hb dX4_readStart_79 (by decide) ?_
        refine lv_goto (tgt := 84) hx hb dX4_readStart_80 (by decide) ?_
        refine lv_iload_n hx hb dX4_readStart_84 rfl (lv_at hl 0 rfl) ?_
        refine mm_if_eq (X := r_16.toInt) (tgt := 94) hx hb dX4_readStart_85 (by decide) rfl (fun c_29 => False.elim (by omega)) (fun c_29 => ?_)
        refine lv_sipush (v := 3600) hx hb dX4_readStart_88 (by decide) ?_
        refine lv_goto (tgt := 97) hx hb dX4_readStart_91 (by decide) ?_
        have b_31 : 0 ≤ (I_25 x0 6).toInt ∧ (I_25 x0 6).toInt ≤ 4 := hM.ib m_26 k_26 6 rfl
        have b_32 : 0 ≤ (I_25 x0 7).toInt ∧ (I_25 x0 7).toInt ≤ 1000 := hM.ib m_26 k_26 7 rfl
        refine cc_Vi (vs := [.int 0, .int 3600]) (rest := []) (b := x0) (κ := 4) E hV rfl hA hml hM m_26 k_26 rfl rfl (h4_X4_readNumber l D cA ad av L_25 K_25 I_25 O_25 _ x0 0 3600 hM.2.2.2.1 m_26 k_26 (show (I_25 x0 6).toInt = 0 ∨ (I_25 x0 7).toInt ≤ 999 from by have n_0 := num_0; have n_1 := num_3600; omega)) (cwV 2 hts gk_X4_readStart_X4_readNumber_30 rfl rfl rfl (by decide +kernel) ⟨Nat.le_of_ble_eq_true rfl, Nat.le_of_ble_eq_true rfl⟩) rfl hl.1 rfl (Nat.le_of_ble_eq_true rfl) dX4_readStart_97 ⟨show (0 + 0 : Nat) ≤ 0 from by omega, show (0 + 0 : Nat) ≤ 0 from by omega⟩ (fun _ h => by cases h) (by decide) (by decide) (fun r_33 L_35 K_35 I_35 O_35 H locs fr_35 p_34 hM => ?_)
        have m_36 := (fr_35 x0 m_26 (fun z => by cases z)).1
        have k_36 : K_35 x0 = 4 := (fr_35 x0 m_26 (fun z => by cases z)).2.1.trans k_26
        have m_37 := (fr_35 p0 m_27 (fun z => by cases z)).1
        have k_37 : K_35 p0 = 2 := (fr_35 p0 m_27 (fun z => by cases z)).2.1.trans k_27
        clear p_24
        replace p_34 : (I_35 x0 6).toInt = 0 ∨ (I_35 x0 7).toInt ≤ 999 := p_34
        refine mm_if_ne (X := r_33.toInt) (tgt := 105) hx hb dX4_readStart_100 (by decide) rfl (fun c_38 => ?_) (fun c_38 => ?_)
        · refine lv_aload_n hx hb dX4_readStart_105 rfl (lv_at hl 2 rfl) ?_
          refine lv_aload_n hx hb dX4_readStart_106 rfl (lv_at hl 1 rfl) ?_
          refine cr_get (κ := 4) (ci := 4) (k := 9) (C := RX4) (T := TX4) (N := 10) (fs := cfs 4) (v := .int (I_35 x0 9)) E hM m_36 k_36 (fun _ _ => rfl) rfl hin4 (by decide) (index := 89) (mm_at 70 rfl) rfl rfl dX4_readStart_107 ?_
          refine cr_puti (κ := 2) (ci := 2) (k := 7) (C := RX2) (T := TX2) (N := 8) (fs := cfs 2) (ty := .int) (v := (I_35 x0 9)) E hM m_37 k_37 (fun _ _ => rfl) rfl hin2 tyX2 tyX2_ok nmX2 (by decide) (index := 130) (mm_at 72 rfl) rfl (Or.inl rfl) (by decide +kernel) rfl rfl (show (7 : Nat) < 8 from by decide) (fun _ _ _ => rfl) (cz_nb rfl) (cS_upd (hM.sp m_37 k_37) (by decide) (by decide)) (Or.inr (Or.inr rfl)) dX4_readStart_110 (fun H locs I_39 eI_39 hM => ?_)
          refine lv_iconst (v := 1) hx hb dX4_readStart_113 (by decide) ?_
          have b_40 : 0 ≤ (I_39 x0 6).toInt ∧ (I_39 x0 6).toInt ≤ 4 := hM.ib m_36 k_36 6 rfl
          have e_41 : (I_39 x0 6).toInt = (I_35 x0 6).toInt := congrArg Int32.toInt (cu_k eI_39 (by decide))
          have b_42 : 0 ≤ (I_39 x0 7).toInt ∧ (I_39 x0 7).toInt ≤ 1000 := hM.ib m_36 k_36 7 rfl
          have e_43 : (I_39 x0 7).toInt = (I_35 x0 7).toInt := congrArg (fun z => Int32.toInt (z 7)) (cu_a eI_39 (c_ne k_36 k_37 (by decide)))
          exact cr_rz (mc := 0) (ms := 0) (X := 1) E hr hlk hsz hM ⟨show (0 : Nat) ≤ 0 from by omega, show (0 : Nat) ≤ 0 from by omega⟩ num_1 (by omega) (show (I_39 x0 6).toInt = 0 ∨ (I_39 x0 7).toInt ≤ 999 from by have n9 := num_1; omega) dX4_readStart_114
        · refine lv_iconst (v := 0) hx hb dX4_readStart_103 (by decide) ?_
          have b_44 : 0 ≤ (I_35 x0 6).toInt ∧ (I_35 x0 6).toInt ≤ 4 := hM.ib m_36 k_36 6 rfl
          have b_45 : 0 ≤ (I_35 x0 7).toInt ∧ (I_35 x0 7).toInt ≤ 1000 := hM.ib m_36 k_36 7 rfl
          exact cr_rz (mc := 0) (ms := 0) (X := 0) E hr hlk hsz hM ⟨show (0 : Nat) ≤ 0 from by omega, show (0 : Nat) ≤ 0 from by omega⟩ num_0 (by omega) (show (I_35 x0 6).toInt = 0 ∨ (I_35 x0 7).toInt ≤ 999 from by have n9 := num_0; omega) dX4_readStart_104
      · refine lv_aload_n hx hb dX4_readStart_42 rfl (lv_at hl 1 rfl) ?_
        refine va_ldcS (own := RX4) (q := ad 10) hx hb hown (hV.2.2.1 10 (128, "every") rfl) dX4_readStart_43 ?_
        refine cc_Vip (vs := [.ref (ad 10)]) (rest := []) (b := x0) (κ := 4) E hV rfl hA hml hM m_7 k_7 rfl rfl (h4_X4_isWord l D cA ad av L_6 K_6 I_6 O_6 _ x0 10 hM.2.2.2.1 m_7 k_7 (by decide)) (cwV 1 hts gk_X4_readStart_X4_isWord_46 rfl rfl rfl (by decide +kernel) ⟨Nat.le_of_ble_eq_true rfl, Nat.le_of_ble_eq_true rfl⟩) rfl hl.1 rfl (Nat.le_of_ble_eq_true rfl) dX4_readStart_45 ⟨show (0 : Nat) ≤ 0 from by omega, show (0 : Nat) ≤ 0 from by omega⟩ (fun r_47 H locs p_48 hM => ?_)
        replace p_48 : r_47.toInt = 0 ∨ r_47.toInt = 1 := p_48
        refine mm_if_ne (X := r_47.toInt) (tgt := 57) hx hb dX4_readStart_48 (by decide) rfl (fun c_50 => ?_) (fun c_50 => ?_)
        · refine lv_aload_n hx hb dX4_readStart_57 rfl (lv_at hl 2 rfl) ?_
          refine lv_iload_n hx hb dX4_readStart_58 rfl (lv_at hl 0 rfl) ?_
          refine mm_if_eq (X := r_16.toInt) (tgt := 66) hx hb dX4_readStart_59 (by decide) rfl (fun c_51 => ?_) (fun c_51 => False.elim (by omega))
          refine lv_iconst (v := 1) hx hb dX4_readStart_66 (by decide) ?_
          refine cr_puti (κ := 2) (ci := 2) (k := 6) (C := RX2) (T := TX2) (N := 8) (fs := cfs 2) (ty := .int) (v := 1) E hM m_8 k_8 (fun _ _ => rfl) rfl hin2 tyX2 tyX2_ok nmX2 (by decide) (index := 123) (mm_at 65 rfl) rfl (Or.inl rfl) (by decide +kernel) rfl rfl (show (6 : Nat) < 8 from by decide) (fun _ _ _ => rfl) (cz_nb rfl) (cS_upd (hM.sp m_8 k_8) (by decide) (by decide)) (Or.inr (Or.inr rfl)) dX4_readStart_67 (fun H locs I_52 eI_52 hM => ?_)
          refine lv_aload_n hx hb dX4_readStart_70 rfl (lv_at hl 1 rfl) ?_
          refine cc_Vv (vs := []) (rest := []) (b := x0) (κ := 4) E hV rfl hA hml hM m_7 k_7 rfl rfl (h4_X4_step l D cA ad av L_6 K_6 I_52 O_6 _ x0 hM.2.2.2.1 m_7 k_7) (cwV 0 hts gk_X4_readStart_X4_step_53 rfl rfl rfl (by decide +kernel) ⟨Nat.le_of_ble_eq_true rfl, Nat.le_of_ble_eq_true rfl⟩) rfl hl.1 rfl (Nat.le_of_ble_eq_true rfl) dX4_readStart_71 ⟨show (0 + 0 : Nat) ≤ 0 from by omega, show (0 + 0 : Nat) ≤ 0 from by omega⟩ (fun _ h => by cases h) (by decide) (by decide) (fun L_56 K_56 I_56 O_56 H locs fr_56 p_55 hM => ?_)
          have m_57 := (fr_56 x0 m_7 (fun z => by cases z)).1
          have k_57 : K_56 x0 = 4 := (fr_56 x0 m_7 (fun z => by cases z)).2.1.trans k_7
          have m_58 := (fr_56 p0 m_8 (fun z => by cases z)).1
          have k_58 : K_56 p0 = 2 := (fr_56 p0 m_8 (fun z => by cases z)).2.1.trans k_8
          clear p_5
          replace p_55 : (I_56 x0 6).toInt = 0 ∨ (I_56 x0 7).toInt ≤ 999 := p_55
          refine lv_aload_n hx hb dX4_readStart_74 rfl (lv_at hl 1 rfl) ?_
          refine lv_iload_n hx hb dX4_readStart_75 rfl (lv_at hl 0 rfl) ?_
          refine mm_if_eq (X := r_16.toInt) (tgt := 83) hx hb dX4_readStart_76 (by decide) rfl (fun c_59 => ?_) (fun c_59 => False.elim (by omega))
          refine lv_iconst (v := 1) hx hb dX4_readStart_83 (by decide) ?_
          refine lv_iload_n hx hb dX4_readStart_84 rfl (lv_at hl 0 rfl) ?_
          refine mm_if_eq (X := r_16.toInt) (tgt := 94) hx hb dX4_readStart_85 (by decide) rfl (fun c_60 => ?_) (fun c_60 => False.elim (by omega))
          refine lv_sipush (v := 600) hx hb dX4_readStart_94 (by decide) ?_
          have b_62 : 0 ≤ (I_56 x0 6).toInt ∧ (I_56 x0 6).toInt ≤ 4 := hM.ib m_57 k_57 6 rfl
          have b_63 : 0 ≤ (I_56 x0 7).toInt ∧ (I_56 x0 7).toInt ≤ 1000 := hM.ib m_57 k_57 7 rfl
          refine cc_Vi (vs := [.int 1, .int 600]) (rest := []) (b := x0) (κ := 4) E hV rfl hA hml hM m_57 k_57 rfl rfl (h4_X4_readNumber l D cA ad av L_56 K_56 I_56 O_56 _ x0 1 600 hM.2.2.2.1 m_57 k_57 (show (I_56 x0 6).toInt = 0 ∨ (I_56 x0 7).toInt ≤ 999 from by have n_0 := num_1; have n_1 := num_600; omega)) (cwV 2 hts gk_X4_readStart_X4_readNumber_61 rfl rfl rfl (by decide +kernel) ⟨Nat.le_of_ble_eq_true rfl, Nat.le_of_ble_eq_true rfl⟩) rfl hl.1 rfl (Nat.le_of_ble_eq_true rfl) dX4_readStart_97 ⟨show (0 + 0 : Nat) ≤ 0 from by omega, show (0 + 0 : Nat) ≤ 0 from by omega⟩ (fun _ h => by cases h) (by decide) (by decide) (fun r_64 L_66 K_66 I_66 O_66 H locs fr_66 p_65 hM => ?_)
          have m_67 := (fr_66 x0 m_57 (fun z => by cases z)).1
          have k_67 : K_66 x0 = 4 := (fr_66 x0 m_57 (fun z => by cases z)).2.1.trans k_57
          have m_68 := (fr_66 p0 m_58 (fun z => by cases z)).1
          have k_68 : K_66 p0 = 2 := (fr_66 p0 m_58 (fun z => by cases z)).2.1.trans k_58
          clear p_55
          replace p_65 : (I_66 x0 6).toInt = 0 ∨ (I_66 x0 7).toInt ≤ 999 := p_65
          refine mm_if_ne (X := r_64.toInt) (tgt := 105) hx hb dX4_readStart_100 (by decide) rfl (fun c_69 => ?_) (fun c_69 => ?_)
          · refine lv_aload_n hx hb dX4_readStart_105 rfl (lv_at hl 2 rfl) ?_
            refine lv_aload_n hx hb dX4_readStart_106 rfl (lv_at hl 1 rfl) ?_
            refine cr_get (κ := 4) (ci := 4) (k := 9) (C := RX4) (T := TX4) (N := 10) (fs := cfs 4) (v := .int (I_66 x0 9)) E hM m_67 k_67 (fun _ _ => rfl) rfl hin4 (by decide) (index := 89) (mm_at 70 rfl) rfl rfl dX4_readStart_107 ?_
            refine cr_puti (κ := 2) (ci := 2) (k := 7) (C := RX2) (T := TX2) (N := 8) (fs := cfs 2) (ty := .int) (v := (I_66 x0 9)) E hM m_68 k_68 (fun _ _ => rfl) rfl hin2 tyX2 tyX2_ok nmX2 (by decide) (index := 130) (mm_at 72 rfl) rfl (Or.inl rfl) (by decide +kernel) rfl rfl (show (7 : Nat) < 8 from by decide) (fun _ _ _ => rfl) (cz_nb rfl) (cS_upd (hM.sp m_68 k_68) (by decide) (by decide)) (Or.inr (Or.inr rfl)) dX4_readStart_110 (fun H locs I_70 eI_70 hM => ?_)
            refine lv_iconst (v := 1) hx hb dX4_readStart_113 (by decide) ?_
            have b_71 : 0 ≤ (I_70 x0 6).toInt ∧ (I_70 x0 6).toInt ≤ 4 := hM.ib m_67 k_67 6 rfl
            have e_72 : (I_70 x0 6).toInt = (I_66 x0 6).toInt := congrArg Int32.toInt (cu_k eI_70 (by decide))
            have b_73 : 0 ≤ (I_70 x0 7).toInt ∧ (I_70 x0 7).toInt ≤ 1000 := hM.ib m_67 k_67 7 rfl
            have e_74 : (I_70 x0 7).toInt = (I_66 x0 7).toInt := congrArg (fun z => Int32.toInt (z 7)) (cu_a eI_70 (c_ne k_67 k_68 (by decide)))
            exact cr_rz (mc := 0) (ms := 0) (X := 1) E hr hlk hsz hM ⟨show (0 : Nat) ≤ 0 from by omega, show (0 : Nat) ≤ 0 from by omega⟩ num_1 (by omega) (show (I_70 x0 6).toInt = 0 ∨ (I_70 x0 7).toInt ≤ 999 from by have n9 := num_1; omega) dX4_readStart_114
          · refine lv_iconst (v := 0) hx hb dX4_readStart_103 (by decide) ?_
            have b_75 : 0 ≤ (I_66 x0 6).toInt ∧ (I_66 x0 6).toInt ≤ 4 := hM.ib m_67 k_67 6 rfl
            have b_76 : 0 ≤ (I_66 x0 7).toInt ∧ (I_66 x0 7).toInt ≤ 1000 := hM.ib m_67 k_67 7 rfl
            exact cr_rz (mc := 0) (ms := 0) (X := 0) E hr hlk hsz hM ⟨show (0 : Nat) ≤ 0 from by omega, show (0 : Nat) ≤ 0 from by omega⟩ num_0 (by omega) (show (I_66 x0 6).toInt = 0 ∨ (I_66 x0 7).toInt ≤ 999 from by have n9 := num_0; omega) dX4_readStart_104
        · refine lv_aload_n hx hb dX4_readStart_51 rfl (lv_at hl 1 rfl) ?_
          refine lv_iconst (v := 1) hx hb dX4_readStart_52 (by decide) ?_
          refine cc_Vi (vs := [.int 1]) (rest := []) (b := x0) (κ := 4) E hV rfl hA hml hM m_7 k_7 rfl rfl (h4_X4_fail l D cA ad av L_6 K_6 I_6 O_6 _ x0 1 hM.2.2.2.1 m_7 k_7) (cwV 1 hts gk_X4_readStart_X4_fail_77 rfl rfl rfl (by decide +kernel) ⟨Nat.le_of_ble_eq_true rfl, Nat.le_of_ble_eq_true rfl⟩) rfl hl.1 rfl (Nat.le_of_ble_eq_true rfl) dX4_readStart_53 ⟨show (0 + 0 : Nat) ≤ 0 from by omega, show (0 + 0 : Nat) ≤ 0 from by omega⟩ (fun _ h => by cases h) (by decide) (by decide) (fun r_78 L_80 K_80 I_80 O_80 H locs fr_80 p_79 hM => ?_)
          have m_81 := (fr_80 x0 m_7 (fun z => by cases z)).1
          have k_81 : K_80 x0 = 4 := (fr_80 x0 m_7 (fun z => by cases z)).2.1.trans k_7
          have m_82 := (fr_80 p0 m_8 (fun z => by cases z)).1
          have k_82 : K_80 p0 = 2 := (fr_80 p0 m_8 (fun z => by cases z)).2.1.trans k_8
          replace p_79 : r_78.toInt = 0 := p_79
          have b_83 : 0 ≤ (I_80 x0 6).toInt ∧ (I_80 x0 6).toInt ≤ 4 := hM.ib m_81 k_81 6 rfl
          have e_84 : (I_80 x0 6).toInt = (I_6 x0 6).toInt := congrArg Int32.toInt ((fr_80 x0 m_7 (fun z => by cases z)).2.2.1 6 (by rw [k_7]; rfl))
          have b_85 : 0 ≤ (I_80 x0 7).toInt ∧ (I_80 x0 7).toInt ≤ 1000 := hM.ib m_81 k_81 7 rfl
          have e_86 : (I_80 x0 7).toInt = (I_6 x0 7).toInt := congrArg Int32.toInt ((fr_80 x0 m_7 (fun z => by cases z)).2.2.1 7 (by rw [k_7]; rfl))
          exact cr_rz (mc := 0) (ms := 0) (X := r_78.toInt) E hr hlk hsz hM ⟨show (0 : Nat) ≤ 0 from by omega, show (0 : Nat) ≤ 0 from by omega⟩ rfl (by omega) (show (I_80 x0 6).toInt = 0 ∨ (I_80 x0 7).toInt ≤ 999 from by omega) dX4_readStart_56
    · refine lv_aload_n hx hb dX4_readStart_20 rfl (lv_at hl 1 rfl) ?_
      refine lv_iconst (v := 0) hx hb dX4_readStart_21 (by decide) ?_
      refine cr_puti (κ := 2) (ci := 2) (k := 6) (C := RX2) (T := TX2) (N := 8) (fs := cfs 2) (ty := .int) (v := 0) E hM m_8 k_8 (fun _ _ => rfl) rfl hin2 tyX2 tyX2_ok nmX2 (by decide) (index := 123) (mm_at 65 rfl) rfl (Or.inl rfl) (by decide +kernel) rfl rfl (show (6 : Nat) < 8 from by decide) (fun _ _ _ => rfl) (cz_nb rfl) (cS_upd (hM.sp m_8 k_8) (by decide) (by decide)) (Or.inr (Or.inr rfl)) dX4_readStart_22 (fun H locs I_87 eI_87 hM => ?_)
      refine lv_aload_n hx hb dX4_readStart_25 rfl (lv_at hl 0 rfl) ?_
      refine cc_Vv (vs := []) (rest := []) (b := x0) (κ := 4) E hV rfl hA hml hM m_7 k_7 rfl rfl (h4_X4_step l D cA ad av L_6 K_6 I_87 O_6 _ x0 hM.2.2.2.1 m_7 k_7) (cwV 0 hts gk_X4_readStart_X4_step_88 rfl rfl rfl (by decide +kernel) ⟨Nat.le_of_ble_eq_true rfl, Nat.le_of_ble_eq_true rfl⟩) rfl hl.1 rfl (Nat.le_of_ble_eq_true rfl) dX4_readStart_26 ⟨show (0 + 0 : Nat) ≤ 0 from by omega, show (0 + 0 : Nat) ≤ 0 from by omega⟩ (fun _ h => by cases h) (by decide) (by decide) (fun L_91 K_91 I_91 O_91 H locs fr_91 p_90 hM => ?_)
      have m_92 := (fr_91 x0 m_7 (fun z => by cases z)).1
      have k_92 : K_91 x0 = 4 := (fr_91 x0 m_7 (fun z => by cases z)).2.1.trans k_7
      have m_93 := (fr_91 p0 m_8 (fun z => by cases z)).1
      have k_93 : K_91 p0 = 2 := (fr_91 p0 m_8 (fun z => by cases z)).2.1.trans k_8
      clear p_5
      replace p_90 : (I_91 x0 6).toInt = 0 ∨ (I_91 x0 7).toInt ≤ 999 := p_90
      refine lv_iconst (v := 1) hx hb dX4_readStart_29 (by decide) ?_
      have b_94 : 0 ≤ (I_91 x0 6).toInt ∧ (I_91 x0 6).toInt ≤ 4 := hM.ib m_92 k_92 6 rfl
      have b_95 : 0 ≤ (I_91 x0 7).toInt ∧ (I_91 x0 7).toInt ≤ 1000 := hM.ib m_92 k_92 7 rfl
      exact cr_rz (mc := 0) (ms := 0) (X := 1) E hr hlk hsz hM ⟨show (0 : Nat) ≤ 0 from by omega, show (0 : Nat) ≤ 0 from by omega⟩ num_1 (by omega) (show (I_91 x0 6).toInt = 0 ∨ (I_91 x0 7).toInt ≤ 999 from by have n9 := num_1; omega) dX4_readStart_30
  · refine lv_iconst (v := 0) hx hb dX4_readStart_9 (by decide) ?_
    have b_96 : 0 ≤ (I_6 x0 6).toInt ∧ (I_6 x0 6).toInt ≤ 4 := hM.ib m_7 k_7 6 rfl
    have b_97 : 0 ≤ (I_6 x0 7).toInt ∧ (I_6 x0 7).toInt ≤ 1000 := hM.ib m_7 k_7 7 rfl
    exact cr_rz (mc := 0) (ms := 0) (X := 0) E hr hlk hsz hM ⟨show (0 : Nat) ≤ 0 from by omega, show (0 : Nat) ≤ 0 from by omega⟩ num_0 (by omega) (show (I_6 x0 6).toInt = 0 ∨ (I_6 x0 7).toInt ≤ 999 from by have n9 := num_0; omega) dX4_readStart_10
