def w4X1_init : List Cond := .code yX1_init cX1_init 6 none :: ([.methodLink RX1 1 objectInit, .instanceMethod objectInit, .code objectInit ⟨#[0xb1]⟩ 1 none, .fieldLink RX1 7 "SkiShots$Event" "day" "I", .fieldLink RX1 13 "SkiShots$Event" "sort" "I", .fieldLink RX1 16 "SkiShots$Event" "k" "I", .fieldLink RX1 19 "SkiShots$Event" "v" "I", .fieldLink RX1 22 "SkiShots$Event" "before" "LSkiShots$Event;"] ++ wsX10)
set_option maxHeartbeats 4000000 in
set_option maxRecDepth 100000 in
theorem h4_X1_init (l : Launch) (D : va_G) (cA : Nat → ClassId) (ad av : Nat → Nat) (L : List Nat) (K : Nat → Nat) (I : Nat → Nat → Int32) (O : Nat → Nat → Option Nat) (sz : Nat) (x0 : Nat) (p0 : Int32) (p1 : Int32) (p2 : Int32) (p3 : Int32) (p4 : Option Nat) (hI : cI L K I O) (mx0 : x0 ∈ L) (kx0 : K x0 = 1) (tp4 : ∀ b : Nat, p4 = some b → b ∈ L ∧ K b = 1) (hrk : ∀ b : Nat, p4 = some b → crk L b < crk L x0) : Met l yX1_init w4X1_init ({ frames := 1, cells := 0, slots := 0, locals := 20 }) (cPre D cA ad av L K I O sz [.ref x0, .int p0, .int p1, .int p2, .int p3, va_rf p4]) (cQv D cA L K I O sz [] [(1, 0), (1, 1), (1, 2), (1, 3)] [(1, 4)] (fun L' K' I' O' => True)) 0 0 (va_A (cW cA L K I O) sz) := by
  rcases p4 with _ | xq
  · refine cr_met (own := RX1) (xs := []) (WI := [(1, 0), (1, 1), (1, 2), (1, 3)]) (WO := [(1, 4)]) (cc := cX1_init) (maxL := 6) (ret := none) (by decide) rfl rfl (Nat.le_of_ble_eq_true rfl) hI ?_
    intro p e s m args below meth c ls E hV hml hr hlk hname hsz hA hM hl
    have hx := E.1
    have hb := E.2.1
    have hts := E.2.2.1
    have hown := E.2.2.2.1
    have hl : lv_has ls 6 [(0, .ref x0), (1, .int p0), (2, .int p1), (3, .int p2), (4, .int p3), (5, .null)] := hl
    have hin1 : ∀ w ∈ wsX10, w ∈ w4X1_init := by decide +kernel
    refine lv_aload_n hx hb dX1_init_0 rfl (lv_at hl 0 rfl) ?_
    refine W.objInit hx hb hown (hts _ (mm_at 1 rfl)) (hts _ (mm_at 2 rfl)) (hts _ (mm_at 3 rfl)) rfl (by rw [hml]; exact hl.1) rfl dX1_init_1 (Nat.le_of_ble_eq_true rfl) (Nat.le_of_ble_eq_true rfl) ?_
    refine W.eq (g2 := F0 m 4 ls []) rfl ?_
    refine lv_aload_n hx hb dX1_init_4 rfl (lv_at hl 0 rfl) ?_
    refine lv_iload_n hx hb dX1_init_5 rfl (lv_at hl 1 rfl) ?_
    refine cr_puti (κ := 1) (ci := 1) (k := 0) (C := RX1) (T := TX1) (N := 5) (fs := cfs 1) (ty := .int) (v := p0) E hM mx0 kx0 (fun _ _ => rfl) rfl hin1 tyX1 tyX1_ok nmX1 (by decide) (index := 7) (mm_at 4 rfl) rfl (Or.inr ⟨rfl, hname, rfl⟩) (by decide +kernel) rfl rfl (show (0 : Nat) < 5 from by decide) (fun _ _ _ => rfl) (cz_nb rfl) (cS_upd (hM.sp mx0 kx0) (by decide) (by decide)) (Or.inr (Or.inr rfl)) dX1_init_6 (fun H locs I_1 eI_1 hM => ?_)
    refine lv_aload_n hx hb dX1_init_9 rfl (lv_at hl 0 rfl) ?_
    refine lv_iload_n hx hb dX1_init_10 rfl (lv_at hl 2 rfl) ?_
    refine cr_puti (κ := 1) (ci := 1) (k := 1) (C := RX1) (T := TX1) (N := 5) (fs := cfs 1) (ty := .int) (v := p1) E hM mx0 kx0 (fun _ _ => rfl) rfl hin1 tyX1 tyX1_ok nmX1 (by decide) (index := 13) (mm_at 5 rfl) rfl (Or.inr ⟨rfl, hname, rfl⟩) (by decide +kernel) rfl rfl (show (1 : Nat) < 5 from by decide) (fun _ _ _ => rfl) (cz_nb rfl) (cS_upd (hM.sp mx0 kx0) (by decide) (by decide)) (Or.inr (Or.inr rfl)) dX1_init_11 (fun H locs I_2 eI_2 hM => ?_)
    refine lv_aload_n hx hb dX1_init_14 rfl (lv_at hl 0 rfl) ?_
    refine lv_iload_n hx hb dX1_init_15 rfl (lv_at hl 3 rfl) ?_
    refine cr_puti (κ := 1) (ci := 1) (k := 2) (C := RX1) (T := TX1) (N := 5) (fs := cfs 1) (ty := .int) (v := p2) E hM mx0 kx0 (fun _ _ => rfl) rfl hin1 tyX1 tyX1_ok nmX1 (by decide) (index := 16) (mm_at 6 rfl) rfl (Or.inr ⟨rfl, hname, rfl⟩) (by decide +kernel) rfl rfl (show (2 : Nat) < 5 from by decide) (fun _ _ _ => rfl) (cz_nb rfl) (cS_upd (hM.sp mx0 kx0) (by decide) (by decide)) (Or.inr (Or.inr rfl)) dX1_init_16 (fun H locs I_3 eI_3 hM => ?_)
    refine lv_aload_n hx hb dX1_init_19 rfl (lv_at hl 0 rfl) ?_
    refine lv_iload hx hb dX1_init_20 (lv_at hl 4 rfl) ?_
    refine cr_puti (κ := 1) (ci := 1) (k := 3) (C := RX1) (T := TX1) (N := 5) (fs := cfs 1) (ty := .int) (v := p3) E hM mx0 kx0 (fun _ _ => rfl) rfl hin1 tyX1 tyX1_ok nmX1 (by decide) (index := 19) (mm_at 7 rfl) rfl (Or.inr ⟨rfl, hname, rfl⟩) (by decide +kernel) rfl rfl (show (3 : Nat) < 5 from by decide) (fun _ _ _ => rfl) (cz_nb rfl) (cS_upd (hM.sp mx0 kx0) (by decide) (by decide)) (Or.inr (Or.inr rfl)) dX1_init_22 (fun H locs I_4 eI_4 hM => ?_)
    refine lv_aload_n hx hb dX1_init_25 rfl (lv_at hl 0 rfl) ?_
    refine lv_aloadN hx hb dX1_init_26 (lv_at hl 5 rfl) ?_
    refine cr_puto (κ := 1) (ci := 1) (k := 4) (C := RX1) (T := TX1) (N := 5) (fs := cfs 1) (ty := .object "SkiShots$Event") (w := none) E hM mx0 kx0 (fun _ _ => rfl) rfl hin1 tyX1 tyX1_ok nmX1 (by decide) (index := 22) (mm_at 8 rfl) rfl (Or.inr ⟨rfl, hname, rfl⟩) (by decide +kernel) rfl rfl (show (4 : Nat) < 5 from by decide) (fun _ _ _ => rfl) (by decide) (fun _ b h1 h2 => by cases h2) (fun h => by cases h) (cS_ev hrk) (Or.inr (Or.inr rfl)) dX1_init_28 (fun H locs O_5 eO_5 hM => ?_)
    exact cr_rv (mc := 0) (ms := 0) E hr hlk hsz hM ⟨show (0 : Nat) ≤ 0 from by omega, show (0 : Nat) ≤ 0 from by omega⟩ trivial dX1_init_31
  · refine cr_met (own := RX1) (xs := []) (WI := [(1, 0), (1, 1), (1, 2), (1, 3)]) (WO := [(1, 4)]) (cc := cX1_init) (maxL := 6) (ret := none) (by decide) rfl rfl (Nat.le_of_ble_eq_true rfl) hI ?_
    intro p e s m args below meth c ls E hV hml hr hlk hname hsz hA hM hl
    have hx := E.1
    have hb := E.2.1
    have hts := E.2.2.1
    have hown := E.2.2.2.1
    have hl : lv_has ls 6 [(0, .ref x0), (1, .int p0), (2, .int p1), (3, .int p2), (4, .int p3), (5, .ref xq)] := hl
    have hin1 : ∀ w ∈ wsX10, w ∈ w4X1_init := by decide +kernel
    obtain ⟨mxq, kxq⟩ := tp4 _ rfl
    refine lv_aload_n hx hb dX1_init_0 rfl (lv_at hl 0 rfl) ?_
    refine W.objInit hx hb hown (hts _ (mm_at 1 rfl)) (hts _ (mm_at 2 rfl)) (hts _ (mm_at 3 rfl)) rfl (by rw [hml]; exact hl.1) rfl dX1_init_1 (Nat.le_of_ble_eq_true rfl) (Nat.le_of_ble_eq_true rfl) ?_
    refine W.eq (g2 := F0 m 4 ls []) rfl ?_
    refine lv_aload_n hx hb dX1_init_4 rfl (lv_at hl 0 rfl) ?_
    refine lv_iload_n hx hb dX1_init_5 rfl (lv_at hl 1 rfl) ?_
    refine cr_puti (κ := 1) (ci := 1) (k := 0) (C := RX1) (T := TX1) (N := 5) (fs := cfs 1) (ty := .int) (v := p0) E hM mx0 kx0 (fun _ _ => rfl) rfl hin1 tyX1 tyX1_ok nmX1 (by decide) (index := 7) (mm_at 4 rfl) rfl (Or.inr ⟨rfl, hname, rfl⟩) (by decide +kernel) rfl rfl (show (0 : Nat) < 5 from by decide) (fun _ _ _ => rfl) (cz_nb rfl) (cS_upd (hM.sp mx0 kx0) (by decide) (by decide)) (Or.inr (Or.inr rfl)) dX1_init_6 (fun H locs I_6 eI_6 hM => ?_)
    refine lv_aload_n hx hb dX1_init_9 rfl (lv_at hl 0 rfl) ?_
    refine lv_iload_n hx hb dX1_init_10 rfl (lv_at hl 2 rfl) ?_
    refine cr_puti (κ := 1) (ci := 1) (k := 1) (C := RX1) (T := TX1) (N := 5) (fs := cfs 1) (ty := .int) (v := p1) E hM mx0 kx0 (fun _ _ => rfl) rfl hin1 tyX1 tyX1_ok nmX1 (by decide) (index := 13) (mm_at 5 rfl) rfl (Or.inr ⟨rfl, hname, rfl⟩) (by decide +kernel) rfl rfl (show (1 : Nat) < 5 from by decide) (fun _ _ _ => rfl) (cz_nb rfl) (cS_upd (hM.sp mx0 kx0) (by decide) (by decide)) (Or.inr (Or.inr rfl)) dX1_init_11 (fun H locs I_7 eI_7 hM => ?_)
    refine lv_aload_n hx hb dX1_init_14 rfl (lv_at hl 0 rfl) ?_
    refine lv_iload_n hx hb dX1_init_15 rfl (lv_at hl 3 rfl) ?_
    refine cr_puti (κ := 1) (ci := 1) (k := 2) (C := RX1) (T := TX1) (N := 5) (fs := cfs 1) (ty := .int) (v := p2) E hM mx0 kx0 (fun _ _ => rfl) rfl hin1 tyX1 tyX1_ok nmX1 (by decide) (index := 16) (mm_at 6 rfl) rfl (Or.inr ⟨rfl, hname, rfl⟩) (by decide +kernel) rfl rfl (show (2 : Nat) < 5 from by decide) (fun _ _ _ => rfl) (cz_nb rfl) (cS_upd (hM.sp mx0 kx0) (by decide) (by decide)) (Or.inr (Or.inr rfl)) dX1_init_16 (fun H locs I_8 eI_8 hM => ?_)
    refine lv_aload_n hx hb dX1_init_19 rfl (lv_at hl 0 rfl) ?_
    refine lv_iload hx hb dX1_init_20 (lv_at hl 4 rfl) ?_
    refine cr_puti (κ := 1) (ci := 1) (k := 3) (C := RX1) (T := TX1) (N := 5) (fs := cfs 1) (ty := .int) (v := p3) E hM mx0 kx0 (fun _ _ => rfl) rfl hin1 tyX1 tyX1_ok nmX1 (by decide) (index := 19) (mm_at 7 rfl) rfl (Or.inr ⟨rfl, hname, rfl⟩) (by decide +kernel) rfl rfl (show (3 : Nat) < 5 from by decide) (fun _ _ _ => rfl) (cz_nb rfl) (cS_upd (hM.sp mx0 kx0) (by decide) (by decide)) (Or.inr (Or.inr rfl)) dX1_init_22 (fun H locs I_9 eI_9 hM => ?_)
    refine lv_aload_n hx hb dX1_init_25 rfl (lv_at hl 0 rfl) ?_
    refine lv_aload hx hb dX1_init_26 (lv_at hl 5 rfl) ?_
    refine cr_puto (κ := 1) (ci := 1) (k := 4) (C := RX1) (T := TX1) (N := 5) (fs := cfs 1) (ty := .object "SkiShots$Event") (w := some xq) E hM mx0 kx0 (fun _ _ => rfl) rfl hin1 tyX1 tyX1_ok nmX1 (by decide) (index := 22) (mm_at 8 rfl) rfl (Or.inr ⟨rfl, hname, rfl⟩) (by decide +kernel) rfl rfl (show (4 : Nat) < 5 from by decide) (fun _ _ _ => rfl) (by decide) (fun _ b h1 h2 => by cases h1; cases h2; exact ⟨mxq, kxq⟩) (fun h => by cases h) (cS_ev hrk) (Or.inr (Or.inr rfl)) dX1_init_28 (fun H locs O_10 eO_10 hM => ?_)
    exact cr_rv (mc := 0) (ms := 0) E hr hlk hsz hM ⟨show (0 : Nat) ≤ 0 from by omega, show (0 : Nat) ≤ 0 from by omega⟩ trivial dX1_init_31
def w4X3_init : List Cond := .code yX3_init cX3_init 4 none :: ([.methodLink RX3 3 objectInit, .instanceMethod objectInit, .code objectInit ⟨#[0xb1]⟩ 1 none, .fieldLink RX3 9 "SkiShots$Race" "format" "LSkiShots$Format;", .fieldLink RX3 15 "SkiShots$Race" "by" "LSkiShots$Race;", .fieldLink RX3 19 "SkiShots$Race" "byNumber" "I", .classLink RX3 23 RX0, .fieldLink RX3 25 "SkiShots$Race" "entries" "[LSkiShots$Entry;"] ++ wsX30)
set_option maxHeartbeats 4000000 in
set_option maxRecDepth 100000 in
theorem h4_X3_init (l : Launch) (D : va_G) (cA : Nat → ClassId) (ad av : Nat → Nat) (L : List Nat) (K : Nat → Nat) (I : Nat → Nat → Int32) (O : Nat → Nat → Option Nat) (sz : Nat) (x0 : Nat) (p0 : Nat) (p1 : Option Nat) (p2 : Int32) (hI : cI L K I O) (mx0 : x0 ∈ L) (kx0 : K x0 = 23) (mp0 : p0 ∈ L) (kp0 : K p0 = 2) (tp1 : ∀ b : Nat, p1 = some b → b ∈ L ∧ K b = 3) (hz : (I x0 4).toInt = 0) : Met l yX3_init w4X3_init ({ frames := 1, cells := 1, slots := 16, locals := 20 }) (cPre D cA ad av L K I O sz [.ref x0, .ref p0, va_rf p1, .int p2]) (cQv D cA L K I O sz [x0] [] [] (fun L' K' I' O' => x0 ∈ L' ∧ K' x0 = 3 ∧ (True))) 1 16 (va_A (cW cA L K I O) sz) := by
  rcases p1 with _ | xq
  · refine cr_met (own := RX3) (xs := [x0]) (WI := []) (WO := []) (cc := cX3_init) (maxL := 4) (ret := none) (by decide) rfl rfl (Nat.le_of_ble_eq_true rfl) hI ?_
    intro p e s m args below meth c ls E hV hml hr hlk hname hsz hA hM hl
    have hx := E.1
    have hb := E.2.1
    have hts := E.2.2.1
    have hown := E.2.2.2.1
    have hl : lv_has ls 4 [(0, .ref x0), (1, .ref p0), (2, .null), (3, .int p2)] := hl
    have hin3 : ∀ w ∈ wsX30, w ∈ w4X3_init := by decide +kernel
    refine lv_aload_n hx hb dX3_init_0 rfl (lv_at hl 0 rfl) ?_
    refine W.objInit hx hb hown (hts _ (mm_at 1 rfl)) (hts _ (mm_at 2 rfl)) (hts _ (mm_at 3 rfl)) rfl (by rw [hml]; exact hl.1) rfl dX3_init_1 (Nat.le_of_ble_eq_true rfl) (Nat.le_of_ble_eq_true rfl) ?_
    refine W.eq (g2 := F0 m 4 ls []) rfl ?_
    refine lv_aload_n hx hb dX3_init_4 rfl (lv_at hl 0 rfl) ?_
    refine lv_aload_n hx hb dX3_init_5 rfl (lv_at hl 1 rfl) ?_
    refine cr_puto (κ := 23) (ci := 3) (k := 0) (C := RX3) (T := TX3) (N := 7) (fs := cfs 3) (ty := .object "SkiShots$Format") (w := some p0) E hM mx0 kx0 (fun _ _ => rfl) rfl hin3 tyX3 tyX3_ok nmX3 (by decide) (index := 9) (mm_at 4 rfl) rfl (Or.inr ⟨rfl, hname, rfl⟩) (by decide +kernel) rfl rfl (show (0 : Nat) < 7 from by decide) (fun _ _ _ => rfl) (by decide) (fun _ b h1 h2 => by cases h1; cases h2; exact ⟨mp0, kp0⟩) (fun h => by cases h) (cS.raw (by decide)) (Or.inr (Or.inl (List.mem_singleton.mpr rfl))) dX3_init_6 (fun H locs O_1 eO_1 hM => ?_)
    refine lv_aload_n hx hb dX3_init_9 rfl (lv_at hl 0 rfl) ?_
    refine lv_aload_nN hx hb dX3_init_10 rfl (lv_at hl 2 rfl) ?_
    refine cr_puto (κ := 23) (ci := 3) (k := 1) (C := RX3) (T := TX3) (N := 7) (fs := cfs 3) (ty := .object "SkiShots$Race") (w := none) E hM mx0 kx0 (fun _ _ => rfl) rfl hin3 tyX3 tyX3_ok nmX3 (by decide) (index := 15) (mm_at 5 rfl) rfl (Or.inr ⟨rfl, hname, rfl⟩) (by decide +kernel) rfl rfl (show (1 : Nat) < 7 from by decide) (fun _ _ _ => rfl) (by decide) (fun _ b h1 h2 => by cases h2) (fun h => by cases h) (cS.raw (by decide)) (Or.inr (Or.inl (List.mem_singleton.mpr rfl))) dX3_init_11 (fun H locs O_2 eO_2 hM => ?_)
    refine lv_aload_n hx hb dX3_init_14 rfl (lv_at hl 0 rfl) ?_
    refine lv_iload_n hx hb dX3_init_15 rfl (lv_at hl 3 rfl) ?_
    refine cr_puti (κ := 23) (ci := 3) (k := 2) (C := RX3) (T := TX3) (N := 7) (fs := cfs 3) (ty := .int) (v := p2) E hM mx0 kx0 (fun _ _ => rfl) rfl hin3 tyX3 tyX3_ok nmX3 (by decide) (index := 19) (mm_at 6 rfl) rfl (Or.inr ⟨rfl, hname, rfl⟩) (by decide +kernel) rfl rfl (show (2 : Nat) < 7 from by decide) (fun _ _ _ => rfl) (cz_nb rfl) (cS_upd (hM.sp mx0 kx0) (by decide) (by decide)) (Or.inr (Or.inl (List.mem_singleton.mpr rfl))) dX3_init_16 (fun H locs I_3 eI_3 hM => ?_)
    refine lv_aload_n hx hb dX3_init_19 rfl (lv_at hl 0 rfl) ?_
    refine lv_bipush (v := 16) hx hb dX3_init_20 (by decide) ?_
    have hM0_4 := hM
    refine cr_newq (κ := 15) (N := 16) (t0 := 4) E hV.1.1 hA hM (fun _ => rfl) rfl (mm_at 7 rfl) (fun _ => rfl) (by decide) (by decide) (by decide) (by decide) (show (0 + 1 : Nat) ≤ 1 from by omega) (show (0 + 16 : Nat) ≤ 16 from by omega) dX3_init_22 (fun q_4 H L_4 K_4 I_4 O_4 hq_4 eL_4 eK_4 eI_4 eO_4 tr_4 mq_4 kq_4 hM => ?_)
    have hn_4 : q_4 ∉ L := fun z => hq_4 (hM0_4.2.2.2.2 q_4 z (fun w => hq_4 (List.mem_singleton.mp w ▸ mx0))).1
    have m_5 := (tr_4 x0 mx0).1
    have k_5 : K_4 x0 = 23 := (tr_4 x0 mx0).2.trans kx0
    have m_6 := (tr_4 p0 mp0).1
    have k_6 : K_4 p0 = 2 := (tr_4 p0 mp0).2.trans kp0
    refine W.widen (k := 1) (n := 16) (by omega) (by omega) ?_
    refine cr_puto (κ := 23) (ci := 3) (k := 3) (C := RX3) (T := TX3) (N := 7) (fs := cfs 3) (ty := .array (.object "SkiShots$Entry")) (w := some q_4) E hM m_5 k_5 (fun _ _ => rfl) rfl hin3 tyX3 tyX3_ok nmX3 (by decide) (index := 25) (mm_at 8 rfl) rfl (Or.inr ⟨rfl, hname, rfl⟩) (by decide +kernel) rfl rfl (show (3 : Nat) < 7 from by decide) (fun _ _ _ => rfl) (by decide) (fun _ b h1 h2 => by cases h1; cases h2; exact ⟨mq_4, kq_4⟩) (fun h => by cases h) (cS.raw (by decide)) (Or.inr (Or.inl (List.mem_singleton.mpr rfl))) dX3_init_25 (fun H locs O_7 eO_7 hM => ?_)
    have o_8 : O_1 x0 0 = some p0 := co_s eO_1
    have o_9 : O_2 x0 0 = some p0 := (co_k eO_2 (by decide)).trans o_8
    have o_10 : O_4 x0 0 = some p0 := (congrFun (cu_a eO_4 (fun z => hq_4 (z ▸ mx0))) 0).trans o_9
    have o_11 : O_7 x0 0 = some p0 := (co_k eO_7 (by decide)).trans o_10
    have o_12 : O_7 x0 3 = some q_4 := co_s eO_7
    have hnn_13 : ∀ k, cnn 3 k = true → O_7 x0 k ≠ none := fun k hk => by
      have hk2 : k = 0 ∨ k = 3 := by simpa [cnn] using hk
      rcases hk2 with rfl | rfl
      · rw [o_11]; exact fun z => by cases z
      · rw [o_12]; exact fun z => by cases z
    have b_14 : 0 ≤ (I_4 x0 4).toInt ∧ (I_4 x0 4).toInt ≤ 16 := hM.ib m_5 k_5 4 rfl
    have e_15 : (I_3 x0 4).toInt = (I x0 4).toInt := congrArg Int32.toInt (cu_k eI_3 (by decide))
    have e_16 : (I_4 x0 4).toInt = (I_3 x0 4).toInt := congrArg (fun z => Int32.toInt (z 4)) (cu_a eI_4 (fun z => hq_4 (z ▸ mx0)))
    have hM := hM.ret (κ := 3) m_5 k_5 (by decide) (fun _ _ => rfl) cib_r3 crt_r3 hnn_13 ⟨fun q => (by cases q), fun _ b hb j hj => absurd hj (by omega), fun _ => trivial, fun q => (by cases q)⟩ (Or.inr (List.mem_singleton.mpr rfl))
    exact cr_rv (mc := 1) (ms := 16) E hr hlk hsz hM ⟨show (1 : Nat) ≤ 1 from by omega, show (16 : Nat) ≤ 16 from by omega⟩ ⟨m_5, (va_up_self _ _ _), trivial⟩ dX3_init_28
  · refine cr_met (own := RX3) (xs := [x0]) (WI := []) (WO := []) (cc := cX3_init) (maxL := 4) (ret := none) (by decide) rfl rfl (Nat.le_of_ble_eq_true rfl) hI ?_
    intro p e s m args below meth c ls E hV hml hr hlk hname hsz hA hM hl
    have hx := E.1
    have hb := E.2.1
    have hts := E.2.2.1
    have hown := E.2.2.2.1
    have hl : lv_has ls 4 [(0, .ref x0), (1, .ref p0), (2, .ref xq), (3, .int p2)] := hl
    have hin3 : ∀ w ∈ wsX30, w ∈ w4X3_init := by decide +kernel
    obtain ⟨mxq, kxq⟩ := tp1 _ rfl
    refine lv_aload_n hx hb dX3_init_0 rfl (lv_at hl 0 rfl) ?_
    refine W.objInit hx hb hown (hts _ (mm_at 1 rfl)) (hts _ (mm_at 2 rfl)) (hts _ (mm_at 3 rfl)) rfl (by rw [hml]; exact hl.1) rfl dX3_init_1 (Nat.le_of_ble_eq_true rfl) (Nat.le_of_ble_eq_true rfl) ?_
    refine W.eq (g2 := F0 m 4 ls []) rfl ?_
    refine lv_aload_n hx hb dX3_init_4 rfl (lv_at hl 0 rfl) ?_
    refine lv_aload_n hx hb dX3_init_5 rfl (lv_at hl 1 rfl) ?_
    refine cr_puto (κ := 23) (ci := 3) (k := 0) (C := RX3) (T := TX3) (N := 7) (fs := cfs 3) (ty := .object "SkiShots$Format") (w := some p0) E hM mx0 kx0 (fun _ _ => rfl) rfl hin3 tyX3 tyX3_ok nmX3 (by decide) (index := 9) (mm_at 4 rfl) rfl (Or.inr ⟨rfl, hname, rfl⟩) (by decide +kernel) rfl rfl (show (0 : Nat) < 7 from by decide) (fun _ _ _ => rfl) (by decide) (fun _ b h1 h2 => by cases h1; cases h2; exact ⟨mp0, kp0⟩) (fun h => by cases h) (cS.raw (by decide)) (Or.inr (Or.inl (List.mem_singleton.mpr rfl))) dX3_init_6 (fun H locs O_17 eO_17 hM => ?_)
    refine lv_aload_n hx hb dX3_init_9 rfl (lv_at hl 0 rfl) ?_
    refine lv_aload_n hx hb dX3_init_10 rfl (lv_at hl 2 rfl) ?_
    refine cr_puto (κ := 23) (ci := 3) (k := 1) (C := RX3) (T := TX3) (N := 7) (fs := cfs 3) (ty := .object "SkiShots$Race") (w := some xq) E hM mx0 kx0 (fun _ _ => rfl) rfl hin3 tyX3 tyX3_ok nmX3 (by decide) (index := 15) (mm_at 5 rfl) rfl (Or.inr ⟨rfl, hname, rfl⟩) (by decide +kernel) rfl rfl (show (1 : Nat) < 7 from by decide) (fun _ _ _ => rfl) (by decide) (fun _ b h1 h2 => by cases h1; cases h2; exact ⟨mxq, kxq⟩) (fun h => by cases h) (cS.raw (by decide)) (Or.inr (Or.inl (List.mem_singleton.mpr rfl))) dX3_init_11 (fun H locs O_18 eO_18 hM => ?_)
    refine lv_aload_n hx hb dX3_init_14 rfl (lv_at hl 0 rfl) ?_
    refine lv_iload_n hx hb dX3_init_15 rfl (lv_at hl 3 rfl) ?_
    refine cr_puti (κ := 23) (ci := 3) (k := 2) (C := RX3) (T := TX3) (N := 7) (fs := cfs 3) (ty := .int) (v := p2) E hM mx0 kx0 (fun _ _ => rfl) rfl hin3 tyX3 tyX3_ok nmX3 (by decide) (index := 19) (mm_at 6 rfl) rfl (Or.inr ⟨rfl, hname, rfl⟩) (by decide +kernel) rfl rfl (show (2 : Nat) < 7 from by decide) (fun _ _ _ => rfl) (cz_nb rfl) (cS_upd (hM.sp mx0 kx0) (by decide) (by decide)) (Or.inr (Or.inl (List.mem_singleton.mpr rfl))) dX3_init_16 (fun H locs I_19 eI_19 hM => ?_)
    refine lv_aload_n hx hb dX3_init_19 rfl (lv_at hl 0 rfl) ?_
    refine lv_bipush (v := 16) hx hb dX3_init_20 (by decide) ?_
    have hM0_20 := hM
    refine cr_newq (κ := 15) (N := 16) (t0 := 4) E hV.1.1 hA hM (fun _ => rfl) rfl (mm_at 7 rfl) (fun _ => rfl) (by decide) (by decide) (by decide) (by decide) (show (0 + 1 : Nat) ≤ 1 from by omega) (show (0 + 16 : Nat) ≤ 16 from by omega) dX3_init_22 (fun q_20 H L_20 K_20 I_20 O_20 hq_20 eL_20 eK_20 eI_20 eO_20 tr_20 mq_20 kq_20 hM => ?_)
    have hn_20 : q_20 ∉ L := fun z => hq_20 (hM0_20.2.2.2.2 q_20 z (fun w => hq_20 (List.mem_singleton.mp w ▸ mx0))).1
    have m_21 := (tr_20 x0 mx0).1
    have k_21 : K_20 x0 = 23 := (tr_20 x0 mx0).2.trans kx0
    have m_22 := (tr_20 p0 mp0).1
    have k_22 : K_20 p0 = 2 := (tr_20 p0 mp0).2.trans kp0
    have m_23 := (tr_20 xq mxq).1
    have k_23 : K_20 xq = 3 := (tr_20 xq mxq).2.trans kxq
    refine W.widen (k := 1) (n := 16) (by omega) (by omega) ?_
    refine cr_puto (κ := 23) (ci := 3) (k := 3) (C := RX3) (T := TX3) (N := 7) (fs := cfs 3) (ty := .array (.object "SkiShots$Entry")) (w := some q_20) E hM m_21 k_21 (fun _ _ => rfl) rfl hin3 tyX3 tyX3_ok nmX3 (by decide) (index := 25) (mm_at 8 rfl) rfl (Or.inr ⟨rfl, hname, rfl⟩) (by decide +kernel) rfl rfl (show (3 : Nat) < 7 from by decide) (fun _ _ _ => rfl) (by decide) (fun _ b h1 h2 => by cases h1; cases h2; exact ⟨mq_20, kq_20⟩) (fun h => by cases h) (cS.raw (by decide)) (Or.inr (Or.inl (List.mem_singleton.mpr rfl))) dX3_init_25 (fun H locs O_24 eO_24 hM => ?_)
    have o_25 : O_17 x0 0 = some p0 := co_s eO_17
    have o_26 : O_18 x0 0 = some p0 := (co_k eO_18 (by decide)).trans o_25
    have o_27 : O_20 x0 0 = some p0 := (congrFun (cu_a eO_20 (fun z => hq_20 (z ▸ mx0))) 0).trans o_26
    have o_28 : O_24 x0 0 = some p0 := (co_k eO_24 (by decide)).trans o_27
    have o_29 : O_24 x0 3 = some q_20 := co_s eO_24
    have hnn_30 : ∀ k, cnn 3 k = true → O_24 x0 k ≠ none := fun k hk => by
      have hk2 : k = 0 ∨ k = 3 := by simpa [cnn] using hk
      rcases hk2 with rfl | rfl
      · rw [o_28]; exact fun z => by cases z
      · rw [o_29]; exact fun z => by cases z
    have b_31 : 0 ≤ (I_20 x0 4).toInt ∧ (I_20 x0 4).toInt ≤ 16 := hM.ib m_21 k_21 4 rfl
    have e_32 : (I_19 x0 4).toInt = (I x0 4).toInt := congrArg Int32.toInt (cu_k eI_19 (by decide))
    have e_33 : (I_20 x0 4).toInt = (I_19 x0 4).toInt := congrArg (fun z => Int32.toInt (z 4)) (cu_a eI_20 (fun z => hq_20 (z ▸ mx0)))
    have hM := hM.ret (κ := 3) m_21 k_21 (by decide) (fun _ _ => rfl) cib_r3 crt_r3 hnn_30 ⟨fun q => (by cases q), fun _ b hb j hj => absurd hj (by omega), fun _ => trivial, fun q => (by cases q)⟩ (Or.inr (List.mem_singleton.mpr rfl))
    exact cr_rv (mc := 1) (ms := 16) E hr hlk hsz hM ⟨show (1 : Nat) ≤ 1 from by omega, show (16 : Nat) ≤ 16 from by omega⟩ ⟨m_21, (va_up_self _ _ _), trivial⟩ dX3_init_28
def w4X5_raceAt : List Cond := .code yX5_raceAt cX5_raceAt 2 (some (.object "SkiShots$Race")) :: ([.fieldLink RX5 80 "SkiShots" "raceCount" "I", .fieldLink RX5 29 "SkiShots" "races" "[LSkiShots$Race;"] ++ wsX50)
set_option maxHeartbeats 4000000 in
set_option maxRecDepth 100000 in
theorem h4_X5_raceAt (l : Launch) (D : va_G) (cA : Nat → ClassId) (ad av : Nat → Nat) (L : List Nat) (K : Nat → Nat) (I : Nat → Nat → Int32) (O : Nat → Nat → Option Nat) (sz : Nat) (x0 : Nat) (p0 : Int32) (hI : cI L K I O) (mx0 : x0 ∈ L) (kx0 : K x0 = 5)  : Met l yX5_raceAt w4X5_raceAt ({ frames := 0, cells := 0, slots := 0, locals := 0 }) (cPre D cA ad av L K I O sz [.ref x0, .int p0]) (cQq D cA L K I O sz [] [] [] (fun r L' K' I' O' => (L' = L ∧ K' = K ∧ I' = I ∧ O' = O) ∧ (∀ b : Nat, r = some b → b ∈ L ∧ K b = 3))) 0 0 (va_A (cW cA L K I O) sz) := by
  refine cr_met (own := RX5) (xs := []) (WI := []) (WO := []) (cc := cX5_raceAt) (maxL := 2) (ret := (some (.object "SkiShots$Race"))) (by decide) rfl rfl (Nat.le_of_ble_eq_true rfl) hI ?_
  intro p e s m args below meth c ls E hV hml hr hlk hname hsz hA hM hl
  have hx := E.1
  have hb := E.2.1
  have hts := E.2.2.1
  have hown := E.2.2.2.1
  have hl : lv_has ls 2 [(0, .ref x0), (1, .int p0)] := hl
  have hin5 : ∀ w ∈ wsX50, w ∈ w4X5_raceAt := by decide +kernel
  refine lv_iload_n hx hb dX5_raceAt_0 rfl (lv_at hl 1 rfl) ?_
  refine mm_if_lt (X := p0.toInt) (tgt := 21) hx hb dX5_raceAt_1 (by decide) rfl (fun c_1 => ?_) (fun c_1 => ?_)
  · refine lv_null hx hb dX5_raceAt_21 ?_
    exact cr_rq (mc := 0) (ms := 0) (v := none) E hr hlk hsz hM ⟨show (0 : Nat) ≤ 0 from by omega, show (0 : Nat) ≤ 0 from by omega⟩ (Or.inl ⟨_, rfl⟩) ⟨⟨rfl, rfl, rfl, rfl⟩, (fun b h => by cases h)⟩ dX5_raceAt_22
  · refine lv_iload_n hx hb dX5_raceAt_4 rfl (lv_at hl 1 rfl) ?_
    refine lv_aload_n hx hb dX5_raceAt_5 rfl (lv_at hl 0 rfl) ?_
    have b_2 : 0 ≤ (I x0 10).toInt ∧ (I x0 10).toInt ≤ 8 := hM.ib mx0 kx0 10 rfl
    refine cr_get (κ := 5) (ci := 5) (k := 10) (C := RX5) (T := TX5) (N := 13) (fs := cfs 5) (v := .int (I x0 10)) E hM mx0 kx0 (fun _ _ => rfl) rfl hin5 (by decide) (index := 80) (mm_at 1 rfl) rfl rfl dX5_raceAt_6 ?_
    refine mm_icmp_ge (X := p0.toInt) (Y := (I x0 10).toInt) (tgt := 21) hx hb dX5_raceAt_9 (by decide) rfl rfl (fun c_3 => ?_) (fun c_3 => ?_)
    · refine lv_null hx hb dX5_raceAt_21 ?_
      exact cr_rq (mc := 0) (ms := 0) (v := none) E hr hlk hsz hM ⟨show (0 : Nat) ≤ 0 from by omega, show (0 : Nat) ≤ 0 from by omega⟩ (Or.inl ⟨_, rfl⟩) ⟨⟨rfl, rfl, rfl, rfl⟩, (fun b h => by cases h)⟩ dX5_raceAt_22
    · refine lv_aload_n hx hb dX5_raceAt_12 rfl (lv_at hl 0 rfl) ?_
      obtain ⟨x_4, o_4, m_4, k_4⟩ := hM.nn mx0 kx0 9 (κ' := 12) rfl rfl
      refine cr_get (κ := 5) (ci := 5) (k := 9) (C := RX5) (T := TX5) (N := 13) (fs := cfs 5) (v := .ref x_4) E hM mx0 kx0 (fun _ _ => rfl) rfl hin5 (by decide) (index := 29) (mm_at 2 rfl) rfl (by show some (va_rf (O x0 9)) = some (.ref x_4); rw [o_4]; rfl) dX5_raceAt_13 ?_
      refine lv_iload_n hx hb dX5_raceAt_16 rfl (lv_at hl 1 rfl) ?_
      rcases o_5 : O x_4 (Int32.toNatClampNeg p0) with _ | x_5
      · refine cr_aaldn (κ := 12) (t0 := 2) (X := p0.toInt) E hM m_4 k_4 (fun _ _ => rfl) rfl rfl (by omega) o_5 dX5_raceAt_17 ?_
        refine lv_goto (tgt := 22) hx hb dX5_raceAt_18 (by decide) ?_
        exact cr_rq (mc := 0) (ms := 0) (v := none) E hr hlk hsz hM ⟨show (0 : Nat) ≤ 0 from by omega, show (0 : Nat) ≤ 0 from by omega⟩ (Or.inl ⟨_, rfl⟩) ⟨⟨rfl, rfl, rfl, rfl⟩, (fun b h => by cases h)⟩ dX5_raceAt_22
      · obtain ⟨m_5, k_5⟩ := hM.rt m_4 k_4 (Int32.toNatClampNeg p0) (κ' := 3) rfl o_5
        refine cr_aalds (κ := 12) (t0 := 2) (X := p0.toInt) E hM m_4 k_4 (fun _ _ => rfl) rfl rfl (by omega) o_5 dX5_raceAt_17 ?_
        refine lv_goto (tgt := 22) hx hb dX5_raceAt_18 (by decide) ?_
        exact cr_rq (mc := 0) (ms := 0) (v := some x_5) E hr hlk hsz hM ⟨show (0 : Nat) ≤ 0 from by omega, show (0 : Nat) ≤ 0 from by omega⟩ (Or.inl ⟨_, rfl⟩) ⟨⟨rfl, rfl, rfl, rfl⟩, (fun b h => by cases h; exact ⟨m_5, k_5⟩)⟩ dX5_raceAt_22
def w4X5_entry : List Cond := .code yX5_entry cX5_entry 4 (some .int) :: ([.methodLink RX5 83 yX5_raceAt, .instanceMethod yX5_raceAt, .selects RX5 yX5_raceAt yX5_raceAt, .initialized RX5, .code yX5_raceAt cX5_raceAt 2 (some (.object "SkiShots$Race")), .fieldLink RX5 80 "SkiShots" "raceCount" "I", .fieldLink RX5 29 "SkiShots" "races" "[LSkiShots$Race;", .fieldLink RX5 106 "SkiShots$Race" "entryCount" "I", .fieldLink RX5 161 "SkiShots$Race" "entries" "[LSkiShots$Entry;", .fieldLink RX5 165 "SkiShots$Entry" "racer" "I"] ++ wsX00 ++ wsX30 ++ wsX50)
set_option maxRecDepth 20000 in
theorem gk_X5_entry_X5_raceAt_1 : GoodIn w4X5_entry (wsV RX5 83 RX5 yX5_raceAt w4X5_raceAt) := goodIn_p _ [5] rfl (by decide +kernel)
set_option maxHeartbeats 4000000 in
set_option maxRecDepth 100000 in
theorem h4_X5_entry (l : Launch) (D : va_G) (cA : Nat → ClassId) (ad av : Nat → Nat) (L : List Nat) (K : Nat → Nat) (I : Nat → Nat → Int32) (O : Nat → Nat → Option Nat) (sz : Nat) (x0 : Nat) (p0 : Int32) (p1 : Int32) (hI : cI L K I O) (mx0 : x0 ∈ L) (kx0 : K x0 = 5)  : Met l yX5_entry w4X5_entry ({ frames := 1, cells := 0, slots := 0, locals := 21 }) (cPre D cA ad av L K I O sz [.ref x0, .int p0, .int p1]) (cQi D cA L K I O sz [] [] [] (fun r L' K' I' O' => (L' = L ∧ K' = K ∧ I' = I ∧ O' = O) ∧ (True))) 0 0 (va_A (cW cA L K I O) sz) := by
  refine cr_met (own := RX5) (xs := []) (WI := []) (WO := []) (cc := cX5_entry) (maxL := 4) (ret := (some .int)) (by decide) rfl rfl (Nat.le_of_ble_eq_true rfl) hI ?_
  intro p e s m args below meth c ls E hV hml hr hlk hname hsz hA hM hl
  have hx := E.1
  have hb := E.2.1
  have hts := E.2.2.1
  have hown := E.2.2.2.1
  have hl : lv_has ls 4 [(0, .ref x0), (1, .int p0), (2, .int p1)] := hl
  have hin0 : ∀ w ∈ wsX00, w ∈ w4X5_entry := by decide +kernel
  have hin3 : ∀ w ∈ wsX30, w ∈ w4X5_entry := by decide +kernel
  have hin5 : ∀ w ∈ wsX50, w ∈ w4X5_entry := by decide +kernel
  refine lv_aload_n hx hb dX5_entry_0 rfl (lv_at hl 0 rfl) ?_
  refine lv_iload_n hx hb dX5_entry_1 rfl (lv_at hl 1 rfl) ?_
  refine cc_Vqp (vs := [.int p0]) (rest := []) (b := x0) (κ := 5) E hV rfl hA hml hM mx0 kx0 rfl rfl (h4_X5_raceAt l D cA ad av L K I O _ x0 p0 hM.2.2.2.1 mx0 kx0) (cwV 1 hts gk_X5_entry_X5_raceAt_1 rfl rfl rfl (by decide +kernel) ⟨Nat.le_of_ble_eq_true rfl, Nat.le_of_ble_eq_true rfl⟩) rfl hl.1 rfl (Nat.le_of_ble_eq_true rfl) dX5_entry_2 ⟨show (0 : Nat) ≤ 0 from by omega, show (0 : Nat) ≤ 0 from by omega⟩ (fun r_2 H locs p_3 hM => ?_)
  rcases r_2 with _ | x_5
  · show W _ _ _ _ _ _ _ _ _ _ _ _ _ _ _ (F0 m 5 ls [.null])
    refine lv_astore_nN (lv' := [(3, .null), (0, .ref x0), (1, .int p0), (2, .int p1)]) hx hb dX5_entry_5 rfl hl (by decide) rfl (fun ls hl => ?_)
    refine lv_aload_nN hx hb dX5_entry_6 rfl (lv_at hl 0 rfl) ?_
    refine lv_ifnullN (tgt := 22) hx hb dX5_entry_7 (by decide) ?_
    refine lv_iconst (v := (-1)) hx hb dX5_entry_22 (by decide) ?_
    exact cr_ri (mc := 0) (ms := 0) E hr hlk hsz hM ⟨show (0 : Nat) ≤ 0 from by omega, show (0 : Nat) ≤ 0 from by omega⟩ ⟨⟨rfl, rfl, rfl, rfl⟩, trivial⟩ dX5_entry_23
  · obtain ⟨m_5, k_5⟩ := p_3 x_5 rfl
    show W _ _ _ _ _ _ _ _ _ _ _ _ _ _ _ (F0 m 5 ls [.ref x_5])
    refine lv_astore_n (lv' := [(3, .ref x_5), (0, .ref x0), (1, .int p0), (2, .int p1)]) hx hb dX5_entry_5 rfl hl (by decide) rfl (fun ls hl => ?_)
    refine lv_aload_n hx hb dX5_entry_6 rfl (lv_at hl 0 rfl) ?_
    refine lv_ifnull hx hb dX5_entry_7 ?_
    refine lv_iload_n hx hb dX5_entry_10 rfl (lv_at hl 3 rfl) ?_
    refine mm_if_lt (X := p1.toInt) (tgt := 22) hx hb dX5_entry_11 (by decide) rfl (fun c_6 => ?_) (fun c_6 => ?_)
    · refine lv_iconst (v := (-1)) hx hb dX5_entry_22 (by decide) ?_
      exact cr_ri (mc := 0) (ms := 0) E hr hlk hsz hM ⟨show (0 : Nat) ≤ 0 from by omega, show (0 : Nat) ≤ 0 from by omega⟩ ⟨⟨rfl, rfl, rfl, rfl⟩, trivial⟩ dX5_entry_23
    · refine lv_iload_n hx hb dX5_entry_14 rfl (lv_at hl 3 rfl) ?_
      refine lv_aload_n hx hb dX5_entry_15 rfl (lv_at hl 0 rfl) ?_
      have b_7 : 0 ≤ (I x_5 4).toInt ∧ (I x_5 4).toInt ≤ 16 := hM.ib m_5 k_5 4 rfl
      refine cr_get (κ := 3) (ci := 3) (k := 4) (C := RX3) (T := TX3) (N := 7) (fs := cfs 3) (v := .int (I x_5 4)) E hM m_5 k_5 (fun _ _ => rfl) rfl hin3 (by decide) (index := 106) (mm_at 8 rfl) rfl rfl dX5_entry_16 ?_
      refine mm_icmp_lt (X := p1.toInt) (Y := (I x_5 4).toInt) (tgt := 24) hx hb dX5_entry_19 (by decide) rfl rfl (fun c_8 => ?_) (fun c_8 => ?_)
      · refine lv_aload_n hx hb dX5_entry_24 rfl (lv_at hl 0 rfl) ?_
        obtain ⟨x_9, o_9, m_9, k_9⟩ := hM.nn m_5 k_5 3 (κ' := 15) rfl rfl
        refine cr_get (κ := 3) (ci := 3) (k := 3) (C := RX3) (T := TX3) (N := 7) (fs := cfs 3) (v := .ref x_9) E hM m_5 k_5 (fun _ _ => rfl) rfl hin3 (by decide) (index := 161) (mm_at 9 rfl) rfl (by show some (va_rf (O x_5 3)) = some (.ref x_9); rw [o_9]; rfl) dX5_entry_25 ?_
        refine lv_iload_n hx hb dX5_entry_28 rfl (lv_at hl 3 rfl) ?_
        obtain ⟨x_10, o_10⟩ := c_nn ((hM.sp m_5 k_5).2.1 rfl x_9 o_9 (Int32.toNatClampNeg p1) (by rw [mm_nat]; omega))
        obtain ⟨m_10, k_10⟩ := hM.rt m_9 k_9 (Int32.toNatClampNeg p1) (κ' := 0) rfl o_10
        refine cr_aalds (κ := 15) (t0 := 4) (X := p1.toInt) E hM m_9 k_9 (fun _ _ => rfl) rfl rfl (by omega) o_10 dX5_entry_29 ?_
        have b_11 : 0 ≤ (I x_10 0).toInt ∧ (I x_10 0).toInt ≤ 15 := hM.ib m_10 k_10 0 rfl
        refine cr_get (κ := 0) (ci := 0) (k := 0) (C := RX0) (T := TX0) (N := 10) (fs := cfs 0) (v := .int (I x_10 0)) E hM m_10 k_10 (fun _ _ => rfl) rfl hin0 (by decide) (index := 165) (mm_at 10 rfl) rfl rfl dX5_entry_30 ?_
        exact cr_ri (mc := 0) (ms := 0) E hr hlk hsz hM ⟨show (0 : Nat) ≤ 0 from by omega, show (0 : Nat) ≤ 0 from by omega⟩ ⟨⟨rfl, rfl, rfl, rfl⟩, trivial⟩ dX5_entry_33
      · refine lv_iconst (v := (-1)) hx hb dX5_entry_22 (by decide) ?_
        exact cr_ri (mc := 0) (ms := 0) E hr hlk hsz hM ⟨show (0 : Nat) ≤ 0 from by omega, show (0 : Nat) ≤ 0 from by omega⟩ ⟨⟨rfl, rfl, rfl, rfl⟩, trivial⟩ dX5_entry_23
def w4X5_enter : List Cond := .code yX5_enter cX5_enter 4 (some .int) :: ([.methodLink RX5 83 yX5_raceAt, .instanceMethod yX5_raceAt, .selects RX5 yX5_raceAt yX5_raceAt, .initialized RX5, .code yX5_raceAt cX5_raceAt 2 (some (.object "SkiShots$Race")), .fieldLink RX5 80 "SkiShots" "raceCount" "I", .fieldLink RX5 29 "SkiShots" "races" "[LSkiShots$Race;", .methodLink RX5 93 yX5_isRacer, .instanceMethod yX5_isRacer, .selects RX5 yX5_isRacer yX5_isRacer, .code yX5_isRacer cX5_isRacer 2 (some .boolean), .fieldLink RX5 77 "SkiShots" "racerCount" "I", .fieldLink RX5 96 "SkiShots$Race" "told" "I", .methodLink RX5 99 yX3_entryOf, .instanceMethod yX3_entryOf, .selects RX3 yX3_entryOf yX3_entryOf, .initialized RX3, .code yX3_entryOf cX3_entryOf 3 (some (.object "SkiShots$Entry")), .fieldLink RX3 29 "SkiShots$Race" "entryCount" "I", .fieldLink RX3 25 "SkiShots$Race" "entries" "[LSkiShots$Entry;", .fieldLink RX3 35 "SkiShots$Entry" "racer" "I", .methodLink RX5 103 yX3_add, .instanceMethod yX3_add, .selects RX3 yX3_add yX3_add, .code yX3_add cX3_add 2 none, .classLink RX3 23 RX0, .instantiable RX0 10, .initialized RX0, .methodLink RX3 32 yX0_init, .instanceMethod yX0_init, .code yX0_init cX0_init 2 none, .methodLink RX0 3 objectInit, .instanceMethod objectInit, .code objectInit ⟨#[0xb1]⟩ 1 none, .fieldLink RX0 9 "SkiShots$Entry" "racer" "I", .fieldLink RX5 106 "SkiShots$Race" "entryCount" "I"] ++ wsX00 ++ wsX30 ++ wsX50)
set_option maxRecDepth 20000 in
theorem gk_X5_enter_X5_raceAt_1 : GoodIn w4X5_enter (wsV RX5 83 RX5 yX5_raceAt w4X5_raceAt) := goodIn_p _ [5] rfl (by decide +kernel)
set_option maxRecDepth 20000 in
theorem gk_X5_enter_X5_isRacer_6 : GoodIn w4X5_enter (wsV RX5 93 RX5 yX5_isRacer w4X5_isRacer) := goodIn_p _ [11] rfl (by decide +kernel)
set_option maxRecDepth 20000 in
theorem gk_X5_enter_X3_entryOf_13 : GoodIn w4X5_enter (wsV RX5 99 RX3 yX3_entryOf w4X3_entryOf) := goodIn_p _ [18] rfl (by decide +kernel)
set_option maxRecDepth 20000 in
theorem gk_X5_enter_X3_add_18 : GoodIn w4X5_enter (wsV RX5 103 RX3 yX3_add w4X3_add) := goodIn_p _ [25, 31, 34] rfl (by decide +kernel)
set_option maxHeartbeats 4000000 in
set_option maxRecDepth 100000 in
theorem h4_X5_enter (l : Launch) (D : va_G) (cA : Nat → ClassId) (ad av : Nat → Nat) (L : List Nat) (K : Nat → Nat) (I : Nat → Nat → Int32) (O : Nat → Nat → Option Nat) (sz : Nat) (x0 : Nat) (p0 : Int32) (p1 : Int32) (hI : cI L K I O) (mx0 : x0 ∈ L) (kx0 : K x0 = 5)  : Met l yX5_enter w4X5_enter ({ frames := 3, cells := 1, slots := 10, locals := 62 }) (cPre D cA ad av L K I O sz [.ref x0, .int p0, .int p1]) (cQi D cA L K I O sz [] [(0, 0), (3, 4)] [(15, 0)] (fun r L' K' I' O' => True)) 1 10 (va_A (cW cA L K I O) sz) := by
  refine cr_met (own := RX5) (xs := []) (WI := [(0, 0), (3, 4)]) (WO := [(15, 0)]) (cc := cX5_enter) (maxL := 4) (ret := (some .int)) (by decide) rfl rfl (Nat.le_of_ble_eq_true rfl) hI ?_
  intro p e s m args below meth c ls E hV hml hr hlk hname hsz hA hM hl
  have hx := E.1
  have hb := E.2.1
  have hts := E.2.2.1
  have hown := E.2.2.2.1
  have hl : lv_has ls 4 [(0, .ref x0), (1, .int p0), (2, .int p1)] := hl
  have hin0 : ∀ w ∈ wsX00, w ∈ w4X5_enter := by decide +kernel
  have hin3 : ∀ w ∈ wsX30, w ∈ w4X5_enter := by decide +kernel
  have hin5 : ∀ w ∈ wsX50, w ∈ w4X5_enter := by decide +kernel
  refine lv_aload_n hx hb dX5_enter_0 rfl (lv_at hl 0 rfl) ?_
  refine lv_iload_n hx hb dX5_enter_1 rfl (lv_at hl 1 rfl) ?_
  refine cc_Vqp (vs := [.int p0]) (rest := []) (b := x0) (κ := 5) E hV rfl hA hml hM mx0 kx0 rfl rfl (h4_X5_raceAt l D cA ad av L K I O _ x0 p0 hM.2.2.2.1 mx0 kx0) (cwV 1 hts gk_X5_enter_X5_raceAt_1 rfl rfl rfl (by decide +kernel) ⟨Nat.le_of_ble_eq_true rfl, Nat.le_of_ble_eq_true rfl⟩) rfl hl.1 rfl (Nat.le_of_ble_eq_true rfl) dX5_enter_2 ⟨show (0 : Nat) ≤ 1 from by omega, show (0 : Nat) ≤ 10 from by omega⟩ (fun r_2 H locs p_3 hM => ?_)
  rcases r_2 with _ | x_5
  · show W _ _ _ _ _ _ _ _ _ _ _ _ _ _ _ (F0 m 5 ls [.null])
    refine lv_astore_nN (lv' := [(3, .null), (0, .ref x0), (1, .int p0), (2, .int p1)]) hx hb dX5_enter_5 rfl hl (by decide) rfl (fun ls hl => ?_)
    refine lv_aload_nN hx hb dX5_enter_6 rfl (lv_at hl 0 rfl) ?_
    refine lv_ifnullN (tgt := 33) hx hb dX5_enter_7 (by decide) ?_
    refine lv_iconst (v := (-1)) hx hb dX5_enter_33 (by decide) ?_
    exact cr_ri (mc := 1) (ms := 10) E hr hlk hsz hM ⟨show (0 : Nat) ≤ 1 from by omega, show (0 : Nat) ≤ 10 from by omega⟩ trivial dX5_enter_34
  · obtain ⟨m_5, k_5⟩ := p_3 x_5 rfl
    show W _ _ _ _ _ _ _ _ _ _ _ _ _ _ _ (F0 m 5 ls [.ref x_5])
    refine lv_astore_n (lv' := [(3, .ref x_5), (0, .ref x0), (1, .int p0), (2, .int p1)]) hx hb dX5_enter_5 rfl hl (by decide) rfl (fun ls hl => ?_)
    refine lv_aload_n hx hb dX5_enter_6 rfl (lv_at hl 0 rfl) ?_
    refine lv_ifnull hx hb dX5_enter_7 ?_
    refine lv_aload_n hx hb dX5_enter_10 rfl (lv_at hl 1 rfl) ?_
    refine lv_iload_n hx hb dX5_enter_11 rfl (lv_at hl 3 rfl) ?_
    have b_7 : 0 ≤ (I x0 8).toInt ∧ (I x0 8).toInt ≤ 16 := hM.ib mx0 kx0 8 rfl
    refine cc_Vip (vs := [.int p1]) (rest := []) (b := x0) (κ := 5) E hV rfl hA hml hM mx0 kx0 rfl rfl (h4_X5_isRacer l D cA ad av L K I O _ x0 p1 hM.2.2.2.1 mx0 kx0) (cwV 1 hts gk_X5_enter_X5_isRacer_6 rfl rfl rfl (by decide +kernel) ⟨Nat.le_of_ble_eq_true rfl, Nat.le_of_ble_eq_true rfl⟩) rfl hl.1 rfl (Nat.le_of_ble_eq_true rfl) dX5_enter_12 ⟨show (0 : Nat) ≤ 1 from by omega, show (0 : Nat) ≤ 10 from by omega⟩ (fun r_8 H locs p_9 hM => ?_)
    replace p_9 : (r_8.toInt = 1 ∧ 0 ≤ p1.toInt ∧ p1.toInt < (I x0 8).toInt) ∨ (r_8.toInt = 0 ∧ ¬ (0 ≤ p1.toInt ∧ p1.toInt < (I x0 8).toInt)) := p_9
    refine mm_if_eq (X := r_8.toInt) (tgt := 33) hx hb dX5_enter_15 (by decide) rfl (fun c_11 => ?_) (fun c_11 => ?_)
    · refine lv_iconst (v := (-1)) hx hb dX5_enter_33 (by decide) ?_
      exact cr_ri (mc := 1) (ms := 10) E hr hlk hsz hM ⟨show (0 : Nat) ≤ 1 from by omega, show (0 : Nat) ≤ 10 from by omega⟩ trivial dX5_enter_34
    · refine lv_aload_n hx hb dX5_enter_18 rfl (lv_at hl 0 rfl) ?_
      refine cr_get (κ := 3) (ci := 3) (k := 5) (C := RX3) (T := TX3) (N := 7) (fs := cfs 3) (v := .int (I x_5 5)) E hM m_5 k_5 (fun _ _ => rfl) rfl hin3 (by decide) (index := 96) (mm_at 13 rfl) rfl rfl dX5_enter_19 ?_
      refine mm_if_gt (X := (I x_5 5).toInt) (tgt := 33) hx hb dX5_enter_22 (by decide) rfl (fun c_12 => ?_) (fun c_12 => ?_)
      · refine lv_iconst (v := (-1)) hx hb dX5_enter_33 (by decide) ?_
        exact cr_ri (mc := 1) (ms := 10) E hr hlk hsz hM ⟨show (0 : Nat) ≤ 1 from by omega, show (0 : Nat) ≤ 10 from by omega⟩ trivial dX5_enter_34
      · refine lv_aload_n hx hb dX5_enter_25 rfl (lv_at hl 0 rfl) ?_
        refine lv_iload_n hx hb dX5_enter_26 rfl (lv_at hl 3 rfl) ?_
        refine cc_Vqp (vs := [.int p1]) (rest := []) (b := x_5) (κ := 3) E hV rfl hA hml hM m_5 k_5 rfl rfl (h4_X3_entryOf l D cA ad av L K I O _ x_5 p1 hM.2.2.2.1 m_5 k_5) (cwV 1 hts gk_X5_enter_X3_entryOf_13 rfl rfl rfl (by decide +kernel) ⟨Nat.le_of_ble_eq_true rfl, Nat.le_of_ble_eq_true rfl⟩) rfl hl.1 rfl (Nat.le_of_ble_eq_true rfl) dX5_enter_27 ⟨show (0 : Nat) ≤ 1 from by omega, show (0 : Nat) ≤ 10 from by omega⟩ (fun r_14 H locs p_15 hM => ?_)
        rcases r_14 with _ | x_17
        · show W _ _ _ _ _ _ _ _ _ _ _ _ _ _ _ (F0 m 30 ls [.null])
          refine lv_ifnullN (tgt := 35) hx hb dX5_enter_30 (by decide) ?_
          refine lv_aload_n hx hb dX5_enter_35 rfl (lv_at hl 0 rfl) ?_
          refine lv_iload_n hx hb dX5_enter_36 rfl (lv_at hl 3 rfl) ?_
          refine cc_Vv (vs := [.int p1]) (rest := []) (b := x_5) (κ := 3) E hV rfl hA hml hM m_5 k_5 rfl rfl (h4_X3_add l D cA ad av L K I O _ x_5 p1 hM.2.2.2.1 m_5 k_5 (show 0 ≤ p1.toInt ∧ p1.toInt < 16 from by omega)) (cwV 1 hts gk_X5_enter_X3_add_18 rfl rfl rfl (by decide +kernel) ⟨Nat.le_of_ble_eq_true rfl, Nat.le_of_ble_eq_true rfl⟩) rfl hl.1 rfl (Nat.le_of_ble_eq_true rfl) dX5_enter_37 ⟨show (0 + 1 : Nat) ≤ 1 from by omega, show (0 + 10 : Nat) ≤ 10 from by omega⟩ (fun _ h => by cases h) (by decide) (by decide) (fun L_21 K_21 I_21 O_21 H locs fr_21 p_20 hM => ?_)
          have m_22 := (fr_21 x0 mx0 (fun z => by cases z)).1
          have k_22 : K_21 x0 = 5 := (fr_21 x0 mx0 (fun z => by cases z)).2.1.trans kx0
          have m_23 := (fr_21 x_5 m_5 (fun z => by cases z)).1
          have k_23 : K_21 x_5 = 3 := (fr_21 x_5 m_5 (fun z => by cases z)).2.1.trans k_5
          refine W.widen (k := 1) (n := 10) (by omega) (by omega) ?_
          refine lv_aload_n hx hb dX5_enter_40 rfl (lv_at hl 0 rfl) ?_
          have b_24 : 0 ≤ (I_21 x_5 4).toInt ∧ (I_21 x_5 4).toInt ≤ 16 := hM.ib m_23 k_23 4 rfl
          refine cr_get (κ := 3) (ci := 3) (k := 4) (C := RX3) (T := TX3) (N := 7) (fs := cfs 3) (v := .int (I_21 x_5 4)) E hM m_23 k_23 (fun _ _ => rfl) rfl hin3 (by decide) (index := 106) (mm_at 36 rfl) rfl rfl dX5_enter_41 ?_
          exact cr_ri (mc := 1) (ms := 10) E hr hlk hsz hM ⟨show (1 : Nat) ≤ 1 from by omega, show (10 : Nat) ≤ 10 from by omega⟩ trivial dX5_enter_44
        · obtain ⟨m_17, k_17⟩ := p_15 x_17 rfl
          show W _ _ _ _ _ _ _ _ _ _ _ _ _ _ _ (F0 m 30 ls [.ref x_17])
          refine lv_ifnull hx hb dX5_enter_30 ?_
          refine lv_iconst (v := (-1)) hx hb dX5_enter_33 (by decide) ?_
          exact cr_ri (mc := 1) (ms := 10) E hr hlk hsz hM ⟨show (0 : Nat) ≤ 1 from by omega, show (0 : Nat) ≤ 10 from by omega⟩ trivial dX5_enter_34
def w4X5_tell : List Cond := .code yX5_tell cX5_tell 8 (some .int) :: ([.methodLink RX5 83 yX5_raceAt, .instanceMethod yX5_raceAt, .selects RX5 yX5_raceAt yX5_raceAt, .initialized RX5, .code yX5_raceAt cX5_raceAt 2 (some (.object "SkiShots$Race")), .fieldLink RX5 80 "SkiShots" "raceCount" "I", .fieldLink RX5 29 "SkiShots" "races" "[LSkiShots$Race;", .fieldLink RX5 109 "SkiShots" "eventCount" "I", .methodLink RX5 99 yX3_entryOf, .instanceMethod yX3_entryOf, .selects RX3 yX3_entryOf yX3_entryOf, .initialized RX3, .code yX3_entryOf cX3_entryOf 3 (some (.object "SkiShots$Entry")), .fieldLink RX3 29 "SkiShots$Race" "entryCount" "I", .fieldLink RX3 25 "SkiShots$Race" "entries" "[LSkiShots$Entry;", .fieldLink RX3 35 "SkiShots$Entry" "racer" "I", .fieldLink RX5 112 "SkiShots$Race" "format" "LSkiShots$Format;", .methodLink RX5 116 yX2_hasEvent, .instanceMethod yX2_hasEvent, .selects RX2 yX2_hasEvent yX2_hasEvent, .initialized RX2, .code yX2_hasEvent cX2_hasEvent 3 (some .boolean), .fieldLink RX2 15 "SkiShots$Format" "laps" "I", .fieldLink RX2 18 "SkiShots$Format" "shootings" "I", .methodLink RX5 120 yX5_isValue, .static yX5_isValue, .code yX5_isValue cX5_isValue 2 (some .boolean), .constant RX5 227 (200000), .classLink RX5 123 RX1, .instantiable RX1 5, .initialized RX1, .fieldLink RX5 70 "SkiShots" "today" "I", .fieldLink RX5 125 "SkiShots$Entry" "latest" "LSkiShots$Event;", .methodLink RX5 131 yX1_init, .instanceMethod yX1_init, .code yX1_init cX1_init 6 none, .methodLink RX1 1 objectInit, .instanceMethod objectInit, .code objectInit ⟨#[0xb1]⟩ 1 none, .fieldLink RX1 7 "SkiShots$Event" "day" "I", .fieldLink RX1 13 "SkiShots$Event" "sort" "I", .fieldLink RX1 16 "SkiShots$Event" "k" "I", .fieldLink RX1 19 "SkiShots$Event" "v" "I", .fieldLink RX1 22 "SkiShots$Event" "before" "LSkiShots$Event;", .fieldLink RX5 96 "SkiShots$Race" "told" "I"] ++ wsX00 ++ wsX10 ++ wsX20 ++ wsX30 ++ wsX50)
set_option maxRecDepth 20000 in
theorem gk_X5_tell_X5_raceAt_1 : GoodIn w4X5_tell (wsV RX5 83 RX5 yX5_raceAt w4X5_raceAt) := goodIn_p _ [5] rfl (by decide +kernel)
set_option maxRecDepth 20000 in
theorem gk_X5_tell_X3_entryOf_8 : GoodIn w4X5_tell (wsV RX5 99 RX3 yX3_entryOf w4X3_entryOf) := goodIn_p _ [13] rfl (by decide +kernel)
set_option maxRecDepth 20000 in
theorem gk_X5_tell_X2_hasEvent_14 : GoodIn w4X5_tell (wsV RX5 116 RX2 yX2_hasEvent w4X2_hasEvent) := goodIn_p _ [22] rfl (by decide +kernel)
set_option maxRecDepth 20000 in
theorem gk_X5_tell_X5_isValue_19 : GoodIn w4X5_tell (va_wsS RX5 120 yX5_isValue w4X5_isValue) := goodIn_p _ [27] rfl (by decide +kernel)
set_option maxRecDepth 20000 in
theorem gk_X5_tell_X1_init_32 : GoodIn w4X5_tell (w4X1_init) := goodIn_p _ [36, 39] rfl (by decide +kernel)
set_option maxRecDepth 20000 in
theorem gk_X5_tell_X1_init_54 : GoodIn w4X5_tell (w4X1_init) := goodIn_p _ [36, 39] rfl (by decide +kernel)
set_option maxHeartbeats 4000000 in
set_option maxRecDepth 100000 in
theorem h4_X5_tell (l : Launch) (D : va_G) (cA : Nat → ClassId) (ad av : Nat → Nat) (L : List Nat) (K : Nat → Nat) (I : Nat → Nat → Int32) (O : Nat → Nat → Option Nat) (sz : Nat) (x0 : Nat) (p0 : Int32) (p1 : Int32) (p2 : Int32) (p3 : Int32) (p4 : Int32) (hI : cI L K I O) (mx0 : x0 ∈ L) (kx0 : K x0 = 5)  : Met l yX5_tell w4X5_tell ({ frames := 2, cells := 1, slots := 5, locals := 45 }) (cPre D cA ad av L K I O sz [.ref x0, .int p0, .int p1, .int p2, .int p3, .int p4]) (cQi D cA L K I O sz [] [(1, 0), (1, 1), (1, 2), (1, 3), (3, 5), (5, 11)] [(0, 1), (1, 4)] (fun r L' K' I' O' => True)) 1 5 (va_A (cW cA L K I O) sz) := by
  refine cr_met (own := RX5) (xs := []) (WI := [(1, 0), (1, 1), (1, 2), (1, 3), (3, 5), (5, 11)]) (WO := [(0, 1), (1, 4)]) (cc := cX5_tell) (maxL := 8) (ret := (some .int)) (by decide) rfl rfl (Nat.le_of_ble_eq_true rfl) hI ?_
  intro p e s m args below meth c ls E hV hml hr hlk hname hsz hA hM hl
  have hx := E.1
  have hb := E.2.1
  have hts := E.2.2.1
  have hown := E.2.2.2.1
  have hl : lv_has ls 8 [(0, .ref x0), (1, .int p0), (2, .int p1), (3, .int p2), (4, .int p3), (5, .int p4)] := hl
  have hin0 : ∀ w ∈ wsX00, w ∈ w4X5_tell := by decide +kernel
  have hin1 : ∀ w ∈ wsX10, w ∈ w4X5_tell := by decide +kernel
  have hin2 : ∀ w ∈ wsX20, w ∈ w4X5_tell := by decide +kernel
  have hin3 : ∀ w ∈ wsX30, w ∈ w4X5_tell := by decide +kernel
  have hin5 : ∀ w ∈ wsX50, w ∈ w4X5_tell := by decide +kernel
  refine lv_aload_n hx hb dX5_tell_0 rfl (lv_at hl 0 rfl) ?_
  refine lv_iload_n hx hb dX5_tell_1 rfl (lv_at hl 1 rfl) ?_
  refine cc_Vqp (vs := [.int p0]) (rest := []) (b := x0) (κ := 5) E hV rfl hA hml hM mx0 kx0 rfl rfl (h4_X5_raceAt l D cA ad av L K I O _ x0 p0 hM.2.2.2.1 mx0 kx0) (cwV 1 hts gk_X5_tell_X5_raceAt_1 rfl rfl rfl (by decide +kernel) ⟨Nat.le_of_ble_eq_true rfl, Nat.le_of_ble_eq_true rfl⟩) rfl hl.1 rfl (Nat.le_of_ble_eq_true rfl) dX5_tell_2 ⟨show (0 : Nat) ≤ 1 from by omega, show (0 : Nat) ≤ 5 from by omega⟩ (fun r_2 H locs p_3 hM => ?_)
  rcases r_2 with _ | x_5
  · show W _ _ _ _ _ _ _ _ _ _ _ _ _ _ _ (F0 m 5 ls [.null])
    refine lv_astoreN (lv' := [(6, .null), (0, .ref x0), (1, .int p0), (2, .int p1), (3, .int p2), (4, .int p3), (5, .int p4)]) hx hb dX5_tell_5 hl (by decide) rfl (fun ls hl => ?_)
    refine lv_aloadN hx hb dX5_tell_7 (lv_at hl 0 rfl) ?_
    refine lv_ifnullN (tgt := 22) hx hb dX5_tell_9 (by decide) ?_
    refine lv_iconst (v := (-1)) hx hb dX5_tell_22 (by decide) ?_
    exact cr_ri (mc := 1) (ms := 5) E hr hlk hsz hM ⟨show (0 : Nat) ≤ 1 from by omega, show (0 : Nat) ≤ 5 from by omega⟩ trivial dX5_tell_23
  · obtain ⟨m_5, k_5⟩ := p_3 x_5 rfl
    show W _ _ _ _ _ _ _ _ _ _ _ _ _ _ _ (F0 m 5 ls [.ref x_5])
    refine lv_astore (lv' := [(6, .ref x_5), (0, .ref x0), (1, .int p0), (2, .int p1), (3, .int p2), (4, .int p3), (5, .int p4)]) hx hb dX5_tell_5 hl (by decide) rfl (fun ls hl => ?_)
    refine lv_aload hx hb dX5_tell_7 (lv_at hl 0 rfl) ?_
    refine lv_ifnull hx hb dX5_tell_9 ?_
    refine lv_aload_n hx hb dX5_tell_12 rfl (lv_at hl 1 rfl) ?_
    have b_6 : 0 ≤ (I x0 11).toInt ∧ (I x0 11).toInt ≤ 400 := hM.ib mx0 kx0 11 rfl
    refine cr_get (κ := 5) (ci := 5) (k := 11) (C := RX5) (T := TX5) (N := 13) (fs := cfs 5) (v := .int (I x0 11)) E hM mx0 kx0 (fun _ _ => rfl) rfl hin5 (by decide) (index := 109) (mm_at 8 rfl) rfl rfl dX5_tell_13 ?_
    refine lv_sipush (v := 400) hx hb dX5_tell_16 (by decide) ?_
    refine mm_icmp_lt (X := (I x0 11).toInt) (Y := 400) (tgt := 24) hx hb dX5_tell_19 (by decide) rfl num_400 (fun c_7 => ?_) (fun c_7 => ?_)
    · refine lv_aload hx hb dX5_tell_24 (lv_at hl 0 rfl) ?_
      refine lv_iload_n hx hb dX5_tell_26 rfl (lv_at hl 3 rfl) ?_
      refine cc_Vqp (vs := [.int p1]) (rest := []) (b := x_5) (κ := 3) E hV rfl hA hml hM m_5 k_5 rfl rfl (h4_X3_entryOf l D cA ad av L K I O _ x_5 p1 hM.2.2.2.1 m_5 k_5) (cwV 1 hts gk_X5_tell_X3_entryOf_8 rfl rfl rfl (by decide +kernel) ⟨Nat.le_of_ble_eq_true rfl, Nat.le_of_ble_eq_true rfl⟩) rfl hl.1 rfl (Nat.le_of_ble_eq_true rfl) dX5_tell_27 ⟨show (0 : Nat) ≤ 1 from by omega, show (0 : Nat) ≤ 5 from by omega⟩ (fun r_9 H locs p_10 hM => ?_)
      rcases r_9 with _ | x_12
      · show W _ _ _ _ _ _ _ _ _ _ _ _ _ _ _ (F0 m 30 ls [.null])
        refine lv_astoreN (lv' := [(7, .null), (6, .ref x_5), (0, .ref x0), (1, .int p0), (2, .int p1), (3, .int p2), (4, .int p3), (5, .int p4)]) hx hb dX5_tell_30 hl (by decide) rfl (fun ls hl => ?_)
        refine lv_aloadN hx hb dX5_tell_32 (lv_at hl 0 rfl) ?_
        refine lv_ifnullN (tgt := 60) hx hb dX5_tell_34 (by decide) ?_
        refine lv_iconst (v := (-1)) hx hb dX5_tell_60 (by decide) ?_
        exact cr_ri (mc := 1) (ms := 5) E hr hlk hsz hM ⟨show (0 : Nat) ≤ 1 from by omega, show (0 : Nat) ≤ 5 from by omega⟩ trivial dX5_tell_61
      · obtain ⟨m_12, k_12⟩ := p_10 x_12 rfl
        show W _ _ _ _ _ _ _ _ _ _ _ _ _ _ _ (F0 m 30 ls [.ref x_12])
        refine lv_astore (lv' := [(7, .ref x_12), (6, .ref x_5), (0, .ref x0), (1, .int p0), (2, .int p1), (3, .int p2), (4, .int p3), (5, .int p4)]) hx hb dX5_tell_30 hl (by decide) rfl (fun ls hl => ?_)
        refine lv_aload hx hb dX5_tell_32 (lv_at hl 0 rfl) ?_
        refine lv_ifnull hx hb dX5_tell_34 ?_
        refine lv_aload hx hb dX5_tell_37 (lv_at hl 1 rfl) ?_
        obtain ⟨x_13, o_13, m_13, k_13⟩ := hM.nn m_5 k_5 0 (κ' := 2) rfl rfl
        refine cr_get (κ := 3) (ci := 3) (k := 0) (C := RX3) (T := TX3) (N := 7) (fs := cfs 3) (v := .ref x_13) E hM m_5 k_5 (fun _ _ => rfl) rfl hin3 (by decide) (index := 112) (mm_at 17 rfl) rfl (by show some (va_rf (O x_5 0)) = some (.ref x_13); rw [o_13]; rfl) dX5_tell_39 ?_
        refine lv_iload_n hx hb dX5_tell_42 rfl (lv_at hl 5 rfl) ?_
        refine lv_iload hx hb dX5_tell_43 (lv_at hl 6 rfl) ?_
        refine cc_Vip (vs := [.int p2, .int p3]) (rest := []) (b := x_13) (κ := 2) E hV rfl hA hml hM m_13 k_13 rfl rfl (h4_X2_hasEvent l D cA ad av L K I O _ x_13 p2 p3 hM.2.2.2.1 m_13 k_13) (cwV 2 hts gk_X5_tell_X2_hasEvent_14 rfl rfl rfl (by decide +kernel) ⟨Nat.le_of_ble_eq_true rfl, Nat.le_of_ble_eq_true rfl⟩) rfl hl.1 rfl (Nat.le_of_ble_eq_true rfl) dX5_tell_45 ⟨show (0 : Nat) ≤ 1 from by omega, show (0 : Nat) ≤ 5 from by omega⟩ (fun r_15 H locs p_16 hM => ?_)
        refine mm_if_eq (X := r_15.toInt) (tgt := 60) hx hb dX5_tell_48 (by decide) rfl (fun c_18 => ?_) (fun c_18 => ?_)
        · refine lv_iconst (v := (-1)) hx hb dX5_tell_60 (by decide) ?_
          exact cr_ri (mc := 1) (ms := 5) E hr hlk hsz hM ⟨show (0 : Nat) ≤ 1 from by omega, show (0 : Nat) ≤ 5 from by omega⟩ trivial dX5_tell_61
        · refine lv_iload_n hx hb dX5_tell_51 rfl (lv_at hl 5 rfl) ?_
          refine lv_iload hx hb dX5_tell_52 (lv_at hl 7 rfl) ?_
          refine cc_Sip (vs := [.int p2, .int p4]) (rest := []) E hV rfl hA hml hM (h4_X5_isValue l D cA ad av L K I O _ p2 p4 hM.2.2.2.1 ) (va_cwS 2 hts gk_X5_tell_X5_isValue_19 rfl rfl rfl (by decide +kernel) ⟨Nat.le_of_ble_eq_true rfl, Nat.le_of_ble_eq_true rfl⟩) rfl hl.1 rfl (Nat.le_of_ble_eq_true rfl) dX5_tell_54 ⟨show (0 : Nat) ≤ 1 from by omega, show (0 : Nat) ≤ 5 from by omega⟩ (fun r_20 H locs p_21 hM => ?_)
          refine mm_if_ne (X := r_20.toInt) (tgt := 62) hx hb dX5_tell_57 (by decide) rfl (fun c_23 => ?_) (fun c_23 => ?_)
          · refine lv_aload hx hb dX5_tell_62 (lv_at hl 0 rfl) ?_
            have hM0_24 := hM
            refine cr_new (κ := 1) (ci := 1) (C := RX1) (T := TX1) (N := 5) E hA hM (fun _ _ => rfl) rfl hin1 tyX1 tyX1_ok (mm_at 29 rfl) (mm_at 30 rfl) (mm_at 31 rfl) (fun j hj => by rcases (show j = 0 ∨ j = 1 ∨ j = 2 ∨ j = 3 ∨ j = 4 by omega) with rfl | rfl | rfl | rfl | rfl <;> rfl) (fun _ => rfl) (by decide) (show (0 + 1 : Nat) ≤ 1 from by omega) (show (0 + 5 : Nat) ≤ 5 from by omega) dX5_tell_64 (fun q_24 H L_24 K_24 I_24 O_24 hq_24 eL_24 eK_24 eI_24 eO_24 tr_24 mq_24 kq_24 hM => ?_)
            have hn_24 : q_24 ∉ L := fun z => hq_24 (hM0_24.2.2.2.2 q_24 z (fun z => by cases z)).1
            have m_25 := (tr_24 x0 mx0).1
            have k_25 : K_24 x0 = 5 := (tr_24 x0 mx0).2.trans kx0
            have m_26 := (tr_24 x_5 m_5).1
            have k_26 : K_24 x_5 = 3 := (tr_24 x_5 m_5).2.trans k_5
            have m_27 := (tr_24 x_12 m_12).1
            have k_27 : K_24 x_12 = 0 := (tr_24 x_12 m_12).2.trans k_12
            have m_28 := (tr_24 x_13 m_13).1
            have k_28 : K_24 x_13 = 2 := (tr_24 x_13 m_13).2.trans k_13
            refine W.widen (k := 1) (n := 5) (by omega) (by omega) ?_
            refine lv_dup hx hb dX5_tell_67 rfl ?_
            refine lv_aload_n hx hb dX5_tell_68 rfl (lv_at hl 2 rfl) ?_
            have b_29 : 0 ≤ (I_24 x0 6).toInt ∧ (I_24 x0 6).toInt ≤ 200 := hM.ib m_25 k_25 6 rfl
            have e_30 : (I_24 x0 6).toInt = (I x0 6).toInt := congrArg (fun z => Int32.toInt (z 6)) (cu_a eI_24 (fun z => hq_24 (z ▸ mx0)))
            refine cr_get (κ := 5) (ci := 5) (k := 6) (C := RX5) (T := TX5) (N := 13) (fs := cfs 5) (v := .int (I_24 x0 6)) E hM m_25 k_25 (fun _ _ => rfl) rfl hin5 (by decide) (index := 70) (mm_at 32 rfl) rfl rfl dX5_tell_69 ?_
            refine lv_iload_n hx hb dX5_tell_72 rfl (lv_at hl 5 rfl) ?_
            refine lv_iload hx hb dX5_tell_73 (lv_at hl 6 rfl) ?_
            refine lv_iload hx hb dX5_tell_75 (lv_at hl 7 rfl) ?_
            refine lv_aload hx hb dX5_tell_77 (lv_at hl 0 rfl) ?_
            rcases o_31 : O_24 x_12 1 with _ | x_31
            · refine cr_get (κ := 0) (ci := 0) (k := 1) (C := RX0) (T := TX0) (N := 10) (fs := cfs 0) (v := .null) E hM m_27 k_27 (fun _ _ => rfl) rfl hin0 (by decide) (index := 125) (mm_at 33 rfl) rfl (by show some (va_rf (O_24 x_12 1)) = some (.null); rw [o_31]; rfl) dX5_tell_79 ?_
              refine cc_Iv (vs := [.int (I_24 x0 6), .int p2, .int p3, .int p4, .null]) (rest := [.ref q_24, .ref x_12]) (ret := none) (b := q_24) E hV rfl hA hml hM (h4_X1_init l D cA ad av L_24 K_24 I_24 O_24 _ q_24 (I_24 x0 6) p2 p3 p4 none hM.2.2.2.1 mq_24 kq_24 (fun b h => by cases h) (fun b h => by cases h)) (cwI 5 hts gk_X5_tell_X1_init_32 rfl rfl rfl (hts _ (mm_at 31 rfl)) (hts _ (mm_at 34 rfl)) (hts _ (mm_at 35 rfl)) rfl (by decide +kernel) ⟨Nat.le_of_ble_eq_true rfl, Nat.le_of_ble_eq_true rfl⟩) rfl hl.1 rfl (Nat.le_of_ble_eq_true rfl) dX5_tell_82 ⟨show (1 + 0 : Nat) ≤ 1 from by omega, show (5 + 0 : Nat) ≤ 5 from by omega⟩ (fun _ h => by cases h) (by decide) (by decide) (fun L_35 K_35 I_35 O_35 H locs fr_35 p_34 hM => ?_)
              have m_36 := (fr_35 x0 m_25 (fun z => by cases z)).1
              have k_36 : K_35 x0 = 5 := (fr_35 x0 m_25 (fun z => by cases z)).2.1.trans k_25
              have m_37 := (fr_35 x_5 m_26 (fun z => by cases z)).1
              have k_37 : K_35 x_5 = 3 := (fr_35 x_5 m_26 (fun z => by cases z)).2.1.trans k_26
              have m_38 := (fr_35 x_12 m_27 (fun z => by cases z)).1
              have k_38 : K_35 x_12 = 0 := (fr_35 x_12 m_27 (fun z => by cases z)).2.1.trans k_27
              have m_39 := (fr_35 x_13 m_28 (fun z => by cases z)).1
              have k_39 : K_35 x_13 = 2 := (fr_35 x_13 m_28 (fun z => by cases z)).2.1.trans k_28
              have m_40 := (fr_35 q_24 mq_24 (fun z => by cases z)).1
              have k_40 : K_35 q_24 = 1 := (fr_35 q_24 mq_24 (fun z => by cases z)).2.1.trans kq_24
              refine cr_puto (κ := 0) (ci := 0) (k := 1) (C := RX0) (T := TX0) (N := 10) (fs := cfs 0) (ty := .object "SkiShots$Event") (w := some q_24) E hM m_38 k_38 (fun _ _ => rfl) rfl hin0 tyX0 tyX0_ok nmX0 (by decide) (index := 125) (mm_at 33 rfl) rfl (Or.inl rfl) (by decide +kernel) rfl rfl (show (1 : Nat) < 10 from by decide) (fun _ _ _ => rfl) (by decide) (fun _ b h1 h2 => by cases h1; cases h2; exact ⟨m_40, k_40⟩) (fun h => by cases h) (cS.k0 (by decide)) (Or.inr (Or.inr rfl)) dX5_tell_85 (fun H locs O_41 eO_41 hM => ?_)
              refine lv_aload hx hb dX5_tell_88 (lv_at hl 1 rfl) ?_
              refine lv_dup hx hb dX5_tell_90 rfl ?_
              have e_42 : (I_24 x_5 5).toInt = (I x_5 5).toInt := congrArg (fun z => Int32.toInt (z 5)) (cu_a eI_24 (fun z => hq_24 (z ▸ m_5)))
              have e_43 : (I_35 x_5 5).toInt = (I_24 x_5 5).toInt := congrArg Int32.toInt ((fr_35 x_5 m_26 (fun z => by cases z)).2.2.1 5 (by rw [k_26]; rfl))
              refine cr_get (κ := 3) (ci := 3) (k := 5) (C := RX3) (T := TX3) (N := 7) (fs := cfs 3) (v := .int (I_35 x_5 5)) E hM m_37 k_37 (fun _ _ => rfl) rfl hin3 (by decide) (index := 96) (mm_at 45 rfl) rfl rfl dX5_tell_91 ?_
              refine lv_iconst (v := 1) hx hb dX5_tell_94 (by decide) ?_
              refine mm_iaddU hx hb dX5_tell_95 (fun z_44 => ?_)
              refine cr_puti (κ := 3) (ci := 3) (k := 5) (C := RX3) (T := TX3) (N := 7) (fs := cfs 3) (ty := .int) (v := z_44) E hM m_37 k_37 (fun _ _ => rfl) rfl hin3 tyX3 tyX3_ok nmX3 (by decide) (index := 96) (mm_at 45 rfl) rfl (Or.inl rfl) (by decide +kernel) rfl rfl (show (5 : Nat) < 7 from by decide) (fun _ _ _ => rfl) (cz_nb rfl) (cS_upd (hM.sp m_37 k_37) (by decide) (by decide)) (Or.inr (Or.inr rfl)) dX5_tell_96 (fun H locs I_45 eI_45 hM => ?_)
              refine lv_aload_n hx hb dX5_tell_99 rfl (lv_at hl 2 rfl) ?_
              refine lv_dup hx hb dX5_tell_100 rfl ?_
              have b_46 : 0 ≤ (I_45 x0 11).toInt ∧ (I_45 x0 11).toInt ≤ 400 := hM.ib m_36 k_36 11 rfl
              have e_47 : (I_24 x0 11).toInt = (I x0 11).toInt := congrArg (fun z => Int32.toInt (z 11)) (cu_a eI_24 (fun z => hq_24 (z ▸ mx0)))
              have e_48 : (I_35 x0 11).toInt = (I_24 x0 11).toInt := congrArg Int32.toInt ((fr_35 x0 m_25 (fun z => by cases z)).2.2.1 11 (by rw [k_25]; rfl))
              have e_49 : (I_45 x0 11).toInt = (I_35 x0 11).toInt := congrArg Int32.toInt (cu_k eI_45 (by decide))
              refine cr_get (κ := 5) (ci := 5) (k := 11) (C := RX5) (T := TX5) (N := 13) (fs := cfs 5) (v := .int (I_45 x0 11)) E hM m_36 k_36 (fun _ _ => rfl) rfl hin5 (by decide) (index := 109) (mm_at 8 rfl) rfl rfl dX5_tell_101 ?_
              refine lv_iconst (v := 1) hx hb dX5_tell_104 (by decide) ?_
              refine mm_iadd (X := (I_45 x0 11).toInt) (Y := 1) hx hb dX5_tell_105 rfl num_1 (by omega) (fun z_50 hz_50 => ?_)
              refine cr_puti (κ := 5) (ci := 5) (k := 11) (C := RX5) (T := TX5) (N := 13) (fs := cfs 5) (ty := .int) (v := z_50) E hM m_36 k_36 (fun _ _ => rfl) rfl hin5 tyX5 tyX5_ok nmX5 (by decide) (index := 109) (mm_at 8 rfl) rfl (Or.inl rfl) (by decide +kernel) rfl rfl (show (11 : Nat) < 13 from by decide) (fun _ _ _ => rfl) (cz_bd (X := z_50.toInt) (a := 0) (b := 400) rfl rfl (by omega)) (cS_upd (hM.sp m_36 k_36) (by decide) (by decide)) (Or.inr (Or.inr rfl)) dX5_tell_106 (fun H locs I_51 eI_51 hM => ?_)
              refine lv_aload_n hx hb dX5_tell_109 rfl (lv_at hl 2 rfl) ?_
              have b_52 : 0 ≤ (I_51 x0 11).toInt ∧ (I_51 x0 11).toInt ≤ 400 := hM.ib m_36 k_36 11 rfl
              have e_53 : (I_51 x0 11).toInt = z_50.toInt := (congrArg Int32.toInt (cu_s eI_51)).trans rfl
              refine cr_get (κ := 5) (ci := 5) (k := 11) (C := RX5) (T := TX5) (N := 13) (fs := cfs 5) (v := .int (I_51 x0 11)) E hM m_36 k_36 (fun _ _ => rfl) rfl hin5 (by decide) (index := 109) (mm_at 8 rfl) rfl rfl dX5_tell_110 ?_
              exact cr_ri (mc := 1) (ms := 5) E hr hlk hsz hM ⟨show (1 : Nat) ≤ 1 from by omega, show (5 : Nat) ≤ 5 from by omega⟩ trivial dX5_tell_113
            · obtain ⟨m_31, k_31⟩ := hM.rt m_27 k_27 1 (κ' := 1) rfl o_31
              refine cr_get (κ := 0) (ci := 0) (k := 1) (C := RX0) (T := TX0) (N := 10) (fs := cfs 0) (v := .ref x_31) E hM m_27 k_27 (fun _ _ => rfl) rfl hin0 (by decide) (index := 125) (mm_at 33 rfl) rfl (by show some (va_rf (O_24 x_12 1)) = some (.ref x_31); rw [o_31]; rfl) dX5_tell_79 ?_
              refine cc_Iv (vs := [.int (I_24 x0 6), .int p2, .int p3, .int p4, .ref x_31]) (rest := [.ref q_24, .ref x_12]) (ret := none) (b := q_24) E hV rfl hA hml hM (h4_X1_init l D cA ad av L_24 K_24 I_24 O_24 _ q_24 (I_24 x0 6) p2 p3 p4 (some x_31) hM.2.2.2.1 mq_24 kq_24 (fun b h => by cases h; exact ⟨m_31, k_31⟩) (fun b h => by cases h; rw [eL_24]; exact c_rk ((hM0_24.rt m_12 k_12 1 (κ' := 1) rfl ((congrFun (cu_a eO_24 (fun z => hq_24 (z ▸ m_12))) 1).symm.trans o_31)).1) hq_24)) (cwI 5 hts gk_X5_tell_X1_init_54 rfl rfl rfl (hts _ (mm_at 31 rfl)) (hts _ (mm_at 34 rfl)) (hts _ (mm_at 35 rfl)) rfl (by decide +kernel) ⟨Nat.le_of_ble_eq_true rfl, Nat.le_of_ble_eq_true rfl⟩) rfl hl.1 rfl (Nat.le_of_ble_eq_true rfl) dX5_tell_82 ⟨show (1 + 0 : Nat) ≤ 1 from by omega, show (5 + 0 : Nat) ≤ 5 from by omega⟩ (fun _ h => by cases h) (by decide) (by decide) (fun L_57 K_57 I_57 O_57 H locs fr_57 p_56 hM => ?_)
              have m_58 := (fr_57 x0 m_25 (fun z => by cases z)).1
              have k_58 : K_57 x0 = 5 := (fr_57 x0 m_25 (fun z => by cases z)).2.1.trans k_25
              have m_59 := (fr_57 x_5 m_26 (fun z => by cases z)).1
              have k_59 : K_57 x_5 = 3 := (fr_57 x_5 m_26 (fun z => by cases z)).2.1.trans k_26
              have m_60 := (fr_57 x_12 m_27 (fun z => by cases z)).1
              have k_60 : K_57 x_12 = 0 := (fr_57 x_12 m_27 (fun z => by cases z)).2.1.trans k_27
              have m_61 := (fr_57 x_13 m_28 (fun z => by cases z)).1
              have k_61 : K_57 x_13 = 2 := (fr_57 x_13 m_28 (fun z => by cases z)).2.1.trans k_28
              have m_62 := (fr_57 q_24 mq_24 (fun z => by cases z)).1
              have k_62 : K_57 q_24 = 1 := (fr_57 q_24 mq_24 (fun z => by cases z)).2.1.trans kq_24
              have m_63 := (fr_57 x_31 m_31 (fun z => by cases z)).1
              have k_63 : K_57 x_31 = 1 := (fr_57 x_31 m_31 (fun z => by cases z)).2.1.trans k_31
              refine cr_puto (κ := 0) (ci := 0) (k := 1) (C := RX0) (T := TX0) (N := 10) (fs := cfs 0) (ty := .object "SkiShots$Event") (w := some q_24) E hM m_60 k_60 (fun _ _ => rfl) rfl hin0 tyX0 tyX0_ok nmX0 (by decide) (index := 125) (mm_at 33 rfl) rfl (Or.inl rfl) (by decide +kernel) rfl rfl (show (1 : Nat) < 10 from by decide) (fun _ _ _ => rfl) (by decide) (fun _ b h1 h2 => by cases h1; cases h2; exact ⟨m_62, k_62⟩) (fun h => by cases h) (cS.k0 (by decide)) (Or.inr (Or.inr rfl)) dX5_tell_85 (fun H locs O_64 eO_64 hM => ?_)
              refine lv_aload hx hb dX5_tell_88 (lv_at hl 1 rfl) ?_
              refine lv_dup hx hb dX5_tell_90 rfl ?_
              have e_65 : (I_24 x_5 5).toInt = (I x_5 5).toInt := congrArg (fun z => Int32.toInt (z 5)) (cu_a eI_24 (fun z => hq_24 (z ▸ m_5)))
              have e_66 : (I_57 x_5 5).toInt = (I_24 x_5 5).toInt := congrArg Int32.toInt ((fr_57 x_5 m_26 (fun z => by cases z)).2.2.1 5 (by rw [k_26]; rfl))
              refine cr_get (κ := 3) (ci := 3) (k := 5) (C := RX3) (T := TX3) (N := 7) (fs := cfs 3) (v := .int (I_57 x_5 5)) E hM m_59 k_59 (fun _ _ => rfl) rfl hin3 (by decide) (index := 96) (mm_at 45 rfl) rfl rfl dX5_tell_91 ?_
              refine lv_iconst (v := 1) hx hb dX5_tell_94 (by decide) ?_
              refine mm_iaddU hx hb dX5_tell_95 (fun z_67 => ?_)
              refine cr_puti (κ := 3) (ci := 3) (k := 5) (C := RX3) (T := TX3) (N := 7) (fs := cfs 3) (ty := .int) (v := z_67) E hM m_59 k_59 (fun _ _ => rfl) rfl hin3 tyX3 tyX3_ok nmX3 (by decide) (index := 96) (mm_at 45 rfl) rfl (Or.inl rfl) (by decide +kernel) rfl rfl (show (5 : Nat) < 7 from by decide) (fun _ _ _ => rfl) (cz_nb rfl) (cS_upd (hM.sp m_59 k_59) (by decide) (by decide)) (Or.inr (Or.inr rfl)) dX5_tell_96 (fun H locs I_68 eI_68 hM => ?_)
              refine lv_aload_n hx hb dX5_tell_99 rfl (lv_at hl 2 rfl) ?_
              refine lv_dup hx hb dX5_tell_100 rfl ?_
              have b_69 : 0 ≤ (I_68 x0 11).toInt ∧ (I_68 x0 11).toInt ≤ 400 := hM.ib m_58 k_58 11 rfl
              have e_70 : (I_24 x0 11).toInt = (I x0 11).toInt := congrArg (fun z => Int32.toInt (z 11)) (cu_a eI_24 (fun z => hq_24 (z ▸ mx0)))
              have e_71 : (I_57 x0 11).toInt = (I_24 x0 11).toInt := congrArg Int32.toInt ((fr_57 x0 m_25 (fun z => by cases z)).2.2.1 11 (by rw [k_25]; rfl))
              have e_72 : (I_68 x0 11).toInt = (I_57 x0 11).toInt := congrArg Int32.toInt (cu_k eI_68 (by decide))
              refine cr_get (κ := 5) (ci := 5) (k := 11) (C := RX5) (T := TX5) (N := 13) (fs := cfs 5) (v := .int (I_68 x0 11)) E hM m_58 k_58 (fun _ _ => rfl) rfl hin5 (by decide) (index := 109) (mm_at 8 rfl) rfl rfl dX5_tell_101 ?_
              refine lv_iconst (v := 1) hx hb dX5_tell_104 (by decide) ?_
              refine mm_iadd (X := (I_68 x0 11).toInt) (Y := 1) hx hb dX5_tell_105 rfl num_1 (by omega) (fun z_73 hz_73 => ?_)
              refine cr_puti (κ := 5) (ci := 5) (k := 11) (C := RX5) (T := TX5) (N := 13) (fs := cfs 5) (ty := .int) (v := z_73) E hM m_58 k_58 (fun _ _ => rfl) rfl hin5 tyX5 tyX5_ok nmX5 (by decide) (index := 109) (mm_at 8 rfl) rfl (Or.inl rfl) (by decide +kernel) rfl rfl (show (11 : Nat) < 13 from by decide) (fun _ _ _ => rfl) (cz_bd (X := z_73.toInt) (a := 0) (b := 400) rfl rfl (by omega)) (cS_upd (hM.sp m_58 k_58) (by decide) (by decide)) (Or.inr (Or.inr rfl)) dX5_tell_106 (fun H locs I_74 eI_74 hM => ?_)
              refine lv_aload_n hx hb dX5_tell_109 rfl (lv_at hl 2 rfl) ?_
              have b_75 : 0 ≤ (I_74 x0 11).toInt ∧ (I_74 x0 11).toInt ≤ 400 := hM.ib m_58 k_58 11 rfl
              have e_76 : (I_74 x0 11).toInt = z_73.toInt := (congrArg Int32.toInt (cu_s eI_74)).trans rfl
              refine cr_get (κ := 5) (ci := 5) (k := 11) (C := RX5) (T := TX5) (N := 13) (fs := cfs 5) (v := .int (I_74 x0 11)) E hM m_58 k_58 (fun _ _ => rfl) rfl hin5 (by decide) (index := 109) (mm_at 8 rfl) rfl rfl dX5_tell_110 ?_
              exact cr_ri (mc := 1) (ms := 5) E hr hlk hsz hM ⟨show (1 : Nat) ≤ 1 from by omega, show (5 : Nat) ≤ 5 from by omega⟩ trivial dX5_tell_113
          · refine lv_iconst (v := (-1)) hx hb dX5_tell_60 (by decide) ?_
            exact cr_ri (mc := 1) (ms := 5) E hr hlk hsz hM ⟨show (0 : Nat) ≤ 1 from by omega, show (0 : Nat) ≤ 5 from by omega⟩ trivial dX5_tell_61
    · refine lv_iconst (v := (-1)) hx hb dX5_tell_22 (by decide) ?_
      exact cr_ri (mc := 1) (ms := 5) E hr hlk hsz hM ⟨show (0 : Nat) ≤ 1 from by omega, show (0 : Nat) ≤ 5 from by omega⟩ trivial dX5_tell_23
def w4X5_race : List Cond := .code yX5_race cX5_race 6 (some .int) :: ([.fieldLink RX5 80 "SkiShots" "raceCount" "I", .fieldLink RX5 15 "SkiShots" "formatsByName" "[LSkiShots$Format;", .methodLink RX5 83 yX5_raceAt, .instanceMethod yX5_raceAt, .selects RX5 yX5_raceAt yX5_raceAt, .initialized RX5, .code yX5_raceAt cX5_raceAt 2 (some (.object "SkiShots$Race")), .fieldLink RX5 29 "SkiShots" "races" "[LSkiShots$Race;", .fieldLink RX5 87 "SkiShots$Format" "startSort" "I", .classLink RX5 27 RX3, .instantiable RX3 7, .initialized RX3, .methodLink RX5 90 yX3_init, .instanceMethod yX3_init, .code yX3_init cX3_init 4 none, .methodLink RX3 3 objectInit, .instanceMethod objectInit, .code objectInit ⟨#[0xb1]⟩ 1 none, .fieldLink RX3 9 "SkiShots$Race" "format" "LSkiShots$Format;", .fieldLink RX3 15 "SkiShots$Race" "by" "LSkiShots$Race;", .fieldLink RX3 19 "SkiShots$Race" "byNumber" "I", .classLink RX3 23 RX0, .fieldLink RX3 25 "SkiShots$Race" "entries" "[LSkiShots$Entry;"] ++ wsX20 ++ wsX30 ++ wsX50)
set_option maxRecDepth 20000 in
theorem gk_X5_race_X5_raceAt_7 : GoodIn w4X5_race (wsV RX5 83 RX5 yX5_raceAt w4X5_raceAt) := goodIn_p _ [7] rfl (by decide +kernel)
set_option maxRecDepth 20000 in
theorem gk_X5_race_X3_init_22 : GoodIn w4X5_race (w4X3_init) := goodIn_p _ [15, 18] rfl (by decide +kernel)
set_option maxRecDepth 20000 in
theorem gk_X5_race_X3_init_58 : GoodIn w4X5_race (w4X3_init) := goodIn_p _ [15, 18] rfl (by decide +kernel)
set_option maxRecDepth 20000 in
theorem gk_X5_race_X3_init_91 : GoodIn w4X5_race (w4X3_init) := goodIn_p _ [15, 18] rfl (by decide +kernel)
set_option maxHeartbeats 4000000 in
set_option maxRecDepth 100000 in
theorem h4_X5_race (l : Launch) (D : va_G) (cA : Nat → ClassId) (ad av : Nat → Nat) (L : List Nat) (K : Nat → Nat) (I : Nat → Nat → Int32) (O : Nat → Nat → Option Nat) (sz : Nat) (x0 : Nat) (p0 : Int32) (p1 : Int32) (hI : cI L K I O) (mx0 : x0 ∈ L) (kx0 : K x0 = 5)  : Met l yX5_race w4X5_race ({ frames := 2, cells := 2, slots := 23, locals := 43 }) (cPre D cA ad av L K I O sz [.ref x0, .int p0, .int p1]) (cQi D cA L K I O sz [] [(5, 10)] [(12, 0)] (fun r L' K' I' O' => True)) 2 23 (va_A (cW cA L K I O) sz) := by
  refine cr_met (own := RX5) (xs := []) (WI := [(5, 10)]) (WO := [(12, 0)]) (cc := cX5_race) (maxL := 6) (ret := (some .int)) (by decide) rfl rfl (Nat.le_of_ble_eq_true rfl) hI ?_
  intro p e s m args below meth c ls E hV hml hr hlk hname hsz hA hM hl
  have hx := E.1
  have hb := E.2.1
  have hts := E.2.2.1
  have hown := E.2.2.2.1
  have hl : lv_has ls 6 [(0, .ref x0), (1, .int p0), (2, .int p1)] := hl
  have hin2 : ∀ w ∈ wsX20, w ∈ w4X5_race := by decide +kernel
  have hin3 : ∀ w ∈ wsX30, w ∈ w4X5_race := by decide +kernel
  have hin5 : ∀ w ∈ wsX50, w ∈ w4X5_race := by decide +kernel
  refine lv_iload_n hx hb dX5_race_0 rfl (lv_at hl 1 rfl) ?_
  refine mm_if_lt (X := p0.toInt) (tgt := 19) hx hb dX5_race_1 (by decide) rfl (fun c_1 => ?_) (fun c_1 => ?_)
  · refine lv_iconst (v := (-1)) hx hb dX5_race_19 (by decide) ?_
    exact cr_ri (mc := 2) (ms := 23) E hr hlk hsz hM ⟨show (0 : Nat) ≤ 2 from by omega, show (0 : Nat) ≤ 23 from by omega⟩ trivial dX5_race_20
  · refine lv_iload_n hx hb dX5_race_4 rfl (lv_at hl 1 rfl) ?_
    refine lv_bipush (v := 8) hx hb dX5_race_5 (by decide) ?_
    refine mm_icmp_ge (X := p0.toInt) (Y := 8) (tgt := 19) hx hb dX5_race_7 (by decide) rfl num_8 (fun c_2 => ?_) (fun c_2 => ?_)
    · refine lv_iconst (v := (-1)) hx hb dX5_race_19 (by decide) ?_
      exact cr_ri (mc := 2) (ms := 23) E hr hlk hsz hM ⟨show (0 : Nat) ≤ 2 from by omega, show (0 : Nat) ≤ 23 from by omega⟩ trivial dX5_race_20
    · refine lv_aload_n hx hb dX5_race_10 rfl (lv_at hl 0 rfl) ?_
      have b_3 : 0 ≤ (I x0 10).toInt ∧ (I x0 10).toInt ≤ 8 := hM.ib mx0 kx0 10 rfl
      refine cr_get (κ := 5) (ci := 5) (k := 10) (C := RX5) (T := TX5) (N := 13) (fs := cfs 5) (v := .int (I x0 10)) E hM mx0 kx0 (fun _ _ => rfl) rfl hin5 (by decide) (index := 80) (mm_at 1 rfl) rfl rfl dX5_race_11 ?_
      refine lv_bipush (v := 8) hx hb dX5_race_14 (by decide) ?_
      refine mm_icmp_lt (X := (I x0 10).toInt) (Y := 8) (tgt := 21) hx hb dX5_race_16 (by decide) rfl num_8 (fun c_4 => ?_) (fun c_4 => ?_)
      · refine lv_aload_n hx hb dX5_race_21 rfl (lv_at hl 0 rfl) ?_
        obtain ⟨x_5, o_5, m_5, k_5⟩ := hM.nn mx0 kx0 2 (κ' := 14) rfl rfl
        refine cr_get (κ := 5) (ci := 5) (k := 2) (C := RX5) (T := TX5) (N := 13) (fs := cfs 5) (v := .ref x_5) E hM mx0 kx0 (fun _ _ => rfl) rfl hin5 (by decide) (index := 15) (mm_at 2 rfl) rfl (by show some (va_rf (O x0 2)) = some (.ref x_5); rw [o_5]; rfl) dX5_race_22 ?_
        refine lv_iload_n hx hb dX5_race_25 rfl (lv_at hl 1 rfl) ?_
        rcases o_6 : O x_5 (Int32.toNatClampNeg p0) with _ | x_6
        · refine cr_aaldn (κ := 14) (t0 := 3) (X := p0.toInt) E hM m_5 k_5 (fun _ _ => rfl) rfl rfl (by omega) o_6 dX5_race_26 ?_
          refine lv_astore_nN (lv' := [(3, .null), (0, .ref x0), (1, .int p0), (2, .int p1)]) hx hb dX5_race_27 rfl hl (by decide) rfl (fun ls hl => ?_)
          refine lv_aload_nN hx hb dX5_race_28 rfl (lv_at hl 0 rfl) ?_
          refine lv_ifnonnullN hx hb dX5_race_29 ?_
          refine lv_iconst (v := (-1)) hx hb dX5_race_32 (by decide) ?_
          exact cr_ri (mc := 2) (ms := 23) E hr hlk hsz hM ⟨show (0 : Nat) ≤ 2 from by omega, show (0 : Nat) ≤ 23 from by omega⟩ trivial dX5_race_33
        · obtain ⟨m_6, k_6⟩ := hM.rt m_5 k_5 (Int32.toNatClampNeg p0) (κ' := 2) rfl o_6
          refine cr_aalds (κ := 14) (t0 := 3) (X := p0.toInt) E hM m_5 k_5 (fun _ _ => rfl) rfl rfl (by omega) o_6 dX5_race_26 ?_
          refine lv_astore_n (lv' := [(3, .ref x_6), (0, .ref x0), (1, .int p0), (2, .int p1)]) hx hb dX5_race_27 rfl hl (by decide) rfl (fun ls hl => ?_)
          refine lv_aload_n hx hb dX5_race_28 rfl (lv_at hl 0 rfl) ?_
          refine lv_ifnonnull (tgt := 34) hx hb dX5_race_29 (by decide) ?_
          refine lv_aload_n hx hb dX5_race_34 rfl (lv_at hl 1 rfl) ?_
          refine lv_iload_n hx hb dX5_race_35 rfl (lv_at hl 3 rfl) ?_
          refine cc_Vqp (vs := [.int p1]) (rest := []) (b := x0) (κ := 5) E hV rfl hA hml hM mx0 kx0 rfl rfl (h4_X5_raceAt l D cA ad av L K I O _ x0 p1 hM.2.2.2.1 mx0 kx0) (cwV 1 hts gk_X5_race_X5_raceAt_7 rfl rfl rfl (by decide +kernel) ⟨Nat.le_of_ble_eq_true rfl, Nat.le_of_ble_eq_true rfl⟩) rfl hl.1 rfl (Nat.le_of_ble_eq_true rfl) dX5_race_36 ⟨show (0 : Nat) ≤ 2 from by omega, show (0 : Nat) ≤ 23 from by omega⟩ (fun r_8 H locs p_9 hM => ?_)
          rcases r_8 with _ | x_11
          · show W _ _ _ _ _ _ _ _ _ _ _ _ _ _ _ (F0 m 39 ls [.null])
            refine lv_astoreN (lv' := [(4, .null), (3, .ref x_6), (0, .ref x0), (1, .int p0), (2, .int p1)]) hx hb dX5_race_39 hl (by decide) rfl (fun ls hl => ?_)
            refine lv_aload_n hx hb dX5_race_41 rfl (lv_at hl 1 rfl) ?_
            refine cr_get (κ := 2) (ci := 2) (k := 6) (C := RX2) (T := TX2) (N := 8) (fs := cfs 2) (v := .int (I x_6 6)) E hM m_6 k_6 (fun _ _ => rfl) rfl hin2 (by decide) (index := 87) (mm_at 9 rfl) rfl rfl dX5_race_42 ?_
            refine lv_iconst (v := 2) hx hb dX5_race_45 (by decide) ?_
            refine mm_icmp_ne (X := (I x_6 6).toInt) (Y := 2) (tgt := 62) hx hb dX5_race_46 (by decide) rfl num_2 (fun c_12 => ?_) (fun c_12 => ?_)
            · refine lv_iload_n hx hb dX5_race_62 rfl (lv_at hl 4 rfl) ?_
              refine lv_iconst (v := (-1)) hx hb dX5_race_63 (by decide) ?_
              refine mm_icmp_ne (X := p1.toInt) (Y := (-1)) (tgt := 71) hx hb dX5_race_64 (by decide) rfl num_m1 (fun c_13 => ?_) (fun c_13 => ?_)
              · refine lv_iconst (v := 0) hx hb dX5_race_71 (by decide) ?_
                refine lv_istore (lv' := [(5, .int 0), (4, .null), (3, .ref x_6), (0, .ref x0), (1, .int p0), (2, .int p1)]) hx hb dX5_race_72 hl (by decide) rfl (fun ls hl => ?_)
                refine lv_iload hx hb dX5_race_74 (lv_at hl 0 rfl) ?_
                refine mm_if_ne (X := 0) (tgt := 81) hx hb dX5_race_76 (by decide) num_0 (fun c_14 => False.elim (by omega)) (fun c_14 => ?_)
                refine lv_iconst (v := (-1)) hx hb dX5_race_79 (by decide) ?_
                exact cr_ri (mc := 2) (ms := 23) E hr hlk hsz hM ⟨show (0 : Nat) ≤ 2 from by omega, show (0 : Nat) ≤ 23 from by omega⟩ trivial dX5_race_80
              · refine lv_iconst (v := 1) hx hb dX5_race_67 (by decide) ?_
                refine lv_goto (tgt := 72) hx hb dX5_race_68 (by decide) ?_
                refine lv_istore (lv' := [(5, .int 1), (4, .null), (3, .ref x_6), (0, .ref x0), (1, .int p0), (2, .int p1)]) hx hb dX5_race_72 hl (by decide) rfl (fun ls hl => ?_)
                refine lv_iload hx hb dX5_race_74 (lv_at hl 0 rfl) ?_
                refine mm_if_ne (X := 1) (tgt := 81) hx hb dX5_race_76 (by decide) num_1 (fun c_15 => ?_) (fun c_15 => False.elim (by omega))
                refine lv_aload_n hx hb dX5_race_81 rfl (lv_at hl 3 rfl) ?_
                obtain ⟨x_16, o_16, m_16, k_16⟩ := hM.nn mx0 kx0 9 (κ' := 12) rfl rfl
                refine cr_get (κ := 5) (ci := 5) (k := 9) (C := RX5) (T := TX5) (N := 13) (fs := cfs 5) (v := .ref x_16) E hM mx0 kx0 (fun _ _ => rfl) rfl hin5 (by decide) (index := 29) (mm_at 8 rfl) rfl (by show some (va_rf (O x0 9)) = some (.ref x_16); rw [o_16]; rfl) dX5_race_82 ?_
                refine lv_aload_n hx hb dX5_race_85 rfl (lv_at hl 3 rfl) ?_
                refine cr_get (κ := 5) (ci := 5) (k := 10) (C := RX5) (T := TX5) (N := 13) (fs := cfs 5) (v := .int (I x0 10)) E hM mx0 kx0 (fun _ _ => rfl) rfl hin5 (by decide) (index := 80) (mm_at 1 rfl) rfl rfl dX5_race_86 ?_
                have hM0_17 := hM
                refine cr_new (κ := 23) (ci := 3) (C := RX3) (T := TX3) (N := 7) E hA hM (fun _ _ => rfl) rfl hin3 tyX3 tyX3_ok (mm_at 10 rfl) (mm_at 11 rfl) (mm_at 12 rfl) (fun j hj => by rcases (show j = 0 ∨ j = 1 ∨ j = 2 ∨ j = 3 ∨ j = 4 ∨ j = 5 ∨ j = 6 by omega) with rfl | rfl | rfl | rfl | rfl | rfl | rfl <;> rfl) (fun _ => rfl) (by decide) (show (0 + 1 : Nat) ≤ 2 from by omega) (show (0 + 7 : Nat) ≤ 23 from by omega) dX5_race_89 (fun q_17 H L_17 K_17 I_17 O_17 hq_17 eL_17 eK_17 eI_17 eO_17 tr_17 mq_17 kq_17 hM => ?_)
                have hn_17 : q_17 ∉ L := fun z => hq_17 (hM0_17.2.2.2.2 q_17 z (fun z => by cases z)).1
                have m_18 := (tr_17 x0 mx0).1
                have k_18 : K_17 x0 = 5 := (tr_17 x0 mx0).2.trans kx0
                have m_19 := (tr_17 x_5 m_5).1
                have k_19 : K_17 x_5 = 14 := (tr_17 x_5 m_5).2.trans k_5
                have m_20 := (tr_17 x_6 m_6).1
                have k_20 : K_17 x_6 = 2 := (tr_17 x_6 m_6).2.trans k_6
                have m_21 := (tr_17 x_16 m_16).1
                have k_21 : K_17 x_16 = 12 := (tr_17 x_16 m_16).2.trans k_16
                refine W.widen (k := 1) (n := 7) (by omega) (by omega) ?_
                refine lv_dup hx hb dX5_race_92 rfl ?_
                refine lv_aload_n hx hb dX5_race_93 rfl (lv_at hl 2 rfl) ?_
                refine lv_aloadN hx hb dX5_race_94 (lv_at hl 1 rfl) ?_
                refine lv_iload_n hx hb dX5_race_96 rfl (lv_at hl 5 rfl) ?_
                have b_23 : 0 ≤ (I_17 q_17 4).toInt ∧ (I_17 q_17 4).toInt ≤ 16 := hM.ib mq_17 kq_17 4 rfl
                have e_24 : (I_17 q_17 4).toInt = 0 := (congrArg Int32.toInt (cn_s eI_17)).trans mm_z0
                refine cc_Iv (vs := [.ref x_6, .null, .int p1]) (rest := [.ref q_17, .int (I x0 10), .ref x_16]) (ret := none) (b := q_17) E hV rfl hA hml hM (h4_X3_init l D cA ad av L_17 K_17 I_17 O_17 _ q_17 x_6 none p1 hM.2.2.2.1 mq_17 kq_17 m_20 k_20 (fun b h => by cases h) (show (I_17 q_17 4).toInt = 0 from by omega)) (cwI 3 hts gk_X5_race_X3_init_22 rfl rfl rfl (hts _ (mm_at 12 rfl)) (hts _ (mm_at 13 rfl)) (hts _ (mm_at 14 rfl)) rfl (by decide +kernel) ⟨Nat.le_of_ble_eq_true rfl, Nat.le_of_ble_eq_true rfl⟩) rfl hl.1 rfl (Nat.le_of_ble_eq_true rfl) dX5_race_97 ⟨show (1 + 1 : Nat) ≤ 2 from by omega, show (7 + 16 : Nat) ≤ 23 from by omega⟩ (fun w h => by rw [List.mem_singleton.mp h]; exact Or.inl hn_17) (by decide) (by decide) (fun L_27 K_27 I_27 O_27 H locs fr_27 p_26 hM => ?_)
                have m_28 := (fr_27 x0 m_18 (fun z => hq_17 (List.mem_singleton.mp z ▸ mx0))).1
                have k_28 : K_27 x0 = 5 := (fr_27 x0 m_18 (fun z => hq_17 (List.mem_singleton.mp z ▸ mx0))).2.1.trans k_18
                have m_29 := (fr_27 x_5 m_19 (fun z => hq_17 (List.mem_singleton.mp z ▸ m_5))).1
                have k_29 : K_27 x_5 = 14 := (fr_27 x_5 m_19 (fun z => hq_17 (List.mem_singleton.mp z ▸ m_5))).2.1.trans k_19
                have m_30 := (fr_27 x_6 m_20 (fun z => hq_17 (List.mem_singleton.mp z ▸ m_6))).1
                have k_30 : K_27 x_6 = 2 := (fr_27 x_6 m_20 (fun z => hq_17 (List.mem_singleton.mp z ▸ m_6))).2.1.trans k_20
                have m_31 := (fr_27 x_16 m_21 (fun z => hq_17 (List.mem_singleton.mp z ▸ m_16))).1
                have k_31 : K_27 x_16 = 12 := (fr_27 x_16 m_21 (fun z => hq_17 (List.mem_singleton.mp z ▸ m_16))).2.1.trans k_21
                refine W.widen (k := 2) (n := 23) (by omega) (by omega) ?_
                obtain ⟨m_32, k_32, p_26⟩ := p_26
                refine cr_aast (κ := 12) (κb := 3) (ci := 3) (t0 := 2) (r := (RX3, TX3, 7)) (X := (I x0 10).toInt) E hM m_31 k_31 (fun _ _ => rfl) rfl m_32 k_32 rfl rfl rfl (by omega) (by decide) (fun _ => rfl) (Or.inr (Or.inr (fun _ => rfl))) dX5_race_100 (fun H locs O_33 eO_33 hM => ?_)
                refine lv_aload_n hx hb dX5_race_101 rfl (lv_at hl 3 rfl) ?_
                refine lv_dup hx hb dX5_race_102 rfl ?_
                have b_34 : 0 ≤ (I_27 x0 10).toInt ∧ (I_27 x0 10).toInt ≤ 8 := hM.ib m_28 k_28 10 rfl
                have e_35 : (I_17 x0 10).toInt = (I x0 10).toInt := congrArg (fun z => Int32.toInt (z 10)) (cu_a eI_17 (fun z => hq_17 (z ▸ mx0)))
                have e_36 : (I_27 x0 10).toInt = (I_17 x0 10).toInt := congrArg Int32.toInt ((fr_27 x0 m_18 (fun z => hq_17 (List.mem_singleton.mp z ▸ mx0))).2.2.1 10 (by rw [k_18]; rfl))
                refine cr_get (κ := 5) (ci := 5) (k := 10) (C := RX5) (T := TX5) (N := 13) (fs := cfs 5) (v := .int (I_27 x0 10)) E hM m_28 k_28 (fun _ _ => rfl) rfl hin5 (by decide) (index := 80) (mm_at 1 rfl) rfl rfl dX5_race_103 ?_
                refine lv_iconst (v := 1) hx hb dX5_race_106 (by decide) ?_
                refine mm_iadd (X := (I_27 x0 10).toInt) (Y := 1) hx hb dX5_race_107 rfl num_1 (by omega) (fun z_37 hz_37 => ?_)
                have o_38 : O_17 x0 9 = some x_16 := (congrFun (cu_a eO_17 (fun z => hq_17 (z ▸ mx0))) 9).trans o_16
                have o_39 : O_27 x0 9 = some x_16 := ((fr_27 x0 m_18 (fun z => hq_17 (List.mem_singleton.mp z ▸ mx0))).2.2.2 9 (by rw [k_18]; rfl)).trans o_38
                have o_40 : O_33 x0 9 = some x_16 := (congrFun (cu_a eO_33 (c_ne k_28 k_31 (by decide))) 9).trans o_39
                have o_41 : O_33 x_16 (Int32.toNatClampNeg (I x0 10)) = some q_17 := co_s eO_33
                refine cr_puti (κ := 5) (ci := 5) (k := 10) (C := RX5) (T := TX5) (N := 13) (fs := cfs 5) (ty := .int) (v := z_37) E hM m_28 k_28 (fun _ _ => rfl) rfl hin5 tyX5 tyX5_ok nmX5 (by decide) (index := 80) (mm_at 1 rfl) rfl (Or.inl rfl) (by decide +kernel) rfl rfl (show (10 : Nat) < 13 from by decide) (fun _ _ _ => rfl) (cz_bd (X := z_37.toInt) (a := 0) (b := 8) rfl rfl (by omega)) (cS_cnt5 (hM.sp m_28 k_28) o_40 (n0 := Int32.toNatClampNeg (I x0 10)) (by rw [o_41]; exact fun z => by cases z) (by rw [mm_nat]; omega) (by omega)) (Or.inr (Or.inr rfl)) dX5_race_108 (fun H locs I_42 eI_42 hM => ?_)
                refine lv_aload_n hx hb dX5_race_111 rfl (lv_at hl 3 rfl) ?_
                have b_43 : 0 ≤ (I_42 x0 10).toInt ∧ (I_42 x0 10).toInt ≤ 8 := hM.ib m_28 k_28 10 rfl
                have e_44 : (I_42 x0 10).toInt = z_37.toInt := (congrArg Int32.toInt (cu_s eI_42)).trans rfl
                refine cr_get (κ := 5) (ci := 5) (k := 10) (C := RX5) (T := TX5) (N := 13) (fs := cfs 5) (v := .int (I_42 x0 10)) E hM m_28 k_28 (fun _ _ => rfl) rfl hin5 (by decide) (index := 80) (mm_at 1 rfl) rfl rfl dX5_race_112 ?_
                refine lv_iconst (v := 1) hx hb dX5_race_115 (by decide) ?_
                refine mm_isub (X := (I_42 x0 10).toInt) (Y := 1) hx hb dX5_race_116 rfl num_1 (by omega) (fun z_45 hz_45 => ?_)
                exact cr_ri (mc := 2) (ms := 23) E hr hlk hsz hM ⟨show (2 : Nat) ≤ 2 from by omega, show (23 : Nat) ≤ 23 from by omega⟩ trivial dX5_race_117
            · refine lv_aloadN hx hb dX5_race_49 (lv_at hl 0 rfl) ?_
              refine lv_ifnullN (tgt := 58) hx hb dX5_race_51 (by decide) ?_
              refine lv_iconst (v := 0) hx hb dX5_race_58 (by decide) ?_
              refine lv_goto (tgt := 72) hx hb dX5_race_59 (by decide) ?_
              refine lv_istore (lv' := [(5, .int 0), (4, .null), (3, .ref x_6), (0, .ref x0), (1, .int p0), (2, .int p1)]) hx hb dX5_race_72 hl (by decide) rfl (fun ls hl => ?_)
              refine lv_iload hx hb dX5_race_74 (lv_at hl 0 rfl) ?_
              refine mm_if_ne (X := 0) (tgt := 81) hx hb dX5_race_76 (by decide) num_0 (fun c_46 => False.elim (by omega)) (fun c_46 => ?_)
              refine lv_iconst (v := (-1)) hx hb dX5_race_79 (by decide) ?_
              exact cr_ri (mc := 2) (ms := 23) E hr hlk hsz hM ⟨show (0 : Nat) ≤ 2 from by omega, show (0 : Nat) ≤ 23 from by omega⟩ trivial dX5_race_80
          · obtain ⟨m_11, k_11⟩ := p_9 x_11 rfl
            show W _ _ _ _ _ _ _ _ _ _ _ _ _ _ _ (F0 m 39 ls [.ref x_11])
            refine lv_astore (lv' := [(4, .ref x_11), (3, .ref x_6), (0, .ref x0), (1, .int p0), (2, .int p1)]) hx hb dX5_race_39 hl (by decide) rfl (fun ls hl => ?_)
            refine lv_aload_n hx hb dX5_race_41 rfl (lv_at hl 1 rfl) ?_
            refine cr_get (κ := 2) (ci := 2) (k := 6) (C := RX2) (T := TX2) (N := 8) (fs := cfs 2) (v := .int (I x_6 6)) E hM m_6 k_6 (fun _ _ => rfl) rfl hin2 (by decide) (index := 87) (mm_at 9 rfl) rfl rfl dX5_race_42 ?_
            refine lv_iconst (v := 2) hx hb dX5_race_45 (by decide) ?_
            refine mm_icmp_ne (X := (I x_6 6).toInt) (Y := 2) (tgt := 62) hx hb dX5_race_46 (by decide) rfl num_2 (fun c_47 => ?_) (fun c_47 => ?_)
            · refine lv_iload_n hx hb dX5_race_62 rfl (lv_at hl 4 rfl) ?_
              refine lv_iconst (v := (-1)) hx hb dX5_race_63 (by decide) ?_
              refine mm_icmp_ne (X := p1.toInt) (Y := (-1)) (tgt := 71) hx hb dX5_race_64 (by decide) rfl num_m1 (fun c_48 => ?_) (fun c_48 => ?_)
              · refine lv_iconst (v := 0) hx hb dX5_race_71 (by decide) ?_
                refine lv_istore (lv' := [(5, .int 0), (4, .ref x_11), (3, .ref x_6), (0, .ref x0), (1, .int p0), (2, .int p1)]) hx hb dX5_race_72 hl (by decide) rfl (fun ls hl => ?_)
                refine lv_iload hx hb dX5_race_74 (lv_at hl 0 rfl) ?_
                refine mm_if_ne (X := 0) (tgt := 81) hx hb dX5_race_76 (by decide) num_0 (fun c_49 => False.elim (by omega)) (fun c_49 => ?_)
                refine lv_iconst (v := (-1)) hx hb dX5_race_79 (by decide) ?_
                exact cr_ri (mc := 2) (ms := 23) E hr hlk hsz hM ⟨show (0 : Nat) ≤ 2 from by omega, show (0 : Nat) ≤ 23 from by omega⟩ trivial dX5_race_80
              · refine lv_iconst (v := 1) hx hb dX5_race_67 (by decide) ?_
                refine lv_goto (tgt := 72) hx hb dX5_race_68 (by decide) ?_
                refine lv_istore (lv' := [(5, .int 1), (4, .ref x_11), (3, .ref x_6), (0, .ref x0), (1, .int p0), (2, .int p1)]) hx hb dX5_race_72 hl (by decide) rfl (fun ls hl => ?_)
                refine lv_iload hx hb dX5_race_74 (lv_at hl 0 rfl) ?_
                refine mm_if_ne (X := 1) (tgt := 81) hx hb dX5_race_76 (by decide) num_1 (fun c_50 => ?_) (fun c_50 => False.elim (by omega))
                refine lv_aload_n hx hb dX5_race_81 rfl (lv_at hl 3 rfl) ?_
                obtain ⟨x_51, o_51, m_51, k_51⟩ := hM.nn mx0 kx0 9 (κ' := 12) rfl rfl
                refine cr_get (κ := 5) (ci := 5) (k := 9) (C := RX5) (T := TX5) (N := 13) (fs := cfs 5) (v := .ref x_51) E hM mx0 kx0 (fun _ _ => rfl) rfl hin5 (by decide) (index := 29) (mm_at 8 rfl) rfl (by show some (va_rf (O x0 9)) = some (.ref x_51); rw [o_51]; rfl) dX5_race_82 ?_
                refine lv_aload_n hx hb dX5_race_85 rfl (lv_at hl 3 rfl) ?_
                refine cr_get (κ := 5) (ci := 5) (k := 10) (C := RX5) (T := TX5) (N := 13) (fs := cfs 5) (v := .int (I x0 10)) E hM mx0 kx0 (fun _ _ => rfl) rfl hin5 (by decide) (index := 80) (mm_at 1 rfl) rfl rfl dX5_race_86 ?_
                have hM0_52 := hM
                refine cr_new (κ := 23) (ci := 3) (C := RX3) (T := TX3) (N := 7) E hA hM (fun _ _ => rfl) rfl hin3 tyX3 tyX3_ok (mm_at 10 rfl) (mm_at 11 rfl) (mm_at 12 rfl) (fun j hj => by rcases (show j = 0 ∨ j = 1 ∨ j = 2 ∨ j = 3 ∨ j = 4 ∨ j = 5 ∨ j = 6 by omega) with rfl | rfl | rfl | rfl | rfl | rfl | rfl <;> rfl) (fun _ => rfl) (by decide) (show (0 + 1 : Nat) ≤ 2 from by omega) (show (0 + 7 : Nat) ≤ 23 from by omega) dX5_race_89 (fun q_52 H L_52 K_52 I_52 O_52 hq_52 eL_52 eK_52 eI_52 eO_52 tr_52 mq_52 kq_52 hM => ?_)
                have hn_52 : q_52 ∉ L := fun z => hq_52 (hM0_52.2.2.2.2 q_52 z (fun z => by cases z)).1
                have m_53 := (tr_52 x0 mx0).1
                have k_53 : K_52 x0 = 5 := (tr_52 x0 mx0).2.trans kx0
                have m_54 := (tr_52 x_5 m_5).1
                have k_54 : K_52 x_5 = 14 := (tr_52 x_5 m_5).2.trans k_5
                have m_55 := (tr_52 x_6 m_6).1
                have k_55 : K_52 x_6 = 2 := (tr_52 x_6 m_6).2.trans k_6
                have m_56 := (tr_52 x_11 m_11).1
                have k_56 : K_52 x_11 = 3 := (tr_52 x_11 m_11).2.trans k_11
                have m_57 := (tr_52 x_51 m_51).1
                have k_57 : K_52 x_51 = 12 := (tr_52 x_51 m_51).2.trans k_51
                refine W.widen (k := 1) (n := 7) (by omega) (by omega) ?_
                refine lv_dup hx hb dX5_race_92 rfl ?_
                refine lv_aload_n hx hb dX5_race_93 rfl (lv_at hl 2 rfl) ?_
                refine lv_aload hx hb dX5_race_94 (lv_at hl 1 rfl) ?_
                refine lv_iload_n hx hb dX5_race_96 rfl (lv_at hl 5 rfl) ?_
                have b_59 : 0 ≤ (I_52 q_52 4).toInt ∧ (I_52 q_52 4).toInt ≤ 16 := hM.ib mq_52 kq_52 4 rfl
                have e_60 : (I_52 q_52 4).toInt = 0 := (congrArg Int32.toInt (cn_s eI_52)).trans mm_z0
                refine cc_Iv (vs := [.ref x_6, .ref x_11, .int p1]) (rest := [.ref q_52, .int (I x0 10), .ref x_51]) (ret := none) (b := q_52) E hV rfl hA hml hM (h4_X3_init l D cA ad av L_52 K_52 I_52 O_52 _ q_52 x_6 (some x_11) p1 hM.2.2.2.1 mq_52 kq_52 m_55 k_55 (fun b h => by cases h; exact ⟨m_56, k_56⟩) (show (I_52 q_52 4).toInt = 0 from by omega)) (cwI 3 hts gk_X5_race_X3_init_58 rfl rfl rfl (hts _ (mm_at 12 rfl)) (hts _ (mm_at 13 rfl)) (hts _ (mm_at 14 rfl)) rfl (by decide +kernel) ⟨Nat.le_of_ble_eq_true rfl, Nat.le_of_ble_eq_true rfl⟩) rfl hl.1 rfl (Nat.le_of_ble_eq_true rfl) dX5_race_97 ⟨show (1 + 1 : Nat) ≤ 2 from by omega, show (7 + 16 : Nat) ≤ 23 from by omega⟩ (fun w h => by rw [List.mem_singleton.mp h]; exact Or.inl hn_52) (by decide) (by decide) (fun L_63 K_63 I_63 O_63 H locs fr_63 p_62 hM => ?_)
                have m_64 := (fr_63 x0 m_53 (fun z => hq_52 (List.mem_singleton.mp z ▸ mx0))).1
                have k_64 : K_63 x0 = 5 := (fr_63 x0 m_53 (fun z => hq_52 (List.mem_singleton.mp z ▸ mx0))).2.1.trans k_53
                have m_65 := (fr_63 x_5 m_54 (fun z => hq_52 (List.mem_singleton.mp z ▸ m_5))).1
                have k_65 : K_63 x_5 = 14 := (fr_63 x_5 m_54 (fun z => hq_52 (List.mem_singleton.mp z ▸ m_5))).2.1.trans k_54
                have m_66 := (fr_63 x_6 m_55 (fun z => hq_52 (List.mem_singleton.mp z ▸ m_6))).1
                have k_66 : K_63 x_6 = 2 := (fr_63 x_6 m_55 (fun z => hq_52 (List.mem_singleton.mp z ▸ m_6))).2.1.trans k_55
                have m_67 := (fr_63 x_11 m_56 (fun z => hq_52 (List.mem_singleton.mp z ▸ m_11))).1
                have k_67 : K_63 x_11 = 3 := (fr_63 x_11 m_56 (fun z => hq_52 (List.mem_singleton.mp z ▸ m_11))).2.1.trans k_56
                have m_68 := (fr_63 x_51 m_57 (fun z => hq_52 (List.mem_singleton.mp z ▸ m_51))).1
                have k_68 : K_63 x_51 = 12 := (fr_63 x_51 m_57 (fun z => hq_52 (List.mem_singleton.mp z ▸ m_51))).2.1.trans k_57
                refine W.widen (k := 2) (n := 23) (by omega) (by omega) ?_
                obtain ⟨m_69, k_69, p_62⟩ := p_62
                refine cr_aast (κ := 12) (κb := 3) (ci := 3) (t0 := 2) (r := (RX3, TX3, 7)) (X := (I x0 10).toInt) E hM m_68 k_68 (fun _ _ => rfl) rfl m_69 k_69 rfl rfl rfl (by omega) (by decide) (fun _ => rfl) (Or.inr (Or.inr (fun _ => rfl))) dX5_race_100 (fun H locs O_70 eO_70 hM => ?_)
                refine lv_aload_n hx hb dX5_race_101 rfl (lv_at hl 3 rfl) ?_
                refine lv_dup hx hb dX5_race_102 rfl ?_
                have b_71 : 0 ≤ (I_63 x0 10).toInt ∧ (I_63 x0 10).toInt ≤ 8 := hM.ib m_64 k_64 10 rfl
                have e_72 : (I_52 x0 10).toInt = (I x0 10).toInt := congrArg (fun z => Int32.toInt (z 10)) (cu_a eI_52 (fun z => hq_52 (z ▸ mx0)))
                have e_73 : (I_63 x0 10).toInt = (I_52 x0 10).toInt := congrArg Int32.toInt ((fr_63 x0 m_53 (fun z => hq_52 (List.mem_singleton.mp z ▸ mx0))).2.2.1 10 (by rw [k_53]; rfl))
                refine cr_get (κ := 5) (ci := 5) (k := 10) (C := RX5) (T := TX5) (N := 13) (fs := cfs 5) (v := .int (I_63 x0 10)) E hM m_64 k_64 (fun _ _ => rfl) rfl hin5 (by decide) (index := 80) (mm_at 1 rfl) rfl rfl dX5_race_103 ?_
                refine lv_iconst (v := 1) hx hb dX5_race_106 (by decide) ?_
                refine mm_iadd (X := (I_63 x0 10).toInt) (Y := 1) hx hb dX5_race_107 rfl num_1 (by omega) (fun z_74 hz_74 => ?_)
                have o_75 : O_52 x0 9 = some x_51 := (congrFun (cu_a eO_52 (fun z => hq_52 (z ▸ mx0))) 9).trans o_51
                have o_76 : O_63 x0 9 = some x_51 := ((fr_63 x0 m_53 (fun z => hq_52 (List.mem_singleton.mp z ▸ mx0))).2.2.2 9 (by rw [k_53]; rfl)).trans o_75
                have o_77 : O_70 x0 9 = some x_51 := (congrFun (cu_a eO_70 (c_ne k_64 k_68 (by decide))) 9).trans o_76
                have o_78 : O_70 x_51 (Int32.toNatClampNeg (I x0 10)) = some q_52 := co_s eO_70
                refine cr_puti (κ := 5) (ci := 5) (k := 10) (C := RX5) (T := TX5) (N := 13) (fs := cfs 5) (ty := .int) (v := z_74) E hM m_64 k_64 (fun _ _ => rfl) rfl hin5 tyX5 tyX5_ok nmX5 (by decide) (index := 80) (mm_at 1 rfl) rfl (Or.inl rfl) (by decide +kernel) rfl rfl (show (10 : Nat) < 13 from by decide) (fun _ _ _ => rfl) (cz_bd (X := z_74.toInt) (a := 0) (b := 8) rfl rfl (by omega)) (cS_cnt5 (hM.sp m_64 k_64) o_77 (n0 := Int32.toNatClampNeg (I x0 10)) (by rw [o_78]; exact fun z => by cases z) (by rw [mm_nat]; omega) (by omega)) (Or.inr (Or.inr rfl)) dX5_race_108 (fun H locs I_79 eI_79 hM => ?_)
                refine lv_aload_n hx hb dX5_race_111 rfl (lv_at hl 3 rfl) ?_
                have b_80 : 0 ≤ (I_79 x0 10).toInt ∧ (I_79 x0 10).toInt ≤ 8 := hM.ib m_64 k_64 10 rfl
                have e_81 : (I_79 x0 10).toInt = z_74.toInt := (congrArg Int32.toInt (cu_s eI_79)).trans rfl
                refine cr_get (κ := 5) (ci := 5) (k := 10) (C := RX5) (T := TX5) (N := 13) (fs := cfs 5) (v := .int (I_79 x0 10)) E hM m_64 k_64 (fun _ _ => rfl) rfl hin5 (by decide) (index := 80) (mm_at 1 rfl) rfl rfl dX5_race_112 ?_
                refine lv_iconst (v := 1) hx hb dX5_race_115 (by decide) ?_
                refine mm_isub (X := (I_79 x0 10).toInt) (Y := 1) hx hb dX5_race_116 rfl num_1 (by omega) (fun z_82 hz_82 => ?_)
                exact cr_ri (mc := 2) (ms := 23) E hr hlk hsz hM ⟨show (2 : Nat) ≤ 2 from by omega, show (23 : Nat) ≤ 23 from by omega⟩ trivial dX5_race_117
            · refine lv_aload hx hb dX5_race_49 (lv_at hl 0 rfl) ?_
              refine lv_ifnull hx hb dX5_race_51 ?_
              refine lv_iconst (v := 1) hx hb dX5_race_54 (by decide) ?_
              refine lv_goto (tgt := 72) hx hb dX5_race_55 (by decide) ?_
              refine lv_istore (lv' := [(5, .int 1), (4, .ref x_11), (3, .ref x_6), (0, .ref x0), (1, .int p0), (2, .int p1)]) hx hb dX5_race_72 hl (by decide) rfl (fun ls hl => ?_)
              refine lv_iload hx hb dX5_race_74 (lv_at hl 0 rfl) ?_
              refine mm_if_ne (X := 1) (tgt := 81) hx hb dX5_race_76 (by decide) num_1 (fun c_83 => ?_) (fun c_83 => False.elim (by omega))
              refine lv_aload_n hx hb dX5_race_81 rfl (lv_at hl 3 rfl) ?_
              obtain ⟨x_84, o_84, m_84, k_84⟩ := hM.nn mx0 kx0 9 (κ' := 12) rfl rfl
              refine cr_get (κ := 5) (ci := 5) (k := 9) (C := RX5) (T := TX5) (N := 13) (fs := cfs 5) (v := .ref x_84) E hM mx0 kx0 (fun _ _ => rfl) rfl hin5 (by decide) (index := 29) (mm_at 8 rfl) rfl (by show some (va_rf (O x0 9)) = some (.ref x_84); rw [o_84]; rfl) dX5_race_82 ?_
              refine lv_aload_n hx hb dX5_race_85 rfl (lv_at hl 3 rfl) ?_
              refine cr_get (κ := 5) (ci := 5) (k := 10) (C := RX5) (T := TX5) (N := 13) (fs := cfs 5) (v := .int (I x0 10)) E hM mx0 kx0 (fun _ _ => rfl) rfl hin5 (by decide) (index := 80) (mm_at 1 rfl) rfl rfl dX5_race_86 ?_
              have hM0_85 := hM
              refine cr_new (κ := 23) (ci := 3) (C := RX3) (T := TX3) (N := 7) E hA hM (fun _ _ => rfl) rfl hin3 tyX3 tyX3_ok (mm_at 10 rfl) (mm_at 11 rfl) (mm_at 12 rfl) (fun j hj => by rcases (show j = 0 ∨ j = 1 ∨ j = 2 ∨ j = 3 ∨ j = 4 ∨ j = 5 ∨ j = 6 by omega) with rfl | rfl | rfl | rfl | rfl | rfl | rfl <;> rfl) (fun _ => rfl) (by decide) (show (0 + 1 : Nat) ≤ 2 from by omega) (show (0 + 7 : Nat) ≤ 23 from by omega) dX5_race_89 (fun q_85 H L_85 K_85 I_85 O_85 hq_85 eL_85 eK_85 eI_85 eO_85 tr_85 mq_85 kq_85 hM => ?_)
              have hn_85 : q_85 ∉ L := fun z => hq_85 (hM0_85.2.2.2.2 q_85 z (fun z => by cases z)).1
              have m_86 := (tr_85 x0 mx0).1
              have k_86 : K_85 x0 = 5 := (tr_85 x0 mx0).2.trans kx0
              have m_87 := (tr_85 x_5 m_5).1
              have k_87 : K_85 x_5 = 14 := (tr_85 x_5 m_5).2.trans k_5
              have m_88 := (tr_85 x_6 m_6).1
              have k_88 : K_85 x_6 = 2 := (tr_85 x_6 m_6).2.trans k_6
              have m_89 := (tr_85 x_11 m_11).1
              have k_89 : K_85 x_11 = 3 := (tr_85 x_11 m_11).2.trans k_11
              have m_90 := (tr_85 x_84 m_84).1
              have k_90 : K_85 x_84 = 12 := (tr_85 x_84 m_84).2.trans k_84
              refine W.widen (k := 1) (n := 7) (by omega) (by omega) ?_
              refine lv_dup hx hb dX5_race_92 rfl ?_
              refine lv_aload_n hx hb dX5_race_93 rfl (lv_at hl 2 rfl) ?_
              refine lv_aload hx hb dX5_race_94 (lv_at hl 1 rfl) ?_
              refine lv_iload_n hx hb dX5_race_96 rfl (lv_at hl 5 rfl) ?_
              have b_92 : 0 ≤ (I_85 q_85 4).toInt ∧ (I_85 q_85 4).toInt ≤ 16 := hM.ib mq_85 kq_85 4 rfl
              have e_93 : (I_85 q_85 4).toInt = 0 := (congrArg Int32.toInt (cn_s eI_85)).trans mm_z0
              refine cc_Iv (vs := [.ref x_6, .ref x_11, .int p1]) (rest := [.ref q_85, .int (I x0 10), .ref x_84]) (ret := none) (b := q_85) E hV rfl hA hml hM (h4_X3_init l D cA ad av L_85 K_85 I_85 O_85 _ q_85 x_6 (some x_11) p1 hM.2.2.2.1 mq_85 kq_85 m_88 k_88 (fun b h => by cases h; exact ⟨m_89, k_89⟩) (show (I_85 q_85 4).toInt = 0 from by omega)) (cwI 3 hts gk_X5_race_X3_init_91 rfl rfl rfl (hts _ (mm_at 12 rfl)) (hts _ (mm_at 13 rfl)) (hts _ (mm_at 14 rfl)) rfl (by decide +kernel) ⟨Nat.le_of_ble_eq_true rfl, Nat.le_of_ble_eq_true rfl⟩) rfl hl.1 rfl (Nat.le_of_ble_eq_true rfl) dX5_race_97 ⟨show (1 + 1 : Nat) ≤ 2 from by omega, show (7 + 16 : Nat) ≤ 23 from by omega⟩ (fun w h => by rw [List.mem_singleton.mp h]; exact Or.inl hn_85) (by decide) (by decide) (fun L_96 K_96 I_96 O_96 H locs fr_96 p_95 hM => ?_)
              have m_97 := (fr_96 x0 m_86 (fun z => hq_85 (List.mem_singleton.mp z ▸ mx0))).1
              have k_97 : K_96 x0 = 5 := (fr_96 x0 m_86 (fun z => hq_85 (List.mem_singleton.mp z ▸ mx0))).2.1.trans k_86
              have m_98 := (fr_96 x_5 m_87 (fun z => hq_85 (List.mem_singleton.mp z ▸ m_5))).1
              have k_98 : K_96 x_5 = 14 := (fr_96 x_5 m_87 (fun z => hq_85 (List.mem_singleton.mp z ▸ m_5))).2.1.trans k_87
              have m_99 := (fr_96 x_6 m_88 (fun z => hq_85 (List.mem_singleton.mp z ▸ m_6))).1
              have k_99 : K_96 x_6 = 2 := (fr_96 x_6 m_88 (fun z => hq_85 (List.mem_singleton.mp z ▸ m_6))).2.1.trans k_88
              have m_100 := (fr_96 x_11 m_89 (fun z => hq_85 (List.mem_singleton.mp z ▸ m_11))).1
              have k_100 : K_96 x_11 = 3 := (fr_96 x_11 m_89 (fun z => hq_85 (List.mem_singleton.mp z ▸ m_11))).2.1.trans k_89
              have m_101 := (fr_96 x_84 m_90 (fun z => hq_85 (List.mem_singleton.mp z ▸ m_84))).1
              have k_101 : K_96 x_84 = 12 := (fr_96 x_84 m_90 (fun z => hq_85 (List.mem_singleton.mp z ▸ m_84))).2.1.trans k_90
              refine W.widen (k := 2) (n := 23) (by omega) (by omega) ?_
              obtain ⟨m_102, k_102, p_95⟩ := p_95
              refine cr_aast (κ := 12) (κb := 3) (ci := 3) (t0 := 2) (r := (RX3, TX3, 7)) (X := (I x0 10).toInt) E hM m_101 k_101 (fun _ _ => rfl) rfl m_102 k_102 rfl rfl rfl (by omega) (by decide) (fun _ => rfl) (Or.inr (Or.inr (fun _ => rfl))) dX5_race_100 (fun H locs O_103 eO_103 hM => ?_)
              refine lv_aload_n hx hb dX5_race_101 rfl (lv_at hl 3 rfl) ?_
              refine lv_dup hx hb dX5_race_102 rfl ?_
              have b_104 : 0 ≤ (I_96 x0 10).toInt ∧ (I_96 x0 10).toInt ≤ 8 := hM.ib m_97 k_97 10 rfl
              have e_105 : (I_85 x0 10).toInt = (I x0 10).toInt := congrArg (fun z => Int32.toInt (z 10)) (cu_a eI_85 (fun z => hq_85 (z ▸ mx0)))
              have e_106 : (I_96 x0 10).toInt = (I_85 x0 10).toInt := congrArg Int32.toInt ((fr_96 x0 m_86 (fun z => hq_85 (List.mem_singleton.mp z ▸ mx0))).2.2.1 10 (by rw [k_86]; rfl))
              refine cr_get (κ := 5) (ci := 5) (k := 10) (C := RX5) (T := TX5) (N := 13) (fs := cfs 5) (v := .int (I_96 x0 10)) E hM m_97 k_97 (fun _ _ => rfl) rfl hin5 (by decide) (index := 80) (mm_at 1 rfl) rfl rfl dX5_race_103 ?_
              refine lv_iconst (v := 1) hx hb dX5_race_106 (by decide) ?_
              refine mm_iadd (X := (I_96 x0 10).toInt) (Y := 1) hx hb dX5_race_107 rfl num_1 (by omega) (fun z_107 hz_107 => ?_)
              have o_108 : O_85 x0 9 = some x_84 := (congrFun (cu_a eO_85 (fun z => hq_85 (z ▸ mx0))) 9).trans o_84
              have o_109 : O_96 x0 9 = some x_84 := ((fr_96 x0 m_86 (fun z => hq_85 (List.mem_singleton.mp z ▸ mx0))).2.2.2 9 (by rw [k_86]; rfl)).trans o_108
              have o_110 : O_103 x0 9 = some x_84 := (congrFun (cu_a eO_103 (c_ne k_97 k_101 (by decide))) 9).trans o_109
              have o_111 : O_103 x_84 (Int32.toNatClampNeg (I x0 10)) = some q_85 := co_s eO_103
              refine cr_puti (κ := 5) (ci := 5) (k := 10) (C := RX5) (T := TX5) (N := 13) (fs := cfs 5) (ty := .int) (v := z_107) E hM m_97 k_97 (fun _ _ => rfl) rfl hin5 tyX5 tyX5_ok nmX5 (by decide) (index := 80) (mm_at 1 rfl) rfl (Or.inl rfl) (by decide +kernel) rfl rfl (show (10 : Nat) < 13 from by decide) (fun _ _ _ => rfl) (cz_bd (X := z_107.toInt) (a := 0) (b := 8) rfl rfl (by omega)) (cS_cnt5 (hM.sp m_97 k_97) o_110 (n0 := Int32.toNatClampNeg (I x0 10)) (by rw [o_111]; exact fun z => by cases z) (by rw [mm_nat]; omega) (by omega)) (Or.inr (Or.inr rfl)) dX5_race_108 (fun H locs I_112 eI_112 hM => ?_)
              refine lv_aload_n hx hb dX5_race_111 rfl (lv_at hl 3 rfl) ?_
              have b_113 : 0 ≤ (I_112 x0 10).toInt ∧ (I_112 x0 10).toInt ≤ 8 := hM.ib m_97 k_97 10 rfl
              have e_114 : (I_112 x0 10).toInt = z_107.toInt := (congrArg Int32.toInt (cu_s eI_112)).trans rfl
              refine cr_get (κ := 5) (ci := 5) (k := 10) (C := RX5) (T := TX5) (N := 13) (fs := cfs 5) (v := .int (I_112 x0 10)) E hM m_97 k_97 (fun _ _ => rfl) rfl hin5 (by decide) (index := 80) (mm_at 1 rfl) rfl rfl dX5_race_112 ?_
              refine lv_iconst (v := 1) hx hb dX5_race_115 (by decide) ?_
              refine mm_isub (X := (I_112 x0 10).toInt) (Y := 1) hx hb dX5_race_116 rfl num_1 (by omega) (fun z_115 hz_115 => ?_)
              exact cr_ri (mc := 2) (ms := 23) E hr hlk hsz hM ⟨show (2 : Nat) ≤ 2 from by omega, show (23 : Nat) ≤ 23 from by omega⟩ trivial dX5_race_117
      · refine lv_iconst (v := (-1)) hx hb dX5_race_19 (by decide) ?_
        exact cr_ri (mc := 2) (ms := 23) E hr hlk hsz hM ⟨show (0 : Nat) ≤ 2 from by omega, show (0 : Nat) ≤ 23 from by omega⟩ trivial dX5_race_20
