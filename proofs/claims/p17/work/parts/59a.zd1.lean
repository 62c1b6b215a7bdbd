def w5X0_init : List Cond := .code yX0_init cX0_init 2 none :: ([.methodLink RX0 3 objectInit, .instanceMethod objectInit, .code objectInit ⟨#[0xb1]⟩ 1 none, .fieldLink RX0 9 "SkiShots$Entry" "racer" "I"] ++ wsX00)
set_option maxHeartbeats 4000000 in
set_option maxRecDepth 100000 in
theorem h5_X0_init (l : Launch) (D : va_G) (cA : Nat → ClassId) (ad av : Nat → Nat) (L : List Nat) (K : Nat → Nat) (I : Nat → Nat → Int32) (O : Nat → Nat → Option Nat) (sz : Nat) (x0 : Nat) (p0 : Int32) (hI : cI L K I O) (mx0 : x0 ∈ L) (kx0 : K x0 = 0) (k0 : 0 ≤ p0.toInt ∧ p0.toInt < 16) : Met l yX0_init w5X0_init ({ frames := 1, cells := 0, slots := 0, locals := 20 }) (cPre D cA ad av L K I O sz [.ref x0, .int p0]) (cQv D cA L K I O sz [] [(0, 0)] [] (fun L' K' I' O' => (I' x0 0).toInt = p0.toInt ∧ (∀ a : Nat, a ∈ L → K a = 0 → ¬ a = x0 → ∀ j : Nat, I' a j = I a j))) 0 0 (va_A (cW cA L K I O) sz) := by
  refine cr_met (own := RX0) (xs := []) (WI := [(0, 0)]) (WO := []) (cc := cX0_init) (maxL := 2) (ret := none) (by decide) rfl rfl (Nat.le_of_ble_eq_true rfl) hI ?_
  intro p e s m args below meth c ls E hV hml hr hlk hname hsz hA hM hl
  have hx := E.1
  have hb := E.2.1
  have hts := E.2.2.1
  have hown := E.2.2.2.1
  have hl : lv_has ls 2 [(0, .ref x0), (1, .int p0)] := hl
  have hin0 : ∀ w ∈ wsX00, w ∈ w5X0_init := by decide +kernel
  refine lv_aload_n hx hb dX0_init_0 rfl (lv_at hl 0 rfl) ?_
  refine W.objInit hx hb hown (hts _ (mm_at 1 rfl)) (hts _ (mm_at 2 rfl)) (hts _ (mm_at 3 rfl)) rfl (by rw [hml]; exact hl.1) rfl dX0_init_1 (Nat.le_of_ble_eq_true rfl) (Nat.le_of_ble_eq_true rfl) ?_
  refine W.eq (g2 := F0 m 4 ls []) rfl ?_
  refine lv_aload_n hx hb dX0_init_4 rfl (lv_at hl 0 rfl) ?_
  refine lv_iload_n hx hb dX0_init_5 rfl (lv_at hl 1 rfl) ?_
  refine cr_puti (κ := 0) (ci := 0) (k := 0) (C := RX0) (T := TX0) (N := 10) (fs := cfs 0) (ty := .int) (v := p0) E hM mx0 kx0 (fun _ _ => rfl) rfl hin0 tyX0 tyX0_ok nmX0 (by decide) (index := 9) (mm_at 4 rfl) rfl (Or.inr ⟨rfl, hname, rfl⟩) (by decide +kernel) rfl rfl (show (0 : Nat) < 10 from by decide) (fun _ _ _ => rfl) (cz_bd (X := p0.toInt) (a := 0) (b := 15) rfl rfl (by omega)) (cS_upd (hM.sp mx0 kx0) (by decide) (by decide)) (Or.inr (Or.inr rfl)) dX0_init_6 (fun H locs I_1 eI_1 hM => ?_)
  have b_2 : 0 ≤ (I_1 x0 0).toInt ∧ (I_1 x0 0).toInt ≤ 15 := hM.ib mx0 kx0 0 rfl
  have e_3 : (I_1 x0 0).toInt = p0.toInt := (congrArg Int32.toInt (cu_s eI_1)).trans rfl
  exact cr_rv (mc := 0) (ms := 0) E hr hlk hsz hM ⟨show (0 : Nat) ≤ 0 from by omega, show (0 : Nat) ≤ 0 from by omega⟩ (show (I_1 x0 0).toInt = p0.toInt ∧ (∀ a : Nat, a ∈ L → K a = 0 → ¬ a = x0 → ∀ j : Nat, I_1 a j = I a j) from by exact ⟨by omega, fun a ha ka na j => (by exact (congrFun (cu_a eI_1 na) j))⟩) dX0_init_9
def w5X1_init : List Cond := .code yX1_init cX1_init 6 none :: ([.methodLink RX1 1 objectInit, .instanceMethod objectInit, .code objectInit ⟨#[0xb1]⟩ 1 none, .fieldLink RX1 7 "SkiShots$Event" "day" "I", .fieldLink RX1 13 "SkiShots$Event" "sort" "I", .fieldLink RX1 16 "SkiShots$Event" "k" "I", .fieldLink RX1 19 "SkiShots$Event" "v" "I", .fieldLink RX1 22 "SkiShots$Event" "before" "LSkiShots$Event;"] ++ wsX10)
set_option maxHeartbeats 4000000 in
set_option maxRecDepth 100000 in
theorem h5_X1_init (l : Launch) (D : va_G) (cA : Nat → ClassId) (ad av : Nat → Nat) (L : List Nat) (K : Nat → Nat) (I : Nat → Nat → Int32) (O : Nat → Nat → Option Nat) (sz : Nat) (x0 : Nat) (p0 : Int32) (p1 : Int32) (p2 : Int32) (p3 : Int32) (p4 : Option Nat) (hI : cI L K I O) (mx0 : x0 ∈ L) (kx0 : K x0 = 1) (tp4 : ∀ b : Nat, p4 = some b → b ∈ L ∧ K b = 1) (hrk : ∀ b : Nat, p4 = some b → crk L b < crk L x0) : Met l yX1_init w5X1_init ({ frames := 1, cells := 0, slots := 0, locals := 20 }) (cPre D cA ad av L K I O sz [.ref x0, .int p0, .int p1, .int p2, .int p3, va_rf p4]) (cQv D cA L K I O sz [] [(1, 0), (1, 1), (1, 2), (1, 3)] [(1, 4)] (fun L' K' I' O' => (I' x0 0).toInt = p0.toInt ∧ (I' x0 1).toInt = p1.toInt ∧ (I' x0 2).toInt = p2.toInt ∧ (I' x0 3).toInt = p3.toInt ∧ O' x0 4 = p4 ∧ (∀ a : Nat, a ∈ L → K a = 1 → ¬ a = x0 → ∀ j : Nat, I' a j = I a j) ∧ (∀ a : Nat, a ∈ L → K a = 1 → ¬ a = x0 → ∀ j : Nat, O' a j = O a j))) 0 0 (va_A (cW cA L K I O) sz) := by
  rcases p4 with _ | xq
  · refine cr_met (own := RX1) (xs := []) (WI := [(1, 0), (1, 1), (1, 2), (1, 3)]) (WO := [(1, 4)]) (cc := cX1_init) (maxL := 6) (ret := none) (by decide) rfl rfl (Nat.le_of_ble_eq_true rfl) hI ?_
    intro p e s m args below meth c ls E hV hml hr hlk hname hsz hA hM hl
    have hx := E.1
    have hb := E.2.1
    have hts := E.2.2.1
    have hown := E.2.2.2.1
    have hl : lv_has ls 6 [(0, .ref x0), (1, .int p0), (2, .int p1), (3, .int p2), (4, .int p3), (5, .null)] := hl
    have hin1 : ∀ w ∈ wsX10, w ∈ w5X1_init := by decide +kernel
    refine lv_aload_n hx hb dX1_init_0 rfl (lv_at hl 0 rfl) ?_
    refine W.objInit hx hb hown (hts _ (mm_at 1 rfl)) (hts _ (mm_at 2 rfl)) (hts _ (mm_at 3 rfl)) rfl (by rw [hml]; exact hl.1) rfl dX1_init_1 (Nat.le_of_ble_eq_true rfl) (Nat.le_of_ble_eq_true rfl) ?_
    refine W.eq (g2 := F0 m 4 ls []) rfl ?_
    refine lv_aload_n hx hb dX1_init_4 rfl (lv_at hl 0 rfl) ?_
    refine lv_iload_n hx hb dX1_init_5 rfl (lv_at hl 1 rfl) ?_
    refine cr_puti (κ := 1) (ci := 1) (k := 0) (C := RX1) (T := TX1) (N := 5) (fs := cfs 1) (ty := .int) (v := p0) E hM mx0 kx0 (fun _ _ => rfl) rfl hin1 tyX1 tyX1_ok nmX1 (by decide) (index := 7) (mm_at 4 rfl) rfl (Or.inr ⟨rfl, hname, rfl⟩) (by decide +kernel) rfl rfl (show (0 : Nat) < 5 from by decide) (fun _ _ _ => rfl) (cz_nb rfl) (cS_upd (hM.sp mx0 kx0) (by decide) (by decide)) (Or.inr (Or.inr rfl)) dX1_init_6 (fun H locs I_1 eI_1 hM => ?_)
    refine lv_aload_n hx hb dX1_init_9 rfl (lv_at hl 0 rfl) ?_
    refine lv_iload_n hx hb dX1_init_10 rfl (lv_at hl 2 rfl) ?_
    refine cr_puti (κ := 1) (ci := 1) (k := 1) (C := RX1) (T := TX1) (N := 5) (fs := cfs 1) (ty := .int) (v := p1) E hM mx0 kx0 (fun _ _ => rfl) rfl hin1 tyX1 tyX1_ok nmX1 (by decide) (index := 13) (mm_at 5 rfl) rfl (Or.inr ⟨rfl, hname, rfl⟩) (by decide +kernel) rfl rfl (show (1 : Nat) < 5 from by decide) (fun _ _ _ => rfl) (cz_nb rfl) (cS_upd (hM.sp mx0 kx0) (by decide) (by decide)) (Or.inr (Or.inr rfl)) dX1_init_11 (fun H locs I_2 eI_2 hM => ?_)
    refine lv_aload_n hx hb dX1_init_14 rfl (lv_at hl 0 rfl) ?_
    refine lv_iload_n hx hb dX1_init_15 rfl (lv_at hl 3 rfl) ?_
    refine cr_puti (κ := 1) (ci := 1) (k := 2) (C := RX1) (T := TX1) (N := 5) (fs := cfs 1) (ty := .int) (v := p2) E hM mx0 kx0 (fun _ _ => rfl) rfl hin1 tyX1 tyX1_ok nmX1 (by decide) (index := 16) (mm_at 6 rfl) rfl (Or.inr ⟨rfl, hname, rfl⟩) (by decide +kernel) rfl rfl (show (2 : Nat) < 5 from by decide) (fun _ _ _ => rfl) (cz_nb rfl) (cS_upd (hM.sp mx0 kx0) (by decide) (by decide)) (Or.inr (Or.inr rfl)) dX1_init_16 (fun H locs I_3 eI_3 hM => ?_)
    refine lv_aload_n hx hb dX1_init_19 rfl (lv_at hl 0 rfl) ?_
    refine lv_iload hx hb dX1_init_20 (lv_at hl 4 rfl) ?_
    refine cr_puti (κ := 1) (ci := 1) (k := 3) (C := RX1) (T := TX1) (N := 5) (fs := cfs 1) (ty := .int) (v := p3) E hM mx0 kx0 (fun _ _ => rfl) rfl hin1 tyX1 tyX1_ok nmX1 (by decide) (index := 19) (mm_at 7 rfl) rfl (Or.inr ⟨rfl, hname, rfl⟩) (by decide +kernel) rfl rfl (show (3 : Nat) < 5 from by decide) (fun _ _ _ => rfl) (cz_nb rfl) (cS_upd (hM.sp mx0 kx0) (by decide) (by decide)) (Or.inr (Or.inr rfl)) dX1_init_22 (fun H locs I_4 eI_4 hM => ?_)
    refine lv_aload_n hx hb dX1_init_25 rfl (lv_at hl 0 rfl) ?_
    refine lv_aloadN hx hb dX1_init_26 (lv_at hl 5 rfl) ?_
    refine cr_puto (κ := 1) (ci := 1) (k := 4) (C := RX1) (T := TX1) (N := 5) (fs := cfs 1) (ty := .object "SkiShots$Event") (w := none) E hM mx0 kx0 (fun _ _ => rfl) rfl hin1 tyX1 tyX1_ok nmX1 (by decide) (index := 22) (mm_at 8 rfl) rfl (Or.inr ⟨rfl, hname, rfl⟩) (by decide +kernel) rfl rfl (show (4 : Nat) < 5 from by decide) (fun _ _ _ => rfl) (by decide) (fun _ b h1 h2 => by cases h2) (fun h => by cases h) (cS_ev hrk) (Or.inr (Or.inr rfl)) dX1_init_28 (fun H locs O_5 eO_5 hM => ?_)
    have e_6 : (I_1 x0 0).toInt = p0.toInt := (congrArg Int32.toInt (cu_s eI_1)).trans rfl
    have e_7 : (I_2 x0 0).toInt = (I_1 x0 0).toInt := congrArg Int32.toInt (cu_k eI_2 (by decide))
    have e_8 : (I_3 x0 0).toInt = (I_2 x0 0).toInt := congrArg Int32.toInt (cu_k eI_3 (by decide))
    have e_9 : (I_4 x0 0).toInt = (I_3 x0 0).toInt := congrArg Int32.toInt (cu_k eI_4 (by decide))
    have e_10 : (I_2 x0 1).toInt = p1.toInt := (congrArg Int32.toInt (cu_s eI_2)).trans rfl
    have e_11 : (I_3 x0 1).toInt = (I_2 x0 1).toInt := congrArg Int32.toInt (cu_k eI_3 (by decide))
    have e_12 : (I_4 x0 1).toInt = (I_3 x0 1).toInt := congrArg Int32.toInt (cu_k eI_4 (by decide))
    have e_13 : (I_3 x0 2).toInt = p2.toInt := (congrArg Int32.toInt (cu_s eI_3)).trans rfl
    have e_14 : (I_4 x0 2).toInt = (I_3 x0 2).toInt := congrArg Int32.toInt (cu_k eI_4 (by decide))
    have e_15 : (I_4 x0 3).toInt = p3.toInt := (congrArg Int32.toInt (cu_s eI_4)).trans rfl
    exact cr_rv (mc := 0) (ms := 0) E hr hlk hsz hM ⟨show (0 : Nat) ≤ 0 from by omega, show (0 : Nat) ≤ 0 from by omega⟩ (show (I_4 x0 0).toInt = p0.toInt ∧ (I_4 x0 1).toInt = p1.toInt ∧ (I_4 x0 2).toInt = p2.toInt ∧ (I_4 x0 3).toInt = p3.toInt ∧ O_5 x0 4 = none ∧ (∀ a : Nat, a ∈ L → K a = 1 → ¬ a = x0 → ∀ j : Nat, I_4 a j = I a j) ∧ (∀ a : Nat, a ∈ L → K a = 1 → ¬ a = x0 → ∀ j : Nat, O_5 a j = O a j) from by have o_16 : O_5 x0 4 = none := co_s eO_5; exact ⟨by omega, by omega, by omega, by omega, o_16, fun a ha ka na j => (by exact ((congrFun (cu_a eI_4 na) j).trans ((congrFun (cu_a eI_3 na) j).trans ((congrFun (cu_a eI_2 na) j).trans (congrFun (cu_a eI_1 na) j))))), fun a ha ka na j => (by exact (congrFun (cu_a eO_5 na) j))⟩) dX1_init_31
  · refine cr_met (own := RX1) (xs := []) (WI := [(1, 0), (1, 1), (1, 2), (1, 3)]) (WO := [(1, 4)]) (cc := cX1_init) (maxL := 6) (ret := none) (by decide) rfl rfl (Nat.le_of_ble_eq_true rfl) hI ?_
    intro p e s m args below meth c ls E hV hml hr hlk hname hsz hA hM hl
    have hx := E.1
    have hb := E.2.1
    have hts := E.2.2.1
    have hown := E.2.2.2.1
    have hl : lv_has ls 6 [(0, .ref x0), (1, .int p0), (2, .int p1), (3, .int p2), (4, .int p3), (5, .ref xq)] := hl
    have hin1 : ∀ w ∈ wsX10, w ∈ w5X1_init := by decide +kernel
    obtain ⟨mxq, kxq⟩ := tp4 _ rfl
    refine lv_aload_n hx hb dX1_init_0 rfl (lv_at hl 0 rfl) ?_
    refine W.objInit hx hb hown (hts _ (mm_at 1 rfl)) (hts _ (mm_at 2 rfl)) (hts _ (mm_at 3 rfl)) rfl (by rw [hml]; exact hl.1) rfl dX1_init_1 (Nat.le_of_ble_eq_true rfl) (Nat.le_of_ble_eq_true rfl) ?_
    refine W.eq (g2 := F0 m 4 ls []) rfl ?_
    refine lv_aload_n hx hb dX1_init_4 rfl (lv_at hl 0 rfl) ?_
    refine lv_iload_n hx hb dX1_init_5 rfl (lv_at hl 1 rfl) ?_
    refine cr_puti (κ := 1) (ci := 1) (k := 0) (C := RX1) (T := TX1) (N := 5) (fs := cfs 1) (ty := .int) (v := p0) E hM mx0 kx0 (fun _ _ => rfl) rfl hin1 tyX1 tyX1_ok nmX1 (by decide) (index := 7) (mm_at 4 rfl) rfl (Or.inr ⟨rfl, hname, rfl⟩) (by decide +kernel) rfl rfl (show (0 : Nat) < 5 from by decide) (fun _ _ _ => rfl) (cz_nb rfl) (cS_upd (hM.sp mx0 kx0) (by decide) (by decide)) (Or.inr (Or.inr rfl)) dX1_init_6 (fun H locs I_17 eI_17 hM => ?_)
    refine lv_aload_n hx hb dX1_init_9 rfl (lv_at hl 0 rfl) ?_
    refine lv_iload_n hx hb dX1_init_10 rfl (lv_at hl 2 rfl) ?_
    refine cr_puti (κ := 1) (ci := 1) (k := 1) (C := RX1) (T := TX1) (N := 5) (fs := cfs 1) (ty := .int) (v := p1) E hM mx0 kx0 (fun _ _ => rfl) rfl hin1 tyX1 tyX1_ok nmX1 (by decide) (index := 13) (mm_at 5 rfl) rfl (Or.inr ⟨rfl, hname, rfl⟩) (by decide +kernel) rfl rfl (show (1 : Nat) < 5 from by decide) (fun _ _ _ => rfl) (cz_nb rfl) (cS_upd (hM.sp mx0 kx0) (by decide) (by decide)) (Or.inr (Or.inr rfl)) dX1_init_11 (fun H locs I_18 eI_18 hM => ?_)
    refine lv_aload_n hx hb dX1_init_14 rfl (lv_at hl 0 rfl) ?_
    refine lv_iload_n hx hb dX1_init_15 rfl (lv_at hl 3 rfl) ?_
    refine cr_puti (κ := 1) (ci := 1) (k := 2) (C := RX1) (T := TX1) (N := 5) (fs := cfs 1) (ty := .int) (v := p2) E hM mx0 kx0 (fun _ _ => rfl) rfl hin1 tyX1 tyX1_ok nmX1 (by decide) (index := 16) (mm_at 6 rfl) rfl (Or.inr ⟨rfl, hname, rfl⟩) (by decide +kernel) rfl rfl (show (2 : Nat) < 5 from by decide) (fun _ _ _ => rfl) (cz_nb rfl) (cS_upd (hM.sp mx0 kx0) (by decide) (by decide)) (Or.inr (Or.inr rfl)) dX1_init_16 (fun H locs I_19 eI_19 hM => ?_)
    refine lv_aload_n hx hb dX1_init_19 rfl (lv_at hl 0 rfl) ?_
    refine lv_iload hx hb dX1_init_20 (lv_at hl 4 rfl) ?_
    refine cr_puti (κ := 1) (ci := 1) (k := 3) (C := RX1) (T := TX1) (N := 5) (fs := cfs 1) (ty := .int) (v := p3) E hM mx0 kx0 (fun _ _ => rfl) rfl hin1 tyX1 tyX1_ok nmX1 (by decide) (index := 19) (mm_at 7 rfl) rfl (Or.inr ⟨rfl, hname, rfl⟩) (by decide +kernel) rfl rfl (show (3 : Nat) < 5 from by decide) (fun _ _ _ => rfl) (cz_nb rfl) (cS_upd (hM.sp mx0 kx0) (by decide) (by decide)) (Or.inr (Or.inr rfl)) dX1_init_22 (fun H locs I_20 eI_20 hM => ?_)
    refine lv_aload_n hx hb dX1_init_25 rfl (lv_at hl 0 rfl) ?_
    refine lv_aload hx hb dX1_init_26 (lv_at hl 5 rfl) ?_
    refine cr_puto (κ := 1) (ci := 1) (k := 4) (C := RX1) (T := TX1) (N := 5) (fs := cfs 1) (ty := .object "SkiShots$Event") (w := some xq) E hM mx0 kx0 (fun _ _ => rfl) rfl hin1 tyX1 tyX1_ok nmX1 (by decide) (index := 22) (mm_at 8 rfl) rfl (Or.inr ⟨rfl, hname, rfl⟩) (by decide +kernel) rfl rfl (show (4 : Nat) < 5 from by decide) (fun _ _ _ => rfl) (by decide) (fun _ b h1 h2 => by cases h1; cases h2; exact ⟨mxq, kxq⟩) (fun h => by cases h) (cS_ev hrk) (Or.inr (Or.inr rfl)) dX1_init_28 (fun H locs O_21 eO_21 hM => ?_)
    have e_22 : (I_17 x0 0).toInt = p0.toInt := (congrArg Int32.toInt (cu_s eI_17)).trans rfl
    have e_23 : (I_18 x0 0).toInt = (I_17 x0 0).toInt := congrArg Int32.toInt (cu_k eI_18 (by decide))
    have e_24 : (I_19 x0 0).toInt = (I_18 x0 0).toInt := congrArg Int32.toInt (cu_k eI_19 (by decide))
    have e_25 : (I_20 x0 0).toInt = (I_19 x0 0).toInt := congrArg Int32.toInt (cu_k eI_20 (by decide))
    have e_26 : (I_18 x0 1).toInt = p1.toInt := (congrArg Int32.toInt (cu_s eI_18)).trans rfl
    have e_27 : (I_19 x0 1).toInt = (I_18 x0 1).toInt := congrArg Int32.toInt (cu_k eI_19 (by decide))
    have e_28 : (I_20 x0 1).toInt = (I_19 x0 1).toInt := congrArg Int32.toInt (cu_k eI_20 (by decide))
    have e_29 : (I_19 x0 2).toInt = p2.toInt := (congrArg Int32.toInt (cu_s eI_19)).trans rfl
    have e_30 : (I_20 x0 2).toInt = (I_19 x0 2).toInt := congrArg Int32.toInt (cu_k eI_20 (by decide))
    have e_31 : (I_20 x0 3).toInt = p3.toInt := (congrArg Int32.toInt (cu_s eI_20)).trans rfl
    exact cr_rv (mc := 0) (ms := 0) E hr hlk hsz hM ⟨show (0 : Nat) ≤ 0 from by omega, show (0 : Nat) ≤ 0 from by omega⟩ (show (I_20 x0 0).toInt = p0.toInt ∧ (I_20 x0 1).toInt = p1.toInt ∧ (I_20 x0 2).toInt = p2.toInt ∧ (I_20 x0 3).toInt = p3.toInt ∧ O_21 x0 4 = (some xq) ∧ (∀ a : Nat, a ∈ L → K a = 1 → ¬ a = x0 → ∀ j : Nat, I_20 a j = I a j) ∧ (∀ a : Nat, a ∈ L → K a = 1 → ¬ a = x0 → ∀ j : Nat, O_21 a j = O a j) from by have o_32 : O_21 x0 4 = some xq := co_s eO_21; exact ⟨by omega, by omega, by omega, by omega, o_32, fun a ha ka na j => (by exact ((congrFun (cu_a eI_20 na) j).trans ((congrFun (cu_a eI_19 na) j).trans ((congrFun (cu_a eI_18 na) j).trans (congrFun (cu_a eI_17 na) j))))), fun a ha ka na j => (by exact (congrFun (cu_a eO_21 na) j))⟩) dX1_init_31
def w5X3_init : List Cond := .code yX3_init cX3_init 4 none :: ([.methodLink RX3 3 objectInit, .instanceMethod objectInit, .code objectInit ⟨#[0xb1]⟩ 1 none, .fieldLink RX3 9 "SkiShots$Race" "format" "LSkiShots$Format;", .fieldLink RX3 15 "SkiShots$Race" "by" "LSkiShots$Race;", .fieldLink RX3 19 "SkiShots$Race" "byNumber" "I", .classLink RX3 23 RX0, .fieldLink RX3 25 "SkiShots$Race" "entries" "[LSkiShots$Entry;"] ++ wsX30)
set_option maxHeartbeats 4000000 in
set_option maxRecDepth 100000 in
theorem h5_X3_init (l : Launch) (D : va_G) (cA : Nat → ClassId) (ad av : Nat → Nat) (L : List Nat) (K : Nat → Nat) (I : Nat → Nat → Int32) (O : Nat → Nat → Option Nat) (sz : Nat) (x0 : Nat) (p0 : Nat) (p1 : Option Nat) (p2 : Int32) (hI : cI L K I O) (mx0 : x0 ∈ L) (kx0 : K x0 = 23) (mp0 : p0 ∈ L) (kp0 : K p0 = 2) (tp1 : ∀ b : Nat, p1 = some b → b ∈ L ∧ K b = 3) (hz : (I x0 4).toInt = 0) (hz5 : (I x0 5).toInt = 0) : Met l yX3_init w5X3_init ({ frames := 1, cells := 1, slots := 16, locals := 20 }) (cPre D cA ad av L K I O sz [.ref x0, .ref p0, va_rf p1, .int p2]) (cQv D cA L K I O sz [x0] [] [] (fun L' K' I' O' => x0 ∈ L' ∧ K' x0 = 3 ∧ (O' x0 0 = some p0 ∧ O' x0 1 = p1 ∧ (I' x0 2).toInt = p2.toInt ∧ (I' x0 4).toInt = 0 ∧ (I' x0 5).toInt = 0 ∧ ∃ es : Nat, O' x0 3 = some es ∧ es ∉ L ∧ es ∈ L' ∧ K' es = 15))) 1 16 (va_A (cW cA L K I O) sz) := by
  rcases p1 with _ | xq
  · refine cr_met (own := RX3) (xs := [x0]) (WI := []) (WO := []) (cc := cX3_init) (maxL := 4) (ret := none) (by decide) rfl rfl (Nat.le_of_ble_eq_true rfl) hI ?_
    intro p e s m args below meth c ls E hV hml hr hlk hname hsz hA hM hl
    have hx := E.1
    have hb := E.2.1
    have hts := E.2.2.1
    have hown := E.2.2.2.1
    have hl : lv_has ls 4 [(0, .ref x0), (1, .ref p0), (2, .null), (3, .int p2)] := hl
    have hin3 : ∀ w ∈ wsX30, w ∈ w5X3_init := by decide +kernel
    refine lv_aload_n hx hb dX3_init_0 rfl (lv_at hl 0 rfl) ?_
    refine W.objInit hx hb hown (hts _ (mm_at 1 rfl)) (hts _ (mm_at 2 rfl)) (hts _ (mm_at 3 rfl)) rfl (by rw [hml]; exact hl.1) rfl dX3_init_1 (Nat.le_of_ble_eq_true rfl) (Nat.le_of_ble_eq_true rfl) ?_
    refine W.eq (g2 := F0 m 4 ls []) rfl ?_
    refine lv_aload_n hx hb dX3_init_4 rfl (lv_at hl 0 rfl) ?_
    refine lv_aload_n hx hb dX3_init_5 rfl (lv_at hl 1 rfl) ?_
    refine cr_puto (κ := 23) (ci := 3) (k := 0) (C := RX3) (T := TX3) (N := 7) (fs := cfs 3) (ty := .object "SkiShots$Format") (w := some p0) E hM mx0 kx0 (fun _ _ => rfl) rfl hin3 tyX3 tyX3_ok nmX3 (by decide) (index := 9) (mm_at 4 rfl) rfl (Or.inr ⟨rfl, hname, rfl⟩) (by decide +kernel) rfl rfl (show (0 : Nat) < 7 from by decide) (fun _ _ _ => rfl) (by decide) (fun _ b h1 h2 => by cases h1; cases h2; exact ⟨mp0, kp0⟩) (fun h => by cases h) (cS.raw (by decide)) (Or.inr (Or.inl (List.mem_singleton.mpr rfl))) dX3_init_6 (fun H locs O_1 eO_1 hM => ?_)
    refine lv_aload_n hx hb dX3_init_9 rfl (lv_at hl 0 rfl) ?_
    refine lv_aload_nN hx hb dX3_init_10 rfl (lv_at hl 2 rfl) ?_
    refine cr_puto (κ := 23) (ci := 3) (k := 1) (C := RX3) (T := TX3) (N := 7) (fs := cfs 3) (ty := .object "SkiShots$Race") (w := none) E hM mx0 kx0 (fun _ _ => rfl) rfl hin3 tyX3 tyX3_ok nmX3 (by decide) (index := 15) (mm_at 5 rfl) rfl (Or.inr ⟨rfl, hname, rfl⟩) (by decide +kernel) rfl rfl (show (1 : Nat) < 7 from by decide) (fun _ _ _ => rfl) (by decide) (fun _ b h1 h2 => by cases h2) (fun h => by cases h) (cS.raw (by decide)) (Or.inr (Or.inl (List.mem_singleton.mpr rfl))) dX3_init_11 (fun H locs O_2 eO_2 hM => ?_)
    refine lv_aload_n hx hb dX3_init_14 rfl (lv_at hl 0 rfl) ?_
    refine lv_iload_n hx hb dX3_init_15 rfl (lv_at hl 3 rfl) ?_
    refine cr_puti (κ := 23) (ci := 3) (k := 2) (C := RX3) (T := TX3) (N := 7) (fs := cfs 3) (ty := .int) (v := p2) E hM mx0 kx0 (fun _ _ => rfl) rfl hin3 tyX3 tyX3_ok nmX3 (by decide) (index := 19) (mm_at 6 rfl) rfl (Or.inr ⟨rfl, hname, rfl⟩) (by decide +kernel) rfl rfl (show (2 : Nat) < 7 from by decide) (fun _ _ _ => rfl) (cz_nb rfl) (cS_upd (hM.sp mx0 kx0) (by decide) (by decide)) (Or.inr (Or.inl (List.mem_singleton.mpr rfl))) dX3_init_16 (fun H locs I_3 eI_3 hM => ?_)
    refine lv_aload_n hx hb dX3_init_19 rfl (lv_at hl 0 rfl) ?_
    refine lv_bipush (v := 16) hx hb dX3_init_20 (by decide) ?_
    have hM0_4 := hM
    refine cr_newq (κ := 15) (N := 16) (t0 := 4) E hV.1.1 hA hM (fun _ => rfl) rfl (mm_at 7 rfl) (fun _ => rfl) (by decide) (by decide) (by decide) (by decide) (show (0 + 1 : Nat) ≤ 1 from by omega) (show (0 + 16 : Nat) ≤ 16 from by omega) dX3_init_22 (fun q_4 H L_4 K_4 I_4 O_4 hq_4 eL_4 eK_4 eI_4 eO_4 tr_4 mq_4 kq_4 hM => ?_)
    have hn_4 : q_4 ∉ L := fun z => hq_4 (hM0_4.2.2.2.2 q_4 z (fun w => hq_4 (List.mem_singleton.mp w ▸ mx0))).1
    have m_5 := (tr_4 x0 mx0).1
    have k_5 : K_4 x0 = 23 := (tr_4 x0 mx0).2.trans kx0
    have m_6 := (tr_4 p0 mp0).1
    have k_6 : K_4 p0 = 2 := (tr_4 p0 mp0).2.trans kp0
    refine W.widen (k := 1) (n := 16) (by omega) (by omega) ?_
    refine cr_puto (κ := 23) (ci := 3) (k := 3) (C := RX3) (T := TX3) (N := 7) (fs := cfs 3) (ty := .array (.object "SkiShots$Entry")) (w := some q_4) E hM m_5 k_5 (fun _ _ => rfl) rfl hin3 tyX3 tyX3_ok nmX3 (by decide) (index := 25) (mm_at 8 rfl) rfl (Or.inr ⟨rfl, hname, rfl⟩) (by decide +kernel) rfl rfl (show (3 : Nat) < 7 from by decide) (fun _ _ _ => rfl) (by decide) (fun _ b h1 h2 => by cases h1; cases h2; exact ⟨mq_4, kq_4⟩) (fun h => by cases h) (cS.raw (by decide)) (Or.inr (Or.inl (List.mem_singleton.mpr rfl))) dX3_init_25 (fun H locs O_7 eO_7 hM => ?_)
    have o_8 : O_1 x0 0 = some p0 := co_s eO_1
    have o_9 : O_2 x0 0 = some p0 := (co_k eO_2 (by decide)).trans o_8
    have o_10 : O_4 x0 0 = some p0 := (congrFun (cu_a eO_4 (fun z => hq_4 (z ▸ mx0))) 0).trans o_9
    have o_11 : O_7 x0 0 = some p0 := (co_k eO_7 (by decide)).trans o_10
    have o_12 : O_7 x0 3 = some q_4 := co_s eO_7
    have hnn_13 : ∀ k, cnn 3 k = true → O_7 x0 k ≠ none := fun k hk => by
      have hk2 : k = 0 ∨ k = 3 := by simpa [cnn] using hk
      rcases hk2 with rfl | rfl
      · rw [o_11]; exact fun z => by cases z
      · rw [o_12]; exact fun z => by cases z
    have b_14 : 0 ≤ (I_4 x0 4).toInt ∧ (I_4 x0 4).toInt ≤ 16 := hM.ib m_5 k_5 4 rfl
    have e_15 : (I_3 x0 4).toInt = (I x0 4).toInt := congrArg Int32.toInt (cu_k eI_3 (by decide))
    have e_16 : (I_4 x0 4).toInt = (I_3 x0 4).toInt := congrArg (fun z => Int32.toInt (z 4)) (cu_a eI_4 (fun z => hq_4 (z ▸ mx0)))
    have hM := hM.ret (κ := 3) m_5 k_5 (by decide) (fun _ _ => rfl) cib_r3 crt_r3 hnn_13 ⟨fun q => (by cases q), fun _ b hb j hj => absurd hj (by omega), fun _ => trivial, fun q => (by cases q)⟩ (Or.inr (List.mem_singleton.mpr rfl))
    have e_17 : (I_3 x0 2).toInt = p2.toInt := (congrArg Int32.toInt (cu_s eI_3)).trans rfl
    have e_18 : (I_4 x0 2).toInt = (I_3 x0 2).toInt := congrArg (fun z => Int32.toInt (z 2)) (cu_a eI_4 (fun z => hq_4 (z ▸ mx0)))
    have e_19 : (I_3 x0 5).toInt = (I x0 5).toInt := congrArg Int32.toInt (cu_k eI_3 (by decide))
    have e_20 : (I_4 x0 5).toInt = (I_3 x0 5).toInt := congrArg (fun z => Int32.toInt (z 5)) (cu_a eI_4 (fun z => hq_4 (z ▸ mx0)))
    exact cr_rv (mc := 1) (ms := 16) E hr hlk hsz hM ⟨show (1 : Nat) ≤ 1 from by omega, show (16 : Nat) ≤ 16 from by omega⟩ ⟨m_5, (va_up_self _ _ _), (show O_7 x0 0 = some p0 ∧ O_7 x0 1 = none ∧ (I_4 x0 2).toInt = p2.toInt ∧ (I_4 x0 4).toInt = 0 ∧ (I_4 x0 5).toInt = 0 ∧ ∃ es : Nat, O_7 x0 3 = some es ∧ es ∉ L ∧ es ∈ L_4 ∧ (va_up K_4 x0 3) es = 15 from by have o_21 : O_2 x0 1 = none := co_s eO_2; have o_22 : O_4 x0 1 = none := (congrFun (cu_a eO_4 (fun z => hq_4 (z ▸ mx0))) 1).trans o_21; have o_23 : O_7 x0 1 = none := (co_k eO_7 (by decide)).trans o_22; exact ⟨o_11, o_23, by omega, by omega, by omega, q_4, o_12, hn_4, mq_4, (by rw [va_up_ne _ _ (show q_4 ≠ x0 from fun z => hq_4 (by rw [z]; exact mx0))]; exact kq_4)⟩)⟩ dX3_init_28
  · refine cr_met (own := RX3) (xs := [x0]) (WI := []) (WO := []) (cc := cX3_init) (maxL := 4) (ret := none) (by decide) rfl rfl (Nat.le_of_ble_eq_true rfl) hI ?_
    intro p e s m args below meth c ls E hV hml hr hlk hname hsz hA hM hl
    have hx := E.1
    have hb := E.2.1
    have hts := E.2.2.1
    have hown := E.2.2.2.1
    have hl : lv_has ls 4 [(0, .ref x0), (1, .ref p0), (2, .ref xq), (3, .int p2)] := hl
    have hin3 : ∀ w ∈ wsX30, w ∈ w5X3_init := by decide +kernel
    obtain ⟨mxq, kxq⟩ := tp1 _ rfl
    refine lv_aload_n hx hb dX3_init_0 rfl (lv_at hl 0 rfl) ?_
    refine W.objInit hx hb hown (hts _ (mm_at 1 rfl)) (hts _ (mm_at 2 rfl)) (hts _ (mm_at 3 rfl)) rfl (by rw [hml]; exact hl.1) rfl dX3_init_1 (Nat.le_of_ble_eq_true rfl) (Nat.le_of_ble_eq_true rfl) ?_
    refine W.eq (g2 := F0 m 4 ls []) rfl ?_
    refine lv_aload_n hx hb dX3_init_4 rfl (lv_at hl 0 rfl) ?_
    refine lv_aload_n hx hb dX3_init_5 rfl (lv_at hl 1 rfl) ?_
    refine cr_puto (κ := 23) (ci := 3) (k := 0) (C := RX3) (T := TX3) (N := 7) (fs := cfs 3) (ty := .object "SkiShots$Format") (w := some p0) E hM mx0 kx0 (fun _ _ => rfl) rfl hin3 tyX3 tyX3_ok nmX3 (by decide) (index := 9) (mm_at 4 rfl) rfl (Or.inr ⟨rfl, hname, rfl⟩) (by decide +kernel) rfl rfl (show (0 : Nat) < 7 from by decide) (fun _ _ _ => rfl) (by decide) (fun _ b h1 h2 => by cases h1; cases h2; exact ⟨mp0, kp0⟩) (fun h => by cases h) (cS.raw (by decide)) (Or.inr (Or.inl (List.mem_singleton.mpr rfl))) dX3_init_6 (fun H locs O_24 eO_24 hM => ?_)
    refine lv_aload_n hx hb dX3_init_9 rfl (lv_at hl 0 rfl) ?_
    refine lv_aload_n hx hb dX3_init_10 rfl (lv_at hl 2 rfl) ?_
    refine cr_puto (κ := 23) (ci := 3) (k := 1) (C := RX3) (T := TX3) (N := 7) (fs := cfs 3) (ty := .object "SkiShots$Race") (w := some xq) E hM mx0 kx0 (fun _ _ => rfl) rfl hin3 tyX3 tyX3_ok nmX3 (by decide) (index := 15) (mm_at 5 rfl) rfl (Or.inr ⟨rfl, hname, rfl⟩) (by decide +kernel) rfl rfl (show (1 : Nat) < 7 from by decide) (fun _ _ _ => rfl) (by decide) (fun _ b h1 h2 => by cases h1; cases h2; exact ⟨mxq, kxq⟩) (fun h => by cases h) (cS.raw (by decide)) (Or.inr (Or.inl (List.mem_singleton.mpr rfl))) dX3_init_11 (fun H locs O_25 eO_25 hM => ?_)
    refine lv_aload_n hx hb dX3_init_14 rfl (lv_at hl 0 rfl) ?_
    refine lv_iload_n hx hb dX3_init_15 rfl (lv_at hl 3 rfl) ?_
    refine cr_puti (κ := 23) (ci := 3) (k := 2) (C := RX3) (T := TX3) (N := 7) (fs := cfs 3) (ty := .int) (v := p2) E hM mx0 kx0 (fun _ _ => rfl) rfl hin3 tyX3 tyX3_ok nmX3 (by decide) (index := 19) (mm_at 6 rfl) rfl (Or.inr ⟨rfl, hname, rfl⟩) (by decide +kernel) rfl rfl (show (2 : Nat) < 7 from by decide) (fun _ _ _ => rfl) (cz_nb rfl) (cS_upd (hM.sp mx0 kx0) (by decide) (by decide)) (Or.inr (Or.inl (List.mem_singleton.mpr rfl))) dX3_init_16 (fun H locs I_26 eI_26 hM => ?_)
    refine lv_aload_n hx hb dX3_init_19 rfl (lv_at hl 0 rfl) ?_
    refine lv_bipush (v := 16) hx hb dX3_init_20 (by decide) ?_
    have hM0_27 := hM
    refine cr_newq (κ := 15) (N := 16) (t0 := 4) E hV.1.1 hA hM (fun _ => rfl) rfl (mm_at 7 rfl) (fun _ => rfl) (by decide) (by decide) (by decide) (by decide) (show (0 + 1 : Nat) ≤ 1 from by omega) (show (0 + 16 : Nat) ≤ 16 from by omega) dX3_init_22 (fun q_27 H L_27 K_27 I_27 O_27 hq_27 eL_27 eK_27 eI_27 eO_27 tr_27 mq_27 kq_27 hM => ?_)
    have hn_27 : q_27 ∉ L := fun z => hq_27 (hM0_27.2.2.2.2 q_27 z (fun w => hq_27 (List.mem_singleton.mp w ▸ mx0))).1
    have m_28 := (tr_27 x0 mx0).1
    have k_28 : K_27 x0 = 23 := (tr_27 x0 mx0).2.trans kx0
    have m_29 := (tr_27 p0 mp0).1
    have k_29 : K_27 p0 = 2 := (tr_27 p0 mp0).2.trans kp0
    have m_30 := (tr_27 xq mxq).1
    have k_30 : K_27 xq = 3 := (tr_27 xq mxq).2.trans kxq
    refine W.widen (k := 1) (n := 16) (by omega) (by omega) ?_
    refine cr_puto (κ := 23) (ci := 3) (k := 3) (C := RX3) (T := TX3) (N := 7) (fs := cfs 3) (ty := .array (.object "SkiShots$Entry")) (w := some q_27) E hM m_28 k_28 (fun _ _ => rfl) rfl hin3 tyX3 tyX3_ok nmX3 (by decide) (index := 25) (mm_at 8 rfl) rfl (Or.inr ⟨rfl, hname, rfl⟩) (by decide +kernel) rfl rfl (show (3 : Nat) < 7 from by decide) (fun _ _ _ => rfl) (by decide) (fun _ b h1 h2 => by cases h1; cases h2; exact ⟨mq_27, kq_27⟩) (fun h => by cases h) (cS.raw (by decide)) (Or.inr (Or.inl (List.mem_singleton.mpr rfl))) dX3_init_25 (fun H locs O_31 eO_31 hM => ?_)
    have o_32 : O_24 x0 0 = some p0 := co_s eO_24
    have o_33 : O_25 x0 0 = some p0 := (co_k eO_25 (by decide)).trans o_32
    have o_34 : O_27 x0 0 = some p0 := (congrFun (cu_a eO_27 (fun z => hq_27 (z ▸ mx0))) 0).trans o_33
    have o_35 : O_31 x0 0 = some p0 := (co_k eO_31 (by decide)).trans o_34
    have o_36 : O_31 x0 3 = some q_27 := co_s eO_31
    have hnn_37 : ∀ k, cnn 3 k = true → O_31 x0 k ≠ none := fun k hk => by
      have hk2 : k = 0 ∨ k = 3 := by simpa [cnn] using hk
      rcases hk2 with rfl | rfl
      · rw [o_35]; exact fun z => by cases z
      · rw [o_36]; exact fun z => by cases z
    have b_38 : 0 ≤ (I_27 x0 4).toInt ∧ (I_27 x0 4).toInt ≤ 16 := hM.ib m_28 k_28 4 rfl
    have e_39 : (I_26 x0 4).toInt = (I x0 4).toInt := congrArg Int32.toInt (cu_k eI_26 (by decide))
    have e_40 : (I_27 x0 4).toInt = (I_26 x0 4).toInt := congrArg (fun z => Int32.toInt (z 4)) (cu_a eI_27 (fun z => hq_27 (z ▸ mx0)))
    have hM := hM.ret (κ := 3) m_28 k_28 (by decide) (fun _ _ => rfl) cib_r3 crt_r3 hnn_37 ⟨fun q => (by cases q), fun _ b hb j hj => absurd hj (by omega), fun _ => trivial, fun q => (by cases q)⟩ (Or.inr (List.mem_singleton.mpr rfl))
    have e_41 : (I_26 x0 2).toInt = p2.toInt := (congrArg Int32.toInt (cu_s eI_26)).trans rfl
    have e_42 : (I_27 x0 2).toInt = (I_26 x0 2).toInt := congrArg (fun z => Int32.toInt (z 2)) (cu_a eI_27 (fun z => hq_27 (z ▸ mx0)))
    have e_43 : (I_26 x0 5).toInt = (I x0 5).toInt := congrArg Int32.toInt (cu_k eI_26 (by decide))
    have e_44 : (I_27 x0 5).toInt = (I_26 x0 5).toInt := congrArg (fun z => Int32.toInt (z 5)) (cu_a eI_27 (fun z => hq_27 (z ▸ mx0)))
    exact cr_rv (mc := 1) (ms := 16) E hr hlk hsz hM ⟨show (1 : Nat) ≤ 1 from by omega, show (16 : Nat) ≤ 16 from by omega⟩ ⟨m_28, (va_up_self _ _ _), (show O_31 x0 0 = some p0 ∧ O_31 x0 1 = (some xq) ∧ (I_27 x0 2).toInt = p2.toInt ∧ (I_27 x0 4).toInt = 0 ∧ (I_27 x0 5).toInt = 0 ∧ ∃ es : Nat, O_31 x0 3 = some es ∧ es ∉ L ∧ es ∈ L_27 ∧ (va_up K_27 x0 3) es = 15 from by have o_45 : O_25 x0 1 = some xq := co_s eO_25; have o_46 : O_27 x0 1 = some xq := (congrFun (cu_a eO_27 (fun z => hq_27 (z ▸ mx0))) 1).trans o_45; have o_47 : O_31 x0 1 = some xq := (co_k eO_31 (by decide)).trans o_46; exact ⟨o_35, o_47, by omega, by omega, by omega, q_27, o_36, hn_27, mq_27, (by rw [va_up_ne _ _ (show q_27 ≠ x0 from fun z => hq_27 (by rw [z]; exact mx0))]; exact kq_27)⟩)⟩ dX3_init_28
def w5X3_entryOf : List Cond := .code yX3_entryOf cX3_entryOf 3 (some (.object "SkiShots$Entry")) :: ([.fieldLink RX3 29 "SkiShots$Race" "entryCount" "I", .fieldLink RX3 25 "SkiShots$Race" "entries" "[LSkiShots$Entry;", .fieldLink RX3 35 "SkiShots$Entry" "racer" "I"] ++ wsX00 ++ wsX30)
set_option maxHeartbeats 4000000 in
set_option maxRecDepth 100000 in
theorem h5_X3_entryOf (l : Launch) (D : va_G) (cA : Nat → ClassId) (ad av : Nat → Nat) (L : List Nat) (K : Nat → Nat) (I : Nat → Nat → Int32) (O : Nat → Nat → Option Nat) (sz : Nat) (x0 : Nat) (p0 : Int32) (hI : cI L K I O) (mx0 : x0 ∈ L) (kx0 : K x0 = 3) (es : Nat) (hes : O x0 3 = some es) : Met l yX3_entryOf w5X3_entryOf ({ frames := 0, cells := 0, slots := 0, locals := 0 }) (cPre D cA ad av L K I O sz [.ref x0, .int p0]) (cQq D cA L K I O sz [] [] [] (fun r L' K' I' O' => (L' = L ∧ K' = K ∧ I' = I ∧ O' = O) ∧ ((r = none ∧ (∀ i : Nat, (i : Int) < (I x0 4).toInt → ∀ w : Nat, O es i = some w → ¬ (I w 0).toInt = p0.toInt)) ∨ (∃ w i : Nat, r = some w ∧ w ∈ L ∧ K w = 0 ∧ (i : Int) < (I x0 4).toInt ∧ O es i = some w ∧ (I w 0).toInt = p0.toInt)))) 0 0 (va_A (cW cA L K I O) sz) := by
  refine cr_met (own := RX3) (xs := []) (WI := []) (WO := []) (cc := cX3_entryOf) (maxL := 3) (ret := (some (.object "SkiShots$Entry"))) (by decide) rfl rfl (Nat.le_of_ble_eq_true rfl) hI ?_
  intro p e s m args below meth c ls E hV hml hr hlk hname hsz hA hM hl
  have hx := E.1
  have hb := E.2.1
  have hts := E.2.2.1
  have hown := E.2.2.2.1
  have hl : lv_has ls 3 [(0, .ref x0), (1, .int p0)] := hl
  have hin0 : ∀ w ∈ wsX00, w ∈ w5X3_entryOf := by decide +kernel
  have hin3 : ∀ w ∈ wsX30, w ∈ w5X3_entryOf := by decide +kernel
  have B_2 : ∀ n_2 : Nat, ∀ (H : Heap) (locs : List Loc) (ls : Array Slot) (i : Int32), (0 ≤ i.toInt ∧ i.toInt ≤ 16) → (∀ j : Nat, j < Int32.toNatClampNeg i → ∀ w : Nat, O es j = some w → ¬ (I w 0).toInt = p0.toInt) → (16 - i.toInt) < (n_2 : Int) → cQ D cA (va_A (cW cA L K I O) sz) s.heap [] [] [] L K I O H locs L K I O → lv_has ls 3 [(0, .ref x0), (1, .int p0), (2, .int i)] → W p l e ({ frames := 0, cells := 0, slots := 0, locals := 0 }) s m args below meth c H locs 0 0 (MQ below (cQq D cA L K I O sz [] [] [] (fun r L' K' I' O' => (L' = L ∧ K' = K ∧ I' = I ∧ O' = O) ∧ ((r = none ∧ (∀ i : Nat, (i : Int) < (I x0 4).toInt → ∀ w : Nat, O es i = some w → ¬ (I w 0).toInt = p0.toInt)) ∨ (∃ w i : Nat, r = some w ∧ w ∈ L ∧ K w = 0 ∧ (i : Int) < (I x0 4).toInt ∧ O es i = some w ∧ (I w 0).toInt = p0.toInt)))) args s 0 0 (va_A (cW cA L K I O) sz)) (F0 m 2 ls []) := by
    intro n_2
    induction n_2 with
    | zero => intro H locs ls i f2_0 f2_1 hn hM hl; exact False.elim (by omega)
    | succ n_2 ih_2 =>
      intro H locs ls i f2_0 f2_1 hn hM hl
      obtain ⟨mes, kes⟩ := hM.rt mx0 kx0 3 (κ' := 15) rfl hes
      refine lv_iload_n hx hb dX3_entryOf_2 rfl (lv_at hl 2 rfl) ?_
      refine lv_aload_n hx hb dX3_entryOf_3 rfl (lv_at hl 0 rfl) ?_
      have b_1 : 0 ≤ (I x0 4).toInt ∧ (I x0 4).toInt ≤ 16 := hM.ib mx0 kx0 4 rfl
      refine cr_get (κ := 3) (ci := 3) (k := 4) (C := RX3) (T := TX3) (N := 7) (fs := cfs 3) (v := .int (I x0 4)) E hM mx0 kx0 (fun _ _ => rfl) rfl hin3 (by decide) (index := 29) (mm_at 1 rfl) rfl rfl dX3_entryOf_4 ?_
      refine mm_icmp_ge (X := i.toInt) (Y := (I x0 4).toInt) (tgt := 36) hx hb dX3_entryOf_7 (by decide) rfl rfl (fun c_2 => ?_) (fun c_2 => ?_)
      · refine lv_null hx hb dX3_entryOf_36 ?_
        exact cr_rq (mc := 0) (ms := 0) (v := none) E hr hlk hsz hM ⟨show (0 : Nat) ≤ 0 from by omega, show (0 : Nat) ≤ 0 from by omega⟩ (Or.inl ⟨_, rfl⟩) ⟨⟨rfl, rfl, rfl, rfl⟩, (Or.inl ⟨rfl, fun j hj w hw => f2_1 j (by rw [mm_nat]; omega) w hw⟩)⟩ dX3_entryOf_37
      · refine lv_aload_n hx hb dX3_entryOf_10 rfl (lv_at hl 0 rfl) ?_
        refine cr_get (κ := 3) (ci := 3) (k := 3) (C := RX3) (T := TX3) (N := 7) (fs := cfs 3) (v := .ref es) E hM mx0 kx0 (fun _ _ => rfl) rfl hin3 (by decide) (index := 25) (mm_at 2 rfl) rfl (by show some (va_rf (O x0 3)) = some (.ref es); rw [hes]; rfl) dX3_entryOf_11 ?_
        refine lv_iload_n hx hb dX3_entryOf_14 rfl (lv_at hl 2 rfl) ?_
        obtain ⟨x_3, o_3⟩ := c_nn ((hM.sp mx0 kx0).2.1 rfl es hes (Int32.toNatClampNeg i) (by rw [mm_nat]; omega))
        obtain ⟨m_3, k_3⟩ := hM.rt mes kes (Int32.toNatClampNeg i) (κ' := 0) rfl o_3
        refine cr_aalds (κ := 15) (t0 := 4) (X := i.toInt) E hM mes kes (fun _ _ => rfl) rfl rfl (by omega) o_3 dX3_entryOf_15 ?_
        have b_4 : 0 ≤ (I x_3 0).toInt ∧ (I x_3 0).toInt ≤ 15 := hM.ib m_3 k_3 0 rfl
        refine cr_get (κ := 0) (ci := 0) (k := 0) (C := RX0) (T := TX0) (N := 10) (fs := cfs 0) (v := .int (I x_3 0)) E hM m_3 k_3 (fun _ _ => rfl) rfl hin0 (by decide) (index := 35) (mm_at 3 rfl) rfl rfl dX3_entryOf_16 ?_
        refine lv_iload_n hx hb dX3_entryOf_19 rfl (lv_at hl 1 rfl) ?_
        refine mm_icmp_ne (X := (I x_3 0).toInt) (Y := p0.toInt) (tgt := 30) hx hb dX3_entryOf_20 (by decide) rfl rfl (fun c_5 => ?_) (fun c_5 => ?_)
        · refine mm_iinc (X := i.toInt) (v := 1) (lv2 := fun z => [(2, .int z), (0, .ref x0), (1, .int p0)]) hx hb dX3_entryOf_30 hl (k := 2) rfl rfl (by decide) num_1 (by omega) (by decide) (fun _ => rfl) (fun z_6 ls hz_6 hl => ?_)
          have hl : lv_has ls 3 [(2, .int z_6), (0, .ref x0), (1, .int p0)] := hl
          refine lv_goto (tgt := 2) hx hb dX3_entryOf_33 (by decide) ?_
          exact ih_2 _ _ _  z_6    (show (0 ≤ z_6.toInt ∧ z_6.toInt ≤ 16) from by omega) (show (∀ j : Nat, j < Int32.toNatClampNeg z_6 → ∀ w : Nat, O es j = some w → ¬ (I w 0).toInt = p0.toInt) from by exact fun j hj w hw => (Nat.lt_or_ge j (Int32.toNatClampNeg i)).elim (fun h9 => f2_1 j h9 w hw) (fun h9 => by have e9 : j = Int32.toNatClampNeg i := (by simp only [mm_nat] at hj h9 ⊢; omega); rw [e9, o_3] at hw; cases hw; omega)) (show (16 - z_6.toInt) < ((n_2 : Nat) : Int) from by omega) hM (lv_sub hl [1, 2, 0] rfl)
        · refine lv_aload_n hx hb dX3_entryOf_23 rfl (lv_at hl 0 rfl) ?_
          refine cr_get (κ := 3) (ci := 3) (k := 3) (C := RX3) (T := TX3) (N := 7) (fs := cfs 3) (v := .ref es) E hM mx0 kx0 (fun _ _ => rfl) rfl hin3 (by decide) (index := 25) (mm_at 2 rfl) rfl (by show some (va_rf (O x0 3)) = some (.ref es); rw [hes]; rfl) dX3_entryOf_24 ?_
          refine lv_iload_n hx hb dX3_entryOf_27 rfl (lv_at hl 2 rfl) ?_
          refine cr_aalds (κ := 15) (t0 := 4) (X := i.toInt) E hM mes kes (fun _ _ => rfl) rfl rfl (by omega) o_3 dX3_entryOf_28 ?_
          exact cr_rq (mc := 0) (ms := 0) (v := some x_3) E hr hlk hsz hM ⟨show (0 : Nat) ≤ 0 from by omega, show (0 : Nat) ≤ 0 from by omega⟩ (Or.inl ⟨_, rfl⟩) ⟨⟨rfl, rfl, rfl, rfl⟩, (Or.inr ⟨x_3, Int32.toNatClampNeg i, rfl, m_3, k_3, (by rw [mm_nat]; omega), o_3, by omega⟩)⟩ dX3_entryOf_29
  obtain ⟨mes, kes⟩ := hM.rt mx0 kx0 3 (κ' := 15) rfl hes
  refine lv_iconst (v := 0) hx hb dX3_entryOf_0 (by decide) ?_
  refine lv_istore_n (lv' := [(2, .int 0), (0, .ref x0), (1, .int p0)]) hx hb dX3_entryOf_1 rfl hl (by decide) rfl (fun ls hl => ?_)
  exact B_2 4294967296 _ _ _  0    (show (0 ≤ (0 : Int32).toInt ∧ (0 : Int32).toInt ≤ 16) from by have n_0 := num_0; omega) (show (∀ j : Nat, j < Int32.toNatClampNeg (0 : Int32) → ∀ w : Nat, O es j = some w → ¬ (I w 0).toInt = p0.toInt) from by have n_0 := num_0; exact fun j hj => absurd hj (by rw [show Int32.toNatClampNeg (0 : Int32) = 0 from by decide]; exact Nat.not_lt_zero _)) (show (16 - (0 : Int32).toInt) < ((4294967296 : Nat) : Int) from by have n_0 := num_0; omega) hM (lv_sub hl [1, 2, 0] rfl)
def w5X3_add : List Cond := .code yX3_add cX3_add 2 none :: ([.fieldLink RX3 29 "SkiShots$Race" "entryCount" "I", .fieldLink RX3 25 "SkiShots$Race" "entries" "[LSkiShots$Entry;", .classLink RX3 23 RX0, .instantiable RX0 10, .initialized RX0, .methodLink RX3 32 yX0_init, .instanceMethod yX0_init, .code yX0_init cX0_init 2 none, .methodLink RX0 3 objectInit, .instanceMethod objectInit, .code objectInit ⟨#[0xb1]⟩ 1 none, .fieldLink RX0 9 "SkiShots$Entry" "racer" "I"] ++ wsX00 ++ wsX30)
set_option maxRecDepth 20000 in
theorem gz_X3_add_X0_init_6 : GoodIn w5X3_add (w5X0_init) := goodIn_p _ [8, 11] rfl (by decide +kernel)
set_option maxHeartbeats 4000000 in
set_option maxRecDepth 100000 in
theorem h5_X3_add (l : Launch) (D : va_G) (cA : Nat → ClassId) (ad av : Nat → Nat) (L : List Nat) (K : Nat → Nat) (I : Nat → Nat → Int32) (O : Nat → Nat → Option Nat) (sz : Nat) (x0 : Nat) (p0 : Int32) (hI : cI L K I O) (mx0 : x0 ∈ L) (kx0 : K x0 = 3) (es : Nat) (hes : O x0 3 = some es) (k0 : 0 ≤ p0.toInt ∧ p0.toInt < 16) : Met l yX3_add w5X3_add ({ frames := 2, cells := 1, slots := 10, locals := 41 }) (cPre D cA ad av L K I O sz [.ref x0, .int p0]) (cQv D cA L K I O sz [] [(0, 0), (3, 4)] [(15, 0)] (fun L' K' I' O' => ((16 ≤ (I x0 4).toInt ∧ (L' = L ∧ K' = K ∧ I' = I ∧ O' = O)) ∨ ((I x0 4).toInt < 16 ∧ ∃ qe : Nat, qe ∉ L ∧ qe ∈ L' ∧ K' qe = 0 ∧ (I' qe 0).toInt = p0.toInt ∧ O' qe 1 = none ∧ (I' x0 4).toInt = (I x0 4).toInt + 1 ∧ (∀ g : Nat, O' es g = if g = Int32.toNatClampNeg (I x0 4) then some qe else O es g))) ∧ (∀ a : Nat, a ∈ L → K a = 0 → ∀ j : Nat, I' a j = I a j) ∧ (∀ a : Nat, a ∈ L → K a = 3 → ¬ a = x0 → ∀ j : Nat, I' a j = I a j) ∧ (∀ a : Nat, a ∈ L → K a = 15 → ¬ a = es → ∀ j : Nat, O' a j = O a j))) 1 10 (va_A (cW cA L K I O) sz) := by
  refine cr_met (own := RX3) (xs := []) (WI := [(0, 0), (3, 4)]) (WO := [(15, 0)]) (cc := cX3_add) (maxL := 2) (ret := none) (by decide) rfl rfl (Nat.le_of_ble_eq_true rfl) hI ?_
  intro p e s m args below meth c ls E hV hml hr hlk hname hsz hA hM hl
  have hx := E.1
  have hb := E.2.1
  have hts := E.2.2.1
  have hown := E.2.2.2.1
  have hl : lv_has ls 2 [(0, .ref x0), (1, .int p0)] := hl
  have hin0 : ∀ w ∈ wsX00, w ∈ w5X3_add := by decide +kernel
  have hin3 : ∀ w ∈ wsX30, w ∈ w5X3_add := by decide +kernel
  obtain ⟨mes, kes⟩ := hM.rt mx0 kx0 3 (κ' := 15) rfl hes
  refine lv_aload_n hx hb dX3_add_0 rfl (lv_at hl 0 rfl) ?_
  have b_1 : 0 ≤ (I x0 4).toInt ∧ (I x0 4).toInt ≤ 16 := hM.ib mx0 kx0 4 rfl
  refine cr_get (κ := 3) (ci := 3) (k := 4) (C := RX3) (T := TX3) (N := 7) (fs := cfs 3) (v := .int (I x0 4)) E hM mx0 kx0 (fun _ _ => rfl) rfl hin3 (by decide) (index := 29) (mm_at 1 rfl) rfl rfl dX3_add_1 ?_
  refine lv_bipush (v := 16) hx hb dX3_add_4 (by decide) ?_
  refine mm_icmp_ge (X := (I x0 4).toInt) (Y := 16) (tgt := 36) hx hb dX3_add_6 (by decide) rfl num_16 (fun c_2 => ?_) (fun c_2 => ?_)
  · exact cr_rv (mc := 1) (ms := 10) E hr hlk hsz hM ⟨show (0 : Nat) ≤ 1 from by omega, show (0 : Nat) ≤ 10 from by omega⟩ (show ((16 ≤ (I x0 4).toInt ∧ (L = L ∧ K = K ∧ I = I ∧ O = O)) ∨ ((I x0 4).toInt < 16 ∧ ∃ qe : Nat, qe ∉ L ∧ qe ∈ L ∧ K qe = 0 ∧ (I qe 0).toInt = p0.toInt ∧ O qe 1 = none ∧ (I x0 4).toInt = (I x0 4).toInt + 1 ∧ (∀ g : Nat, O es g = if g = Int32.toNatClampNeg (I x0 4) then some qe else O es g))) ∧ (∀ a : Nat, a ∈ L → K a = 0 → ∀ j : Nat, I a j = I a j) ∧ (∀ a : Nat, a ∈ L → K a = 3 → ¬ a = x0 → ∀ j : Nat, I a j = I a j) ∧ (∀ a : Nat, a ∈ L → K a = 15 → ¬ a = es → ∀ j : Nat, O a j = O a j) from by exact ⟨Or.inl ⟨by omega, rfl, rfl, rfl, rfl⟩, fun a _ _ j => rfl, fun a _ _ _ j => rfl, fun a _ _ _ j => rfl⟩) dX3_add_36
  · refine lv_aload_n hx hb dX3_add_9 rfl (lv_at hl 0 rfl) ?_
    refine cr_get (κ := 3) (ci := 3) (k := 3) (C := RX3) (T := TX3) (N := 7) (fs := cfs 3) (v := .ref es) E hM mx0 kx0 (fun _ _ => rfl) rfl hin3 (by decide) (index := 25) (mm_at 2 rfl) rfl (by show some (va_rf (O x0 3)) = some (.ref es); rw [hes]; rfl) dX3_add_10 ?_
    refine lv_aload_n hx hb dX3_add_13 rfl (lv_at hl 0 rfl) ?_
    refine cr_get (κ := 3) (ci := 3) (k := 4) (C := RX3) (T := TX3) (N := 7) (fs := cfs 3) (v := .int (I x0 4)) E hM mx0 kx0 (fun _ _ => rfl) rfl hin3 (by decide) (index := 29) (mm_at 1 rfl) rfl rfl dX3_add_14 ?_
    have hM0_3 := hM
    refine cr_new (κ := 0) (ci := 0) (C := RX0) (T := TX0) (N := 10) E hA hM (fun _ _ => rfl) rfl hin0 tyX0 tyX0_ok (mm_at 3 rfl) (mm_at 4 rfl) (mm_at 5 rfl) (fun j hj => by rcases (show j = 0 ∨ j = 1 ∨ j = 2 ∨ j = 3 ∨ j = 4 ∨ j = 5 ∨ j = 6 ∨ j = 7 ∨ j = 8 ∨ j = 9 by omega) with rfl | rfl | rfl | rfl | rfl | rfl | rfl | rfl | rfl | rfl <;> rfl) (fun _ => rfl) (by decide) (show (0 + 1 : Nat) ≤ 1 from by omega) (show (0 + 10 : Nat) ≤ 10 from by omega) dX3_add_17 (fun q_3 H L_3 K_3 I_3 O_3 hq_3 eL_3 eK_3 eI_3 eO_3 tr_3 mq_3 kq_3 hM => ?_)
    have hn_3 : q_3 ∉ L := fun z => hq_3 (hM0_3.2.2.2.2 q_3 z (fun z => by cases z)).1
    have m_4 := (tr_3 x0 mx0).1
    have k_4 : K_3 x0 = 3 := (tr_3 x0 mx0).2.trans kx0
    have m_5 := (tr_3 es mes).1
    have k_5 : K_3 es = 15 := (tr_3 es mes).2.trans kes
    refine W.widen (k := 1) (n := 10) (by omega) (by omega) ?_
    refine lv_dup hx hb dX3_add_20 rfl ?_
    refine lv_iload_n hx hb dX3_add_21 rfl (lv_at hl 1 rfl) ?_
    refine cc_Iv (vs := [.int p0]) (rest := [.ref q_3, .int (I x0 4), .ref es]) (ret := none) (b := q_3) E hV rfl hA hml hM (h5_X0_init l D cA ad av L_3 K_3 I_3 O_3 _ q_3 p0 hM.2.2.2.1 mq_3 kq_3 (show 0 ≤ p0.toInt ∧ p0.toInt < 16 from by omega)) (cwI 1 hts gz_X3_add_X0_init_6 rfl rfl rfl (hts _ (mm_at 5 rfl)) (hts _ (mm_at 6 rfl)) (hts _ (mm_at 7 rfl)) rfl (by decide +kernel) ⟨Nat.le_of_ble_eq_true rfl, Nat.le_of_ble_eq_true rfl⟩) rfl hl.1 rfl (Nat.le_of_ble_eq_true rfl) dX3_add_22 ⟨show (1 + 0 : Nat) ≤ 1 from by omega, show (10 + 0 : Nat) ≤ 10 from by omega⟩ (fun _ h => by cases h) (by decide) (by decide) (fun L_9 K_9 I_9 O_9 H locs fr_9 p_8 hM => ?_)
    have m_10 := (fr_9 x0 m_4 (fun z => by cases z)).1
    have k_10 : K_9 x0 = 3 := (fr_9 x0 m_4 (fun z => by cases z)).2.1.trans k_4
    have m_11 := (fr_9 es m_5 (fun z => by cases z)).1
    have k_11 : K_9 es = 15 := (fr_9 es m_5 (fun z => by cases z)).2.1.trans k_5
    have m_12 := (fr_9 q_3 mq_3 (fun z => by cases z)).1
    have k_12 : K_9 q_3 = 0 := (fr_9 q_3 mq_3 (fun z => by cases z)).2.1.trans kq_3
    replace p_8 : (I_9 q_3 0).toInt = p0.toInt ∧ (∀ a : Nat, a ∈ L_3 → K_3 a = 0 → ¬ a = q_3 → ∀ j : Nat, I_9 a j = I_3 a j) := p_8
    rcases p_8 with ⟨e0_13, fr0_13⟩
    refine cr_aast (κ := 15) (κb := 0) (ci := 0) (t0 := 4) (r := (RX0, TX0, 10)) (X := (I x0 4).toInt) E hM m_11 k_11 (fun _ _ => rfl) rfl m_12 k_12 rfl rfl rfl (by omega) (by decide) (fun _ => rfl) (Or.inr (Or.inr (fun _ => rfl))) dX3_add_25 (fun H locs O_14 eO_14 hM => ?_)
    refine lv_aload_n hx hb dX3_add_26 rfl (lv_at hl 0 rfl) ?_
    refine lv_dup hx hb dX3_add_27 rfl ?_
    have b_15 : 0 ≤ (I_9 x0 4).toInt ∧ (I_9 x0 4).toInt ≤ 16 := hM.ib m_10 k_10 4 rfl
    have e_16 : (I_3 x0 4).toInt = (I x0 4).toInt := congrArg (fun z => Int32.toInt (z 4)) (cu_a eI_3 (fun z => hq_3 (z ▸ mx0)))
    have e_17 : (I_9 x0 4).toInt = (I_3 x0 4).toInt := congrArg Int32.toInt ((fr_9 x0 m_4 (fun z => by cases z)).2.2.1 4 (by rw [k_4]; rfl))
    refine cr_get (κ := 3) (ci := 3) (k := 4) (C := RX3) (T := TX3) (N := 7) (fs := cfs 3) (v := .int (I_9 x0 4)) E hM m_10 k_10 (fun _ _ => rfl) rfl hin3 (by decide) (index := 29) (mm_at 1 rfl) rfl rfl dX3_add_28 ?_
    refine lv_iconst (v := 1) hx hb dX3_add_31 (by decide) ?_
    refine mm_iadd (X := (I_9 x0 4).toInt) (Y := 1) hx hb dX3_add_32 rfl num_1 (by omega) (fun z_18 hz_18 => ?_)
    have o_19 : O_3 x0 3 = some es := (congrFun (cu_a eO_3 (fun z => hq_3 (z ▸ mx0))) 3).trans hes
    have o_20 : O_9 x0 3 = some es := ((fr_9 x0 m_4 (fun z => by cases z)).2.2.2 3 (by rw [k_4]; rfl)).trans o_19
    have o_21 : O_14 x0 3 = some es := (congrFun (cu_a eO_14 (c_ne k_10 k_11 (by decide))) 3).trans o_20
    have o_22 : O_14 es (Int32.toNatClampNeg (I x0 4)) = some q_3 := co_s eO_14
    refine cr_puti (κ := 3) (ci := 3) (k := 4) (C := RX3) (T := TX3) (N := 7) (fs := cfs 3) (ty := .int) (v := z_18) E hM m_10 k_10 (fun _ _ => rfl) rfl hin3 tyX3 tyX3_ok nmX3 (by decide) (index := 29) (mm_at 1 rfl) rfl (Or.inl rfl) (by decide +kernel) rfl rfl (show (4 : Nat) < 7 from by decide) (fun _ _ _ => rfl) (cz_bd (X := z_18.toInt) (a := 0) (b := 16) rfl rfl (by omega)) (cS_cnt3 (hM.sp m_10 k_10) o_21 (n0 := Int32.toNatClampNeg (I x0 4)) (by rw [o_22]; exact fun z => by cases z) (by rw [mm_nat]; omega) (by omega)) (Or.inr (Or.inr rfl)) dX3_add_33 (fun H locs I_23 eI_23 hM => ?_)
    have b_24 : 0 ≤ (I_23 x0 4).toInt ∧ (I_23 x0 4).toInt ≤ 16 := hM.ib m_10 k_10 4 rfl
    have e_25 : (I_23 x0 4).toInt = z_18.toInt := (congrArg Int32.toInt (cu_s eI_23)).trans rfl
    exact cr_rv (mc := 1) (ms := 10) E hr hlk hsz hM ⟨show (1 : Nat) ≤ 1 from by omega, show (10 : Nat) ≤ 10 from by omega⟩ (show ((16 ≤ (I x0 4).toInt ∧ (L_9 = L ∧ K_9 = K ∧ I_23 = I ∧ O_14 = O)) ∨ ((I x0 4).toInt < 16 ∧ ∃ qe : Nat, qe ∉ L ∧ qe ∈ L_9 ∧ K_9 qe = 0 ∧ (I_23 qe 0).toInt = p0.toInt ∧ O_14 qe 1 = none ∧ (I_23 x0 4).toInt = (I x0 4).toInt + 1 ∧ (∀ g : Nat, O_14 es g = if g = Int32.toNatClampNeg (I x0 4) then some qe else O es g))) ∧ (∀ a : Nat, a ∈ L → K a = 0 → ∀ j : Nat, I_23 a j = I a j) ∧ (∀ a : Nat, a ∈ L → K a = 3 → ¬ a = x0 → ∀ j : Nat, I_23 a j = I a j) ∧ (∀ a : Nat, a ∈ L → K a = 15 → ¬ a = es → ∀ j : Nat, O_14 a j = O a j) from by have o_26 : O_3 q_3 1 = none := cn_s eO_3; have o_27 : O_9 q_3 1 = none := ((fr_9 q_3 mq_3 (fun z => by cases z)).2.2.2 1 (by rw [kq_3]; rfl)).trans o_26; have o_28 : O_14 q_3 1 = none := (congrFun (cu_a eO_14 (c_ne k_12 k_11 (by decide))) 1).trans o_27; have b_29 : 0 ≤ (I_23 q_3 0).toInt ∧ (I_23 q_3 0).toInt ≤ 15 := hM.ib m_12 k_12 0 rfl; have e_30 : (I_23 q_3 0).toInt = (I_9 q_3 0).toInt := congrArg Int32.toInt (cu_k eI_23 (by decide)); exact ⟨Or.inr ⟨by omega, q_3, hn_3, m_12, k_12, by omega, o_28, by omega, fun g => (show O_14 es g = O_14 es g from (by have t1_ := tr_3 es mes; have k1_ := t1_.2.trans kes; have m1_ := t1_.1; have t2_ := fr_9 es m1_ (fun z => by cases z); have k2_ := t2_.2.1.trans k1_; have m2_ := t2_.1; exact rfl)).trans ((co_all eO_14).trans (by rw [show O_9 es g = O es g from (by have t1_ := tr_3 es mes; have k1_ := t1_.2.trans kes; have m1_ := t1_.1; have t2_ := fr_9 es m1_ (fun z => by cases z); have k2_ := t2_.2.1.trans k1_; have m2_ := t2_.1; exact ((t2_.2.2.2 g (by rw [k1_]; rfl)).trans (congrFun (cu_a eO_3 (fun z => hq_3 (z ▸ mes))) g)))]))⟩, fun a ha ka j => (by have t1_ := tr_3 a ha; have k1_ := t1_.2.trans ka; have m1_ := t1_.1; have t2_ := fr_9 a m1_ (fun z => by cases z); have k2_ := t2_.2.1.trans k1_; have m2_ := t2_.1; exact ((congrFun (cu_a eI_23 (c_ne k2_ k_10 (by decide))) j).trans ((fr0_13 a m1_ k1_ (fun z => hn_3 (by rw [← z]; exact ha)) j).trans (congrFun (cu_a eI_3 (fun z => hq_3 (z ▸ ha))) j)))), fun a ha ka na j => (by have t1_ := tr_3 a ha; have k1_ := t1_.2.trans ka; have m1_ := t1_.1; have t2_ := fr_9 a m1_ (fun z => by cases z); have k2_ := t2_.2.1.trans k1_; have m2_ := t2_.1; exact ((congrFun (cu_a eI_23 na) j).trans ((t2_.2.2.1 j (by rw [k1_]; rfl)).trans (congrFun (cu_a eI_3 (fun z => hq_3 (z ▸ ha))) j)))), fun a ha ka na j => (by have t1_ := tr_3 a ha; have k1_ := t1_.2.trans ka; have m1_ := t1_.1; have t2_ := fr_9 a m1_ (fun z => by cases z); have k2_ := t2_.2.1.trans k1_; have m2_ := t2_.1; exact ((congrFun (cu_a eO_14 na) j).trans ((t2_.2.2.2 j (by rw [k1_]; rfl)).trans (congrFun (cu_a eO_3 (fun z => hq_3 (z ▸ ha))) j))))⟩) dX3_add_36
