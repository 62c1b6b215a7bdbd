theorem cS_cnt3 {L : List Nat} {a : Nat} {i : Nat → Int32} {O : Nat → Nat → Option Nat} {v : Int32} {eb n0 : Nat} (h : cS L 3 a i O) (ho : O a 3 = some eb) (hnew : O eb n0 ≠ none) (hn : (n0 : Int) = (i 4).toInt) (hv : v.toInt = (i 4).toInt + 1) : cS L 3 a (upd i 4 v) O := by
  obtain ⟨s1, s2, s3, s4⟩ := h
  refine ⟨s1, fun q b hb j hj => ?_, s3, fun q => by cases q⟩
  rw [ho] at hb
  cases hb
  rw [show upd i 4 v 4 = v from by simp [upd], hv] at hj
  by_cases e : j = n0
  · rw [e]; exact hnew
  · exact s2 q eb ho j (by omega)
theorem cS_cnt5 {L : List Nat} {a : Nat} {i : Nat → Int32} {O : Nat → Nat → Option Nat} {v : Int32} {eb n0 : Nat} (h : cS L 5 a i O) (ho : O a 9 = some eb) (hnew : O eb n0 ≠ none) (hn : (n0 : Int) = (i 10).toInt) (hv : v.toInt = (i 10).toInt + 1) : cS L 5 a (upd i 10 v) O := by
  obtain ⟨s1, s2, s3, s4⟩ := h
  refine ⟨s1, fun q => (by cases q), s3, fun q b hb j hj => ?_⟩
  rw [ho] at hb
  cases hb
  rw [show upd i 10 v 10 = v from by simp [upd], hv] at hj
  by_cases e : j = n0
  · rw [e]; exact hnew
  · exact s4 q eb ho j (by omega)
theorem cS_ev {L : List Nat} {a : Nat} {i : Nat → Int32} {O : Nat → Nat → Option Nat} {w : Option Nat} (h : ∀ b : Nat, w = some b → crk L b < crk L a) : cS L 1 a i (va_up O a (va_up (O a) 4 w)) := by
  refine ⟨fun _ b hb => ?_, fun q => (by cases q), fun _ => trivial, fun q => (by cases q)⟩
  rw [va_up_self, va_up_self] at hb
  exact h b hb
theorem c_rk {L : List Nat} {q b : Nat} (hb : b ∈ L) (hq : q ∉ L) : crk (L ++ [q]) b < crk (L ++ [q]) q := by
  rw [crk_app hb, crk_new hq]; exact crk_lt hb
def w4X4_fail : List Cond := .code yX4_fail cX4_fail 2 (some .boolean) :: ([.fieldLink RX4 137 "SkiShots$Reader" "fault" "I", .fieldLink RX4 54 "SkiShots$Reader" "place" "I", .fieldLink RX4 31 "SkiShots$Reader" "faultPlace" "I"] ++ wsX40)
set_option maxHeartbeats 4000000 in
set_option maxRecDepth 100000 in
theorem h4_X4_fail (l : Launch) (D : va_G) (cA : Nat → ClassId) (ad av : Nat → Nat) (L : List Nat) (K : Nat → Nat) (I : Nat → Nat → Int32) (O : Nat → Nat → Option Nat) (sz : Nat) (x0 : Nat) (p0 : Int32) (hI : cI L K I O) (mx0 : x0 ∈ L) (kx0 : K x0 = 4)  : Met l yX4_fail w4X4_fail ({ frames := 0, cells := 0, slots := 0, locals := 0 }) (cPre D cA ad av L K I O sz [.ref x0, .int p0]) (cQi D cA L K I O sz [] [(4, 4), (4, 5)] [] (fun r L' K' I' O' => r.toInt = 0)) 0 0 (va_A (cW cA L K I O) sz) := by
  refine cr_met (own := RX4) (xs := []) (WI := [(4, 4), (4, 5)]) (WO := []) (cc := cX4_fail) (maxL := 2) (ret := (some .boolean)) (by decide) rfl rfl (Nat.le_of_ble_eq_true rfl) hI ?_
  intro p e s m args below meth c ls E hV hml hr hlk hname hsz hA hM hl
  have hx := E.1
  have hb := E.2.1
  have hts := E.2.2.1
  have hown := E.2.2.2.1
  have hl : lv_has ls 2 [(0, .ref x0), (1, .int p0)] := hl
  have hin4 : ∀ w ∈ wsX40, w ∈ w4X4_fail := by decide +kernel
  refine lv_aload_n hx hb dX4_fail_0 rfl (lv_at hl 0 rfl) ?_
  refine lv_iload_n hx hb dX4_fail_1 rfl (lv_at hl 1 rfl) ?_
  refine cr_puti (κ := 4) (ci := 4) (k := 4) (C := RX4) (T := TX4) (N := 10) (fs := cfs 4) (ty := .int) (v := p0) E hM mx0 kx0 (fun _ _ => rfl) rfl hin4 tyX4 tyX4_ok nmX4 (by decide) (index := 137) (mm_at 1 rfl) rfl (Or.inl rfl) (by decide +kernel) rfl rfl (show (4 : Nat) < 10 from by decide) (fun _ _ _ => rfl) (cz_nb rfl) (cS_upd (hM.sp mx0 kx0) (by decide) (by decide)) (Or.inr (Or.inr rfl)) dX4_fail_2 (fun H locs I_1 eI_1 hM => ?_)
  refine lv_aload_n hx hb dX4_fail_5 rfl (lv_at hl 0 rfl) ?_
  refine lv_aload_n hx hb dX4_fail_6 rfl (lv_at hl 0 rfl) ?_
  have b_2 : 0 ≤ (I_1 x0 7).toInt ∧ (I_1 x0 7).toInt ≤ 1000 := hM.ib mx0 kx0 7 rfl
  have e_3 : (I_1 x0 7).toInt = (I x0 7).toInt := congrArg Int32.toInt (cu_k eI_1 (by decide))
  refine cr_get (κ := 4) (ci := 4) (k := 7) (C := RX4) (T := TX4) (N := 10) (fs := cfs 4) (v := .int (I_1 x0 7)) E hM mx0 kx0 (fun _ _ => rfl) rfl hin4 (by decide) (index := 54) (mm_at 2 rfl) rfl rfl dX4_fail_7 ?_
  refine cr_puti (κ := 4) (ci := 4) (k := 5) (C := RX4) (T := TX4) (N := 10) (fs := cfs 4) (ty := .int) (v := (I_1 x0 7)) E hM mx0 kx0 (fun _ _ => rfl) rfl hin4 tyX4 tyX4_ok nmX4 (by decide) (index := 31) (mm_at 3 rfl) rfl (Or.inl rfl) (by decide +kernel) rfl rfl (show (5 : Nat) < 10 from by decide) (fun _ _ _ => rfl) (cz_nb rfl) (cS_upd (hM.sp mx0 kx0) (by decide) (by decide)) (Or.inr (Or.inr rfl)) dX4_fail_10 (fun H locs I_4 eI_4 hM => ?_)
  refine lv_iconst (v := 0) hx hb dX4_fail_13 (by decide) ?_
  exact cr_rz (mc := 0) (ms := 0) (X := 0) E hr hlk hsz hM ⟨show (0 : Nat) ≤ 0 from by omega, show (0 : Nat) ≤ 0 from by omega⟩ num_0 (by omega) (show (0 : Int32).toInt = 0 from by have n9 := num_0; omega) dX4_fail_14
def w4X3_entryOf : List Cond := .code yX3_entryOf cX3_entryOf 3 (some (.object "SkiShots$Entry")) :: ([.fieldLink RX3 29 "SkiShots$Race" "entryCount" "I", .fieldLink RX3 25 "SkiShots$Race" "entries" "[LSkiShots$Entry;", .fieldLink RX3 35 "SkiShots$Entry" "racer" "I"] ++ wsX00 ++ wsX30)
set_option maxHeartbeats 4000000 in
set_option maxRecDepth 100000 in
theorem h4_X3_entryOf (l : Launch) (D : va_G) (cA : Nat → ClassId) (ad av : Nat → Nat) (L : List Nat) (K : Nat → Nat) (I : Nat → Nat → Int32) (O : Nat → Nat → Option Nat) (sz : Nat) (x0 : Nat) (p0 : Int32) (hI : cI L K I O) (mx0 : x0 ∈ L) (kx0 : K x0 = 3)  : Met l yX3_entryOf w4X3_entryOf ({ frames := 0, cells := 0, slots := 0, locals := 0 }) (cPre D cA ad av L K I O sz [.ref x0, .int p0]) (cQq D cA L K I O sz [] [] [] (fun r L' K' I' O' => (L' = L ∧ K' = K ∧ I' = I ∧ O' = O) ∧ (∀ b : Nat, r = some b → b ∈ L ∧ K b = 0))) 0 0 (va_A (cW cA L K I O) sz) := by
  refine cr_met (own := RX3) (xs := []) (WI := []) (WO := []) (cc := cX3_entryOf) (maxL := 3) (ret := (some (.object "SkiShots$Entry"))) (by decide) rfl rfl (Nat.le_of_ble_eq_true rfl) hI ?_
  intro p e s m args below meth c ls E hV hml hr hlk hname hsz hA hM hl
  have hx := E.1
  have hb := E.2.1
  have hts := E.2.2.1
  have hown := E.2.2.2.1
  have hl : lv_has ls 3 [(0, .ref x0), (1, .int p0)] := hl
  have hin0 : ∀ w ∈ wsX00, w ∈ w4X3_entryOf := by decide +kernel
  have hin3 : ∀ w ∈ wsX30, w ∈ w4X3_entryOf := by decide +kernel
  have B_2 : ∀ n_2 : Nat, ∀ (H : Heap) (locs : List Loc) (ls : Array Slot) (i : Int32), (0 ≤ i.toInt ∧ i.toInt ≤ 16) → (16 - i.toInt) < (n_2 : Int) → cQ D cA (va_A (cW cA L K I O) sz) s.heap [] [] [] L K I O H locs L K I O → lv_has ls 3 [(0, .ref x0), (1, .int p0), (2, .int i)] → W p l e ({ frames := 0, cells := 0, slots := 0, locals := 0 }) s m args below meth c H locs 0 0 (MQ below (cQq D cA L K I O sz [] [] [] (fun r L' K' I' O' => (L' = L ∧ K' = K ∧ I' = I ∧ O' = O) ∧ (∀ b : Nat, r = some b → b ∈ L ∧ K b = 0))) args s 0 0 (va_A (cW cA L K I O) sz)) (F0 m 2 ls []) := by
    intro n_2
    induction n_2 with
    | zero => intro H locs ls i f2_0 hn hM hl; exact False.elim (by omega)
    | succ n_2 ih_2 =>
      intro H locs ls i f2_0 hn hM hl
      refine lv_iload_n hx hb dX3_entryOf_2 rfl (lv_at hl 2 rfl) ?_
      refine lv_aload_n hx hb dX3_entryOf_3 rfl (lv_at hl 0 rfl) ?_
      have b_1 : 0 ≤ (I x0 4).toInt ∧ (I x0 4).toInt ≤ 16 := hM.ib mx0 kx0 4 rfl
      refine cr_get (κ := 3) (ci := 3) (k := 4) (C := RX3) (T := TX3) (N := 7) (fs := cfs 3) (v := .int (I x0 4)) E hM mx0 kx0 (fun _ _ => rfl) rfl hin3 (by decide) (index := 29) (mm_at 1 rfl) rfl rfl dX3_entryOf_4 ?_
      refine mm_icmp_ge (X := i.toInt) (Y := (I x0 4).toInt) (tgt := 36) hx hb dX3_entryOf_7 (by decide) rfl rfl (fun c_2 => ?_) (fun c_2 => ?_)
      · refine lv_null hx hb dX3_entryOf_36 ?_
        exact cr_rq (mc := 0) (ms := 0) (v := none) E hr hlk hsz hM ⟨show (0 : Nat) ≤ 0 from by omega, show (0 : Nat) ≤ 0 from by omega⟩ (Or.inl ⟨_, rfl⟩) ⟨⟨rfl, rfl, rfl, rfl⟩, (fun b h => by cases h)⟩ dX3_entryOf_37
      · refine lv_aload_n hx hb dX3_entryOf_10 rfl (lv_at hl 0 rfl) ?_
        obtain ⟨x_3, o_3, m_3, k_3⟩ := hM.nn mx0 kx0 3 (κ' := 15) rfl rfl
        refine cr_get (κ := 3) (ci := 3) (k := 3) (C := RX3) (T := TX3) (N := 7) (fs := cfs 3) (v := .ref x_3) E hM mx0 kx0 (fun _ _ => rfl) rfl hin3 (by decide) (index := 25) (mm_at 2 rfl) rfl (by show some (va_rf (O x0 3)) = some (.ref x_3); rw [o_3]; rfl) dX3_entryOf_11 ?_
        refine lv_iload_n hx hb dX3_entryOf_14 rfl (lv_at hl 2 rfl) ?_
        obtain ⟨x_4, o_4⟩ := c_nn ((hM.sp mx0 kx0).2.1 rfl x_3 o_3 (Int32.toNatClampNeg i) (by rw [mm_nat]; omega))
        obtain ⟨m_4, k_4⟩ := hM.rt m_3 k_3 (Int32.toNatClampNeg i) (κ' := 0) rfl o_4
        refine cr_aalds (κ := 15) (t0 := 4) (X := i.toInt) E hM m_3 k_3 (fun _ _ => rfl) rfl rfl (by omega) o_4 dX3_entryOf_15 ?_
        have b_5 : 0 ≤ (I x_4 0).toInt ∧ (I x_4 0).toInt ≤ 15 := hM.ib m_4 k_4 0 rfl
        refine cr_get (κ := 0) (ci := 0) (k := 0) (C := RX0) (T := TX0) (N := 10) (fs := cfs 0) (v := .int (I x_4 0)) E hM m_4 k_4 (fun _ _ => rfl) rfl hin0 (by decide) (index := 35) (mm_at 3 rfl) rfl rfl dX3_entryOf_16 ?_
        refine lv_iload_n hx hb dX3_entryOf_19 rfl (lv_at hl 1 rfl) ?_
        refine mm_icmp_ne (X := (I x_4 0).toInt) (Y := p0.toInt) (tgt := 30) hx hb dX3_entryOf_20 (by decide) rfl rfl (fun c_6 => ?_) (fun c_6 => ?_)
        · refine mm_iinc (X := i.toInt) (v := 1) (lv2 := fun z => [(2, .int z), (0, .ref x0), (1, .int p0)]) hx hb dX3_entryOf_30 hl (k := 2) rfl rfl (by decide) num_1 (by omega) (by decide) (fun _ => rfl) (fun z_7 ls hz_7 hl => ?_)
          have hl : lv_has ls 3 [(2, .int z_7), (0, .ref x0), (1, .int p0)] := hl
          refine lv_goto (tgt := 2) hx hb dX3_entryOf_33 (by decide) ?_
          exact ih_2 _ _ _  z_7    (show (0 ≤ z_7.toInt ∧ z_7.toInt ≤ 16) from by omega) (show (16 - z_7.toInt) < ((n_2 : Nat) : Int) from by omega) hM (lv_sub hl [1, 2, 0] rfl)
        · refine lv_aload_n hx hb dX3_entryOf_23 rfl (lv_at hl 0 rfl) ?_
          refine cr_get (κ := 3) (ci := 3) (k := 3) (C := RX3) (T := TX3) (N := 7) (fs := cfs 3) (v := .ref x_3) E hM mx0 kx0 (fun _ _ => rfl) rfl hin3 (by decide) (index := 25) (mm_at 2 rfl) rfl (by show some (va_rf (O x0 3)) = some (.ref x_3); rw [o_3]; rfl) dX3_entryOf_24 ?_
          refine lv_iload_n hx hb dX3_entryOf_27 rfl (lv_at hl 2 rfl) ?_
          refine cr_aalds (κ := 15) (t0 := 4) (X := i.toInt) E hM m_3 k_3 (fun _ _ => rfl) rfl rfl (by omega) o_4 dX3_entryOf_28 ?_
          exact cr_rq (mc := 0) (ms := 0) (v := some x_4) E hr hlk hsz hM ⟨show (0 : Nat) ≤ 0 from by omega, show (0 : Nat) ≤ 0 from by omega⟩ (Or.inl ⟨_, rfl⟩) ⟨⟨rfl, rfl, rfl, rfl⟩, (fun b h => by cases h; exact ⟨m_4, k_4⟩)⟩ dX3_entryOf_29
  refine lv_iconst (v := 0) hx hb dX3_entryOf_0 (by decide) ?_
  refine lv_istore_n (lv' := [(2, .int 0), (0, .ref x0), (1, .int p0)]) hx hb dX3_entryOf_1 rfl hl (by decide) rfl (fun ls hl => ?_)
  exact B_2 4294967296 _ _ _  0    (show (0 ≤ (0 : Int32).toInt ∧ (0 : Int32).toInt ≤ 16) from by have n_0 := num_0; omega) (show (16 - (0 : Int32).toInt) < ((4294967296 : Nat) : Int) from by have n_0 := num_0; omega) hM (lv_sub hl [1, 2, 0] rfl)
def w4X3_chaseStart : List Cond := .code yX3_chaseStart cX3_chaseStart 4 (some .int) :: ([.fieldLink RX3 15 "SkiShots$Race" "by" "LSkiShots$Race;", .methodLink RX3 67 yX3_entryOf, .instanceMethod yX3_entryOf, .selects RX3 yX3_entryOf yX3_entryOf, .initialized RX3, .code yX3_entryOf cX3_entryOf 3 (some (.object "SkiShots$Entry")), .fieldLink RX3 29 "SkiShots$Race" "entryCount" "I", .fieldLink RX3 25 "SkiShots$Race" "entries" "[LSkiShots$Entry;", .fieldLink RX3 35 "SkiShots$Entry" "racer" "I", .methodLink RX3 49 yX0_hasTime, .instanceMethod yX0_hasTime, .selects RX0 yX0_hasTime yX0_hasTime, .initialized RX0, .code yX0_hasTime cX0_hasTime 1 (some .boolean), .fieldLink RX0 39 "SkiShots$Entry" "low" "I", .fieldLink RX3 53 "SkiShots$Entry" "low" "I", .fieldLink RX3 38 "SkiShots$Race" "leastLow" "I", .fieldLink RX3 9 "SkiShots$Race" "format" "LSkiShots$Format;", .fieldLink RX3 61 "SkiShots$Format" "startSeconds" "I", .methodLink RX3 71 Lib.Math.min.name, .static Lib.Math.min.name, .initialized "java/lang/Math", .code Lib.Math.min.name Lib.Math.min.code 2 (some .int)] ++ wsX00 ++ wsX20 ++ wsX30)
set_option maxRecDepth 20000 in
theorem gk_X3_chaseStart_X3_entryOf_2 : GoodIn w4X3_chaseStart (wsV RX3 67 RX3 yX3_entryOf w4X3_entryOf) := goodIn_p _ [6] rfl (by decide +kernel)
set_option maxRecDepth 20000 in
theorem gk_X3_chaseStart_X0_hasTime_7 : GoodIn w4X3_chaseStart (wsV RX3 49 RX0 yX0_hasTime w4X0_hasTime) := goodIn_p _ [14] rfl (by decide +kernel)
set_option maxHeartbeats 4000000 in
set_option maxRecDepth 100000 in
theorem h4_X3_chaseStart (l : Launch) (D : va_G) (cA : Nat → ClassId) (ad av : Nat → Nat) (L : List Nat) (K : Nat → Nat) (I : Nat → Nat → Int32) (O : Nat → Nat → Option Nat) (sz : Nat) (x0 : Nat) (p0 : Int32) (hI : cI L K I O) (mx0 : x0 ∈ L) (kx0 : K x0 = 3)  : Met l yX3_chaseStart w4X3_chaseStart ({ frames := 1, cells := 0, slots := 0, locals := 24 }) (cPre D cA ad av L K I O sz [.ref x0, .int p0]) (cQi D cA L K I O sz [] [] [] (fun r L' K' I' O' => (L' = L ∧ K' = K ∧ I' = I ∧ O' = O) ∧ (True))) 0 0 (va_A (cW cA L K I O) sz) := by
  refine cr_met (own := RX3) (xs := []) (WI := []) (WO := []) (cc := cX3_chaseStart) (maxL := 4) (ret := (some .int)) (by decide) rfl rfl (Nat.le_of_ble_eq_true rfl) hI ?_
  intro p e s m args below meth c ls E hV hml hr hlk hname hsz hA hM hl
  have hx := E.1
  have hb := E.2.1
  have hts := E.2.2.1
  have hown := E.2.2.2.1
  have hl : lv_has ls 4 [(0, .ref x0), (1, .int p0)] := hl
  have hin0 : ∀ w ∈ wsX00, w ∈ w4X3_chaseStart := by decide +kernel
  have hin2 : ∀ w ∈ wsX20, w ∈ w4X3_chaseStart := by decide +kernel
  have hin3 : ∀ w ∈ wsX30, w ∈ w4X3_chaseStart := by decide +kernel
  refine lv_aload_n hx hb dX3_chaseStart_0 rfl (lv_at hl 0 rfl) ?_
  rcases o_1 : O x0 1 with _ | x_1
  · refine cr_get (κ := 3) (ci := 3) (k := 1) (C := RX3) (T := TX3) (N := 7) (fs := cfs 3) (v := .null) E hM mx0 kx0 (fun _ _ => rfl) rfl hin3 (by decide) (index := 15) (mm_at 1 rfl) rfl (by show some (va_rf (O x0 1)) = some (.null); rw [o_1]; rfl) dX3_chaseStart_1 ?_
    refine lv_ifnonnullN hx hb dX3_chaseStart_4 ?_
    refine lv_null hx hb dX3_chaseStart_7 ?_
    refine lv_goto (tgt := 19) hx hb dX3_chaseStart_8 (by decide) ?_
    refine lv_astore_nN (lv' := [(2, .null), (0, .ref x0), (1, .int p0)]) hx hb dX3_chaseStart_19 rfl hl (by decide) rfl (fun ls hl => ?_)
    refine lv_aload_nN hx hb dX3_chaseStart_20 rfl (lv_at hl 0 rfl) ?_
    refine lv_ifnullN (tgt := 31) hx hb dX3_chaseStart_21 (by decide) ?_
    refine lv_iconst (v := (-1)) hx hb dX3_chaseStart_31 (by decide) ?_
    exact cr_ri (mc := 0) (ms := 0) E hr hlk hsz hM ⟨show (0 : Nat) ≤ 0 from by omega, show (0 : Nat) ≤ 0 from by omega⟩ ⟨⟨rfl, rfl, rfl, rfl⟩, trivial⟩ dX3_chaseStart_32
  · obtain ⟨m_1, k_1⟩ := hM.rt mx0 kx0 1 (κ' := 3) rfl o_1
    refine cr_get (κ := 3) (ci := 3) (k := 1) (C := RX3) (T := TX3) (N := 7) (fs := cfs 3) (v := .ref x_1) E hM mx0 kx0 (fun _ _ => rfl) rfl hin3 (by decide) (index := 15) (mm_at 1 rfl) rfl (by show some (va_rf (O x0 1)) = some (.ref x_1); rw [o_1]; rfl) dX3_chaseStart_1 ?_
    refine lv_ifnonnull (tgt := 11) hx hb dX3_chaseStart_4 (by decide) ?_
    refine lv_aload_n hx hb dX3_chaseStart_11 rfl (lv_at hl 0 rfl) ?_
    refine cr_get (κ := 3) (ci := 3) (k := 1) (C := RX3) (T := TX3) (N := 7) (fs := cfs 3) (v := .ref x_1) E hM mx0 kx0 (fun _ _ => rfl) rfl hin3 (by decide) (index := 15) (mm_at 1 rfl) rfl (by show some (va_rf (O x0 1)) = some (.ref x_1); rw [o_1]; rfl) dX3_chaseStart_12 ?_
    refine lv_iload_n hx hb dX3_chaseStart_15 rfl (lv_at hl 1 rfl) ?_
    refine cc_Vqp (vs := [.int p0]) (rest := []) (b := x_1) (κ := 3) E hV rfl hA hml hM m_1 k_1 rfl rfl (h4_X3_entryOf l D cA ad av L K I O _ x_1 p0 hM.2.2.2.1 m_1 k_1) (cwV 1 hts gk_X3_chaseStart_X3_entryOf_2 rfl rfl rfl (by decide +kernel) ⟨Nat.le_of_ble_eq_true rfl, Nat.le_of_ble_eq_true rfl⟩) rfl hl.1 rfl (Nat.le_of_ble_eq_true rfl) dX3_chaseStart_16 ⟨show (0 : Nat) ≤ 0 from by omega, show (0 : Nat) ≤ 0 from by omega⟩ (fun r_3 H locs p_4 hM => ?_)
    rcases r_3 with _ | x_6
    · show W _ _ _ _ _ _ _ _ _ _ _ _ _ _ _ (F0 m 19 ls [.null])
      refine lv_astore_nN (lv' := [(2, .null), (0, .ref x0), (1, .int p0)]) hx hb dX3_chaseStart_19 rfl hl (by decide) rfl (fun ls hl => ?_)
      refine lv_aload_nN hx hb dX3_chaseStart_20 rfl (lv_at hl 0 rfl) ?_
      refine lv_ifnullN (tgt := 31) hx hb dX3_chaseStart_21 (by decide) ?_
      refine lv_iconst (v := (-1)) hx hb dX3_chaseStart_31 (by decide) ?_
      exact cr_ri (mc := 0) (ms := 0) E hr hlk hsz hM ⟨show (0 : Nat) ≤ 0 from by omega, show (0 : Nat) ≤ 0 from by omega⟩ ⟨⟨rfl, rfl, rfl, rfl⟩, trivial⟩ dX3_chaseStart_32
    · obtain ⟨m_6, k_6⟩ := p_4 x_6 rfl
      show W _ _ _ _ _ _ _ _ _ _ _ _ _ _ _ (F0 m 19 ls [.ref x_6])
      refine lv_astore_n (lv' := [(2, .ref x_6), (0, .ref x0), (1, .int p0)]) hx hb dX3_chaseStart_19 rfl hl (by decide) rfl (fun ls hl => ?_)
      refine lv_aload_n hx hb dX3_chaseStart_20 rfl (lv_at hl 0 rfl) ?_
      refine lv_ifnull hx hb dX3_chaseStart_21 ?_
      refine lv_aload_n hx hb dX3_chaseStart_24 rfl (lv_at hl 0 rfl) ?_
      refine cc_Vip (vs := []) (rest := []) (b := x_6) (κ := 0) E hV rfl hA hml hM m_6 k_6 rfl rfl (h4_X0_hasTime l D cA ad av L K I O _ x_6 hM.2.2.2.1 m_6 k_6) (cwV 0 hts gk_X3_chaseStart_X0_hasTime_7 rfl rfl rfl (by decide +kernel) ⟨Nat.le_of_ble_eq_true rfl, Nat.le_of_ble_eq_true rfl⟩) rfl hl.1 rfl (Nat.le_of_ble_eq_true rfl) dX3_chaseStart_25 ⟨show (0 : Nat) ≤ 0 from by omega, show (0 : Nat) ≤ 0 from by omega⟩ (fun r_8 H locs p_9 hM => ?_)
      refine mm_if_ne (X := r_8.toInt) (tgt := 33) hx hb dX3_chaseStart_28 (by decide) rfl (fun c_11 => ?_) (fun c_11 => ?_)
      · refine lv_aload_n hx hb dX3_chaseStart_33 rfl (lv_at hl 0 rfl) ?_
        refine cr_get (κ := 0) (ci := 0) (k := 3) (C := RX0) (T := TX0) (N := 10) (fs := cfs 0) (v := .int (I x_6 3)) E hM m_6 k_6 (fun _ _ => rfl) rfl hin0 (by decide) (index := 53) (mm_at 16 rfl) rfl rfl dX3_chaseStart_34 ?_
        refine lv_aload_n hx hb dX3_chaseStart_37 rfl (lv_at hl 1 rfl) ?_
        refine cr_get (κ := 3) (ci := 3) (k := 1) (C := RX3) (T := TX3) (N := 7) (fs := cfs 3) (v := .ref x_1) E hM mx0 kx0 (fun _ _ => rfl) rfl hin3 (by decide) (index := 15) (mm_at 1 rfl) rfl (by show some (va_rf (O x0 1)) = some (.ref x_1); rw [o_1]; rfl) dX3_chaseStart_38 ?_
        refine cr_get (κ := 3) (ci := 3) (k := 6) (C := RX3) (T := TX3) (N := 7) (fs := cfs 3) (v := .int (I x_1 6)) E hM m_1 k_1 (fun _ _ => rfl) rfl hin3 (by decide) (index := 38) (mm_at 17 rfl) rfl rfl dX3_chaseStart_41 ?_
        refine mm_isubU hx hb dX3_chaseStart_44 (fun z_12 => ?_)
        refine lv_bipush (v := 10) hx hb dX3_chaseStart_45 (by decide) ?_
        refine mm_idivU (Y := 10) hx hb dX3_chaseStart_47 num_10 (by omega) (fun z_13 => ?_)
        refine lv_istore_n (lv' := [(3, .int z_13), (2, .ref x_6), (0, .ref x0), (1, .int p0)]) hx hb dX3_chaseStart_48 rfl hl (by decide) rfl (fun ls hl => ?_)
        refine lv_iload_n hx hb dX3_chaseStart_49 rfl (lv_at hl 0 rfl) ?_
        refine lv_aload_n hx hb dX3_chaseStart_50 rfl (lv_at hl 2 rfl) ?_
        obtain ⟨x_14, o_14, m_14, k_14⟩ := hM.nn mx0 kx0 0 (κ' := 2) rfl rfl
        refine cr_get (κ := 3) (ci := 3) (k := 0) (C := RX3) (T := TX3) (N := 7) (fs := cfs 3) (v := .ref x_14) E hM mx0 kx0 (fun _ _ => rfl) rfl hin3 (by decide) (index := 9) (mm_at 18 rfl) rfl (by show some (va_rf (O x0 0)) = some (.ref x_14); rw [o_14]; rfl) dX3_chaseStart_51 ?_
        refine cr_get (κ := 2) (ci := 2) (k := 7) (C := RX2) (T := TX2) (N := 8) (fs := cfs 2) (v := .int (I x_14 7)) E hM m_14 k_14 (fun _ _ => rfl) rfl hin2 (by decide) (index := 61) (mm_at 19 rfl) rfl rfl dX3_chaseStart_54 ?_
        refine mm_min (X := z_13.toInt) (Y := (I x_14 7).toInt) hx hb (hml.trans hl.1.symm) hown (hts _ (mm_at 20 rfl)) (hts _ (mm_at 21 rfl)) (hts _ (mm_at 22 rfl)) (hts _ (mm_at 23 rfl)) (Nat.le_of_ble_eq_true rfl) (Nat.le_of_ble_eq_true rfl) (Nat.le_of_ble_eq_true rfl) (Nat.le_of_ble_eq_true rfl) rfl rfl dX3_chaseStart_57 (fun z_15 hz_15 => ?_)
        refine lv_bipush (v := 10) hx hb dX3_chaseStart_60 (by decide) ?_
        refine mm_imulU hx hb dX3_chaseStart_62 (fun z_16 => ?_)
        exact cr_ri (mc := 0) (ms := 0) E hr hlk hsz hM ⟨show (0 : Nat) ≤ 0 from by omega, show (0 : Nat) ≤ 0 from by omega⟩ ⟨⟨rfl, rfl, rfl, rfl⟩, trivial⟩ dX3_chaseStart_63
      · refine lv_iconst (v := (-1)) hx hb dX3_chaseStart_31 (by decide) ?_
        exact cr_ri (mc := 0) (ms := 0) E hr hlk hsz hM ⟨show (0 : Nat) ≤ 0 from by omega, show (0 : Nat) ≤ 0 from by omega⟩ ⟨⟨rfl, rfl, rfl, rfl⟩, trivial⟩ dX3_chaseStart_32
def w4X3_startOf : List Cond := .code yX3_startOf cX3_startOf 2 (some .int) :: ([.fieldLink RX3 9 "SkiShots$Race" "format" "LSkiShots$Format;", .fieldLink RX3 56 "SkiShots$Format" "startSort" "I", .fieldLink RX3 61 "SkiShots$Format" "startSeconds" "I", .fieldLink RX3 25 "SkiShots$Race" "entries" "[LSkiShots$Entry;", .fieldLink RX3 35 "SkiShots$Entry" "racer" "I", .methodLink RX3 64 yX3_chaseStart, .instanceMethod yX3_chaseStart, .selects RX3 yX3_chaseStart yX3_chaseStart, .initialized RX3, .code yX3_chaseStart cX3_chaseStart 4 (some .int), .fieldLink RX3 15 "SkiShots$Race" "by" "LSkiShots$Race;", .methodLink RX3 67 yX3_entryOf, .instanceMethod yX3_entryOf, .selects RX3 yX3_entryOf yX3_entryOf, .code yX3_entryOf cX3_entryOf 3 (some (.object "SkiShots$Entry")), .fieldLink RX3 29 "SkiShots$Race" "entryCount" "I", .methodLink RX3 49 yX0_hasTime, .instanceMethod yX0_hasTime, .selects RX0 yX0_hasTime yX0_hasTime, .initialized RX0, .code yX0_hasTime cX0_hasTime 1 (some .boolean), .fieldLink RX0 39 "SkiShots$Entry" "low" "I", .fieldLink RX3 53 "SkiShots$Entry" "low" "I", .fieldLink RX3 38 "SkiShots$Race" "leastLow" "I", .methodLink RX3 71 Lib.Math.min.name, .static Lib.Math.min.name, .initialized "java/lang/Math", .code Lib.Math.min.name Lib.Math.min.code 2 (some .int)] ++ wsX00 ++ wsX20 ++ wsX30)
set_option maxRecDepth 20000 in
theorem gk_X3_startOf_X3_chaseStart_10 : GoodIn w4X3_startOf (wsV RX3 64 RX3 yX3_chaseStart w4X3_chaseStart) := goodIn_p _ [10, 15, 21, 28] rfl (by decide +kernel)
set_option maxHeartbeats 4000000 in
set_option maxRecDepth 100000 in
theorem h4_X3_startOf (l : Launch) (D : va_G) (cA : Nat → ClassId) (ad av : Nat → Nat) (L : List Nat) (K : Nat → Nat) (I : Nat → Nat → Int32) (O : Nat → Nat → Option Nat) (sz : Nat) (x0 : Nat) (p0 : Int32) (hI : cI L K I O) (mx0 : x0 ∈ L) (kx0 : K x0 = 3) (k0 : 0 ≤ p0.toInt ∧ p0.toInt < (I x0 4).toInt) : Met l yX3_startOf w4X3_startOf ({ frames := 2, cells := 0, slots := 0, locals := 47 }) (cPre D cA ad av L K I O sz [.ref x0, .int p0]) (cQi D cA L K I O sz [] [] [] (fun r L' K' I' O' => (L' = L ∧ K' = K ∧ I' = I ∧ O' = O) ∧ (True))) 0 0 (va_A (cW cA L K I O) sz) := by
  refine cr_met (own := RX3) (xs := []) (WI := []) (WO := []) (cc := cX3_startOf) (maxL := 2) (ret := (some .int)) (by decide) rfl rfl (Nat.le_of_ble_eq_true rfl) hI ?_
  intro p e s m args below meth c ls E hV hml hr hlk hname hsz hA hM hl
  have hx := E.1
  have hb := E.2.1
  have hts := E.2.2.1
  have hown := E.2.2.2.1
  have hl : lv_has ls 2 [(0, .ref x0), (1, .int p0)] := hl
  have hin0 : ∀ w ∈ wsX00, w ∈ w4X3_startOf := by decide +kernel
  have hin2 : ∀ w ∈ wsX20, w ∈ w4X3_startOf := by decide +kernel
  have hin3 : ∀ w ∈ wsX30, w ∈ w4X3_startOf := by decide +kernel
  refine lv_aload_n hx hb dX3_startOf_0 rfl (lv_at hl 0 rfl) ?_
  obtain ⟨x_1, o_1, m_1, k_1⟩ := hM.nn mx0 kx0 0 (κ' := 2) rfl rfl
  refine cr_get (κ := 3) (ci := 3) (k := 0) (C := RX3) (T := TX3) (N := 7) (fs := cfs 3) (v := .ref x_1) E hM mx0 kx0 (fun _ _ => rfl) rfl hin3 (by decide) (index := 9) (mm_at 1 rfl) rfl (by show some (va_rf (O x0 0)) = some (.ref x_1); rw [o_1]; rfl) dX3_startOf_1 ?_
  refine cr_get (κ := 2) (ci := 2) (k := 6) (C := RX2) (T := TX2) (N := 8) (fs := cfs 2) (v := .int (I x_1 6)) E hM m_1 k_1 (fun _ _ => rfl) rfl hin2 (by decide) (index := 56) (mm_at 2 rfl) rfl rfl dX3_startOf_4 ?_
  by_cases s_2 : (I x_1 6).toInt = 0
  · refine lv_lookup (tgt := 32) hx hb dX3_startOf_7 (by decide) (off := 25) (by rw [s_2]; rfl) (by decide) ?_
    refine lv_iconst (v := 0) hx hb dX3_startOf_32 (by decide) ?_
    exact cr_ri (mc := 0) (ms := 0) E hr hlk hsz hM ⟨show (0 : Nat) ≤ 0 from by omega, show (0 : Nat) ≤ 0 from by omega⟩ ⟨⟨rfl, rfl, rfl, rfl⟩, trivial⟩ dX3_startOf_33
  by_cases s_3 : (I x_1 6).toInt = 1
  · refine lv_lookup (tgt := 34) hx hb dX3_startOf_7 (by decide) (off := 27) (by rw [s_3]; rfl) (by decide) ?_
    refine lv_aload_n hx hb dX3_startOf_34 rfl (lv_at hl 0 rfl) ?_
    refine cr_get (κ := 3) (ci := 3) (k := 0) (C := RX3) (T := TX3) (N := 7) (fs := cfs 3) (v := .ref x_1) E hM mx0 kx0 (fun _ _ => rfl) rfl hin3 (by decide) (index := 9) (mm_at 1 rfl) rfl (by show some (va_rf (O x0 0)) = some (.ref x_1); rw [o_1]; rfl) dX3_startOf_35 ?_
    refine cr_get (κ := 2) (ci := 2) (k := 7) (C := RX2) (T := TX2) (N := 8) (fs := cfs 2) (v := .int (I x_1 7)) E hM m_1 k_1 (fun _ _ => rfl) rfl hin2 (by decide) (index := 61) (mm_at 3 rfl) rfl rfl dX3_startOf_38 ?_
    refine lv_bipush (v := 10) hx hb dX3_startOf_41 (by decide) ?_
    refine mm_imulU hx hb dX3_startOf_43 (fun z_4 => ?_)
    refine lv_iload_n hx hb dX3_startOf_44 rfl (lv_at hl 1 rfl) ?_
    refine mm_imulU hx hb dX3_startOf_45 (fun z_5 => ?_)
    exact cr_ri (mc := 0) (ms := 0) E hr hlk hsz hM ⟨show (0 : Nat) ≤ 0 from by omega, show (0 : Nat) ≤ 0 from by omega⟩ ⟨⟨rfl, rfl, rfl, rfl⟩, trivial⟩ dX3_startOf_46
  · refine lv_lookup (tgt := 47) hx hb dX3_startOf_7 (by decide) (off := 40) (by simp only [Op.lookupswitch.offset]; (repeat rw [if_neg (by omega)])) (by decide) ?_
    refine lv_aload_n hx hb dX3_startOf_47 rfl (lv_at hl 0 rfl) ?_
    refine lv_aload_n hx hb dX3_startOf_48 rfl (lv_at hl 0 rfl) ?_
    obtain ⟨x_6, o_6, m_6, k_6⟩ := hM.nn mx0 kx0 3 (κ' := 15) rfl rfl
    refine cr_get (κ := 3) (ci := 3) (k := 3) (C := RX3) (T := TX3) (N := 7) (fs := cfs 3) (v := .ref x_6) E hM mx0 kx0 (fun _ _ => rfl) rfl hin3 (by decide) (index := 25) (mm_at 4 rfl) rfl (by show some (va_rf (O x0 3)) = some (.ref x_6); rw [o_6]; rfl) dX3_startOf_49 ?_
    refine lv_iload_n hx hb dX3_startOf_52 rfl (lv_at hl 1 rfl) ?_
    have b_8 : 0 ≤ (I x0 4).toInt ∧ (I x0 4).toInt ≤ 16 := hM.ib mx0 kx0 4 rfl
    obtain ⟨x_7, o_7⟩ := c_nn ((hM.sp mx0 kx0).2.1 rfl x_6 o_6 (Int32.toNatClampNeg p0) (by rw [mm_nat]; omega))
    obtain ⟨m_7, k_7⟩ := hM.rt m_6 k_6 (Int32.toNatClampNeg p0) (κ' := 0) rfl o_7
    refine cr_aalds (κ := 15) (t0 := 4) (X := p0.toInt) E hM m_6 k_6 (fun _ _ => rfl) rfl rfl (by omega) o_7 dX3_startOf_53 ?_
    have b_9 : 0 ≤ (I x_7 0).toInt ∧ (I x_7 0).toInt ≤ 15 := hM.ib m_7 k_7 0 rfl
    refine cr_get (κ := 0) (ci := 0) (k := 0) (C := RX0) (T := TX0) (N := 10) (fs := cfs 0) (v := .int (I x_7 0)) E hM m_7 k_7 (fun _ _ => rfl) rfl hin0 (by decide) (index := 35) (mm_at 5 rfl) rfl rfl dX3_startOf_54 ?_
    refine cc_Vip (vs := [.int (I x_7 0)]) (rest := []) (b := x0) (κ := 3) E hV rfl hA hml hM mx0 kx0 rfl rfl (h4_X3_chaseStart l D cA ad av L K I O _ x0 (I x_7 0) hM.2.2.2.1 mx0 kx0) (cwV 1 hts gk_X3_startOf_X3_chaseStart_10 rfl rfl rfl (by decide +kernel) ⟨Nat.le_of_ble_eq_true rfl, Nat.le_of_ble_eq_true rfl⟩) rfl hl.1 rfl (Nat.le_of_ble_eq_true rfl) dX3_startOf_57 ⟨show (0 : Nat) ≤ 0 from by omega, show (0 : Nat) ≤ 0 from by omega⟩ (fun r_11 H locs p_12 hM => ?_)
    exact cr_ri (mc := 0) (ms := 0) E hr hlk hsz hM ⟨show (0 : Nat) ≤ 0 from by omega, show (0 : Nat) ≤ 0 from by omega⟩ ⟨⟨rfl, rfl, rfl, rfl⟩, trivial⟩ dX3_startOf_60
def w4X3_firstPlace : List Cond := .code yX3_firstPlace cX3_firstPlace 5 (some .int) :: ([.fieldLink RX3 29 "SkiShots$Race" "entryCount" "I", .fieldLink RX3 25 "SkiShots$Race" "entries" "[LSkiShots$Entry;", .methodLink RX3 49 yX0_hasTime, .instanceMethod yX0_hasTime, .selects RX0 yX0_hasTime yX0_hasTime, .initialized RX0, .code yX0_hasTime cX0_hasTime 1 (some .boolean), .fieldLink RX0 39 "SkiShots$Entry" "low" "I", .fieldLink RX3 77 "SkiShots$Entry" "high" "I", .fieldLink RX3 53 "SkiShots$Entry" "low" "I"] ++ wsX00 ++ wsX30)
set_option maxRecDepth 20000 in
theorem gk_X3_firstPlace_X0_hasTime_7 : GoodIn w4X3_firstPlace (wsV RX3 49 RX0 yX0_hasTime w4X0_hasTime) := goodIn_p _ [7] rfl (by decide +kernel)
set_option maxRecDepth 20000 in
theorem gk_X3_firstPlace_X0_hasTime_17 : GoodIn w4X3_firstPlace (wsV RX3 49 RX0 yX0_hasTime w4X0_hasTime) := goodIn_p _ [7] rfl (by decide +kernel)
set_option maxHeartbeats 4000000 in
set_option maxRecDepth 100000 in
theorem h4_X3_firstPlace (l : Launch) (D : va_G) (cA : Nat → ClassId) (ad av : Nat → Nat) (L : List Nat) (K : Nat → Nat) (I : Nat → Nat → Int32) (O : Nat → Nat → Option Nat) (sz : Nat) (x0 : Nat) (p0 : Nat) (hI : cI L K I O) (mx0 : x0 ∈ L) (kx0 : K x0 = 3) (mp0 : p0 ∈ L) (kp0 : K p0 = 0)  : Met l yX3_firstPlace w4X3_firstPlace ({ frames := 1, cells := 0, slots := 0, locals := 20 }) (cPre D cA ad av L K I O sz [.ref x0, .ref p0]) (cQi D cA L K I O sz [] [] [] (fun r L' K' I' O' => (L' = L ∧ K' = K ∧ I' = I ∧ O' = O) ∧ (True))) 0 0 (va_A (cW cA L K I O) sz) := by
  refine cr_met (own := RX3) (xs := []) (WI := []) (WO := []) (cc := cX3_firstPlace) (maxL := 5) (ret := (some .int)) (by decide) rfl rfl (Nat.le_of_ble_eq_true rfl) hI ?_
  intro p e s m args below meth c ls E hV hml hr hlk hname hsz hA hM hl
  have hx := E.1
  have hb := E.2.1
  have hts := E.2.2.1
  have hown := E.2.2.2.1
  have hl : lv_has ls 5 [(0, .ref x0), (1, .ref p0)] := hl
  have hin0 : ∀ w ∈ wsX00, w ∈ w4X3_firstPlace := by decide +kernel
  have hin3 : ∀ w ∈ wsX30, w ∈ w4X3_firstPlace := by decide +kernel
  have B_13 : ∀ n_13 : Nat, ∀ (H : Heap) (locs : List Loc) (ls : Array Slot) (n i : Int32), (0 ≤ i.toInt ∧ i.toInt ≤ 16) → (1 ≤ n.toInt ∧ n.toInt ≤ 17) → n.toInt ≤ i.toInt + 1 → (16 - i.toInt) < (n_13 : Int) → cQ D cA (va_A (cW cA L K I O) sz) s.heap [] [] [] L K I O H locs L K I O → lv_has ls 5 [(0, .ref x0), (1, .ref p0), (2, .int n), (3, .int i)] → W p l e ({ frames := 1, cells := 0, slots := 0, locals := 20 }) s m args below meth c H locs 0 0 (MQ below (cQi D cA L K I O sz [] [] [] (fun r L' K' I' O' => (L' = L ∧ K' = K ∧ I' = I ∧ O' = O) ∧ (True))) args s 0 0 (va_A (cW cA L K I O) sz)) (F0 m 13 ls []) := by
    intro n_13
    induction n_13 with
    | zero => intro H locs ls n i f13_0 f13_1 f13_2 hn hM hl; exact False.elim (by omega)
    | succ n_13 ih_13 =>
      intro H locs ls n i f13_0 f13_1 f13_2 hn hM hl
      refine lv_iload_n hx hb dX3_firstPlace_13 rfl (lv_at hl 3 rfl) ?_
      refine lv_aload_n hx hb dX3_firstPlace_14 rfl (lv_at hl 0 rfl) ?_
      have b_1 : 0 ≤ (I x0 4).toInt ∧ (I x0 4).toInt ≤ 16 := hM.ib mx0 kx0 4 rfl
      refine cr_get (κ := 3) (ci := 3) (k := 4) (C := RX3) (T := TX3) (N := 7) (fs := cfs 3) (v := .int (I x0 4)) E hM mx0 kx0 (fun _ _ => rfl) rfl hin3 (by decide) (index := 29) (mm_at 1 rfl) rfl rfl dX3_firstPlace_15 ?_
      refine mm_icmp_ge (X := i.toInt) (Y := (I x0 4).toInt) (tgt := 64) hx hb dX3_firstPlace_18 (by decide) rfl rfl (fun c_2 => ?_) (fun c_2 => ?_)
      · refine lv_iload_n hx hb dX3_firstPlace_64 rfl (lv_at hl 2 rfl) ?_
        exact cr_ri (mc := 0) (ms := 0) E hr hlk hsz hM ⟨show (0 : Nat) ≤ 0 from by omega, show (0 : Nat) ≤ 0 from by omega⟩ ⟨⟨rfl, rfl, rfl, rfl⟩, trivial⟩ dX3_firstPlace_65
      · refine lv_aload_n hx hb dX3_firstPlace_21 rfl (lv_at hl 0 rfl) ?_
        obtain ⟨x_3, o_3, m_3, k_3⟩ := hM.nn mx0 kx0 3 (κ' := 15) rfl rfl
        refine cr_get (κ := 3) (ci := 3) (k := 3) (C := RX3) (T := TX3) (N := 7) (fs := cfs 3) (v := .ref x_3) E hM mx0 kx0 (fun _ _ => rfl) rfl hin3 (by decide) (index := 25) (mm_at 2 rfl) rfl (by show some (va_rf (O x0 3)) = some (.ref x_3); rw [o_3]; rfl) dX3_firstPlace_22 ?_
        refine lv_iload_n hx hb dX3_firstPlace_25 rfl (lv_at hl 3 rfl) ?_
        obtain ⟨x_4, o_4⟩ := c_nn ((hM.sp mx0 kx0).2.1 rfl x_3 o_3 (Int32.toNatClampNeg i) (by rw [mm_nat]; omega))
        obtain ⟨m_4, k_4⟩ := hM.rt m_3 k_3 (Int32.toNatClampNeg i) (κ' := 0) rfl o_4
        refine cr_aalds (κ := 15) (t0 := 4) (X := i.toInt) E hM m_3 k_3 (fun _ _ => rfl) rfl rfl (by omega) o_4 dX3_firstPlace_26 ?_
        refine lv_astore (lv' := [(4, .ref x_4), (0, .ref x0), (1, .ref p0), (2, .int n), (3, .int i)]) hx hb dX3_firstPlace_27 hl (by decide) rfl (fun ls hl => ?_)
        refine lv_aload hx hb dX3_firstPlace_29 (lv_at hl 0 rfl) ?_
        refine lv_aload_n hx hb dX3_firstPlace_31 rfl (lv_at hl 2 rfl) ?_
        refine lv_acmp_eq (rx := some x_4) (ry := some p0) (tgt := 58) hx hb dX3_firstPlace_32 (by decide) (fun c_5 => ?_) (fun c_5 => ?_)
        · refine mm_iinc (X := i.toInt) (v := 1) (lv2 := fun z => [(3, .int z), (4, .ref x_4), (0, .ref x0), (1, .ref p0), (2, .int n)]) hx hb dX3_firstPlace_58 hl (k := 4) rfl rfl (by decide) num_1 (by omega) (by decide) (fun _ => rfl) (fun z_6 ls hz_6 hl => ?_)
          have hl : lv_has ls 5 [(3, .int z_6), (4, .ref x_4), (0, .ref x0), (1, .ref p0), (2, .int n)] := hl
          refine lv_goto (tgt := 13) hx hb dX3_firstPlace_61 (by decide) ?_
          exact ih_13 _ _ _  n z_6    (show (0 ≤ z_6.toInt ∧ z_6.toInt ≤ 16) from by omega) (show (1 ≤ n.toInt ∧ n.toInt ≤ 17) from by omega) (show n.toInt ≤ z_6.toInt + 1 from by omega) (show (16 - z_6.toInt) < ((n_13 : Nat) : Int) from by omega) hM (lv_sub hl [2, 3, 4, 0] rfl)
        · refine lv_aload hx hb dX3_firstPlace_35 (lv_at hl 0 rfl) ?_
          refine cc_Vip (vs := []) (rest := []) (b := x_4) (κ := 0) E hV rfl hA hml hM m_4 k_4 rfl rfl (h4_X0_hasTime l D cA ad av L K I O _ x_4 hM.2.2.2.1 m_4 k_4) (cwV 0 hts gk_X3_firstPlace_X0_hasTime_7 rfl rfl rfl (by decide +kernel) ⟨Nat.le_of_ble_eq_true rfl, Nat.le_of_ble_eq_true rfl⟩) rfl hl.1 rfl (Nat.le_of_ble_eq_true rfl) dX3_firstPlace_37 ⟨show (0 : Nat) ≤ 0 from by omega, show (0 : Nat) ≤ 0 from by omega⟩ (fun r_8 H locs p_9 hM => ?_)
          refine mm_if_eq (X := r_8.toInt) (tgt := 58) hx hb dX3_firstPlace_40 (by decide) rfl (fun c_11 => ?_) (fun c_11 => ?_)
          · refine mm_iinc (X := i.toInt) (v := 1) (lv2 := fun z => [(3, .int z), (4, .ref x_4), (0, .ref x0), (1, .ref p0), (2, .int n)]) hx hb dX3_firstPlace_58 hl (k := 4) rfl rfl (by decide) num_1 (by omega) (by decide) (fun _ => rfl) (fun z_12 ls hz_12 hl => ?_)
            have hl : lv_has ls 5 [(3, .int z_12), (4, .ref x_4), (0, .ref x0), (1, .ref p0), (2, .int n)] := hl
            refine lv_goto (tgt := 13) hx hb dX3_firstPlace_61 (by decide) ?_
            exact ih_13 _ _ _  n z_12    (show (0 ≤ z_12.toInt ∧ z_12.toInt ≤ 16) from by omega) (show (1 ≤ n.toInt ∧ n.toInt ≤ 17) from by omega) (show n.toInt ≤ z_12.toInt + 1 from by omega) (show (16 - z_12.toInt) < ((n_13 : Nat) : Int) from by omega) hM (lv_sub hl [2, 3, 4, 0] rfl)
          · refine lv_aload hx hb dX3_firstPlace_43 (lv_at hl 0 rfl) ?_
            refine cr_get (κ := 0) (ci := 0) (k := 4) (C := RX0) (T := TX0) (N := 10) (fs := cfs 0) (v := .int (I x_4 4)) E hM m_4 k_4 (fun _ _ => rfl) rfl hin0 (by decide) (index := 77) (mm_at 9 rfl) rfl rfl dX3_firstPlace_45 ?_
            refine lv_aload_n hx hb dX3_firstPlace_48 rfl (lv_at hl 2 rfl) ?_
            refine cr_get (κ := 0) (ci := 0) (k := 3) (C := RX0) (T := TX0) (N := 10) (fs := cfs 0) (v := .int (I p0 3)) E hM mp0 kp0 (fun _ _ => rfl) rfl hin0 (by decide) (index := 53) (mm_at 10 rfl) rfl rfl dX3_firstPlace_49 ?_
            refine mm_icmp_ge (X := (I x_4 4).toInt) (Y := (I p0 3).toInt) (tgt := 58) hx hb dX3_firstPlace_52 (by decide) rfl rfl (fun c_13 => ?_) (fun c_13 => ?_)
            · refine mm_iinc (X := i.toInt) (v := 1) (lv2 := fun z => [(3, .int z), (4, .ref x_4), (0, .ref x0), (1, .ref p0), (2, .int n)]) hx hb dX3_firstPlace_58 hl (k := 4) rfl rfl (by decide) num_1 (by omega) (by decide) (fun _ => rfl) (fun z_14 ls hz_14 hl => ?_)
              have hl : lv_has ls 5 [(3, .int z_14), (4, .ref x_4), (0, .ref x0), (1, .ref p0), (2, .int n)] := hl
              refine lv_goto (tgt := 13) hx hb dX3_firstPlace_61 (by decide) ?_
              exact ih_13 _ _ _  n z_14    (show (0 ≤ z_14.toInt ∧ z_14.toInt ≤ 16) from by omega) (show (1 ≤ n.toInt ∧ n.toInt ≤ 17) from by omega) (show n.toInt ≤ z_14.toInt + 1 from by omega) (show (16 - z_14.toInt) < ((n_13 : Nat) : Int) from by omega) hM (lv_sub hl [2, 3, 4, 0] rfl)
            · refine mm_iinc (X := n.toInt) (v := 1) (lv2 := fun z => [(2, .int z), (4, .ref x_4), (0, .ref x0), (1, .ref p0), (3, .int i)]) hx hb dX3_firstPlace_55 hl (k := 3) rfl rfl (by decide) num_1 (by omega) (by decide) (fun _ => rfl) (fun z_15 ls hz_15 hl => ?_)
              have hl : lv_has ls 5 [(2, .int z_15), (4, .ref x_4), (0, .ref x0), (1, .ref p0), (3, .int i)] := hl
              refine mm_iinc (X := i.toInt) (v := 1) (lv2 := fun z => [(3, .int z), (2, .int z_15), (4, .ref x_4), (0, .ref x0), (1, .ref p0)]) hx hb dX3_firstPlace_58 hl (k := 4) rfl rfl (by decide) num_1 (by omega) (by decide) (fun _ => rfl) (fun z_16 ls hz_16 hl => ?_)
              have hl : lv_has ls 5 [(3, .int z_16), (2, .int z_15), (4, .ref x_4), (0, .ref x0), (1, .ref p0)] := hl
              refine lv_goto (tgt := 13) hx hb dX3_firstPlace_61 (by decide) ?_
              exact ih_13 _ _ _  z_15 z_16    (show (0 ≤ z_16.toInt ∧ z_16.toInt ≤ 16) from by omega) (show (1 ≤ z_15.toInt ∧ z_15.toInt ≤ 17) from by omega) (show z_15.toInt ≤ z_16.toInt + 1 from by omega) (show (16 - z_16.toInt) < ((n_13 : Nat) : Int) from by omega) hM (lv_sub hl [3, 4, 1, 0] rfl)
  refine lv_aload_n hx hb dX3_firstPlace_0 rfl (lv_at hl 1 rfl) ?_
  refine cc_Vip (vs := []) (rest := []) (b := p0) (κ := 0) E hV rfl hA hml hM mp0 kp0 rfl rfl (h4_X0_hasTime l D cA ad av L K I O _ p0 hM.2.2.2.1 mp0 kp0) (cwV 0 hts gk_X3_firstPlace_X0_hasTime_17 rfl rfl rfl (by decide +kernel) ⟨Nat.le_of_ble_eq_true rfl, Nat.le_of_ble_eq_true rfl⟩) rfl hl.1 rfl (Nat.le_of_ble_eq_true rfl) dX3_firstPlace_1 ⟨show (0 : Nat) ≤ 0 from by omega, show (0 : Nat) ≤ 0 from by omega⟩ (fun r_18 H locs p_19 hM => ?_)
  refine mm_if_ne (X := r_18.toInt) (tgt := 9) hx hb dX3_firstPlace_4 (by decide) rfl (fun c_21 => ?_) (fun c_21 => ?_)
  · refine lv_iconst (v := 1) hx hb dX3_firstPlace_9 (by decide) ?_
    refine lv_istore_n (lv' := [(2, .int 1), (0, .ref x0), (1, .ref p0)]) hx hb dX3_firstPlace_10 rfl hl (by decide) rfl (fun ls hl => ?_)
    refine lv_iconst (v := 0) hx hb dX3_firstPlace_11 (by decide) ?_
    refine lv_istore_n (lv' := [(3, .int 0), (2, .int 1), (0, .ref x0), (1, .ref p0)]) hx hb dX3_firstPlace_12 rfl hl (by decide) rfl (fun ls hl => ?_)
    exact B_13 4294967296 _ _ _  1 0    (show (0 ≤ (0 : Int32).toInt ∧ (0 : Int32).toInt ≤ 16) from by have n_0 := num_1; have n_1 := num_0; omega) (show (1 ≤ (1 : Int32).toInt ∧ (1 : Int32).toInt ≤ 17) from by have n_0 := num_1; have n_1 := num_0; omega) (show (1 : Int32).toInt ≤ (0 : Int32).toInt + 1 from by have n_0 := num_1; have n_1 := num_0; omega) (show (16 - (0 : Int32).toInt) < ((4294967296 : Nat) : Int) from by have n_0 := num_1; have n_1 := num_0; omega) hM (lv_sub hl [2, 3, 1, 0] rfl)
  · refine lv_iconst (v := (-1)) hx hb dX3_firstPlace_7 (by decide) ?_
    exact cr_ri (mc := 0) (ms := 0) E hr hlk hsz hM ⟨show (0 : Nat) ≤ 0 from by omega, show (0 : Nat) ≤ 0 from by omega⟩ ⟨⟨rfl, rfl, rfl, rfl⟩, trivial⟩ dX3_firstPlace_8
def w4X3_lastPlace : List Cond := .code yX3_lastPlace cX3_lastPlace 5 (some .int) :: ([.fieldLink RX3 29 "SkiShots$Race" "entryCount" "I", .fieldLink RX3 25 "SkiShots$Race" "entries" "[LSkiShots$Entry;", .methodLink RX3 49 yX0_hasTime, .instanceMethod yX0_hasTime, .selects RX0 yX0_hasTime yX0_hasTime, .initialized RX0, .code yX0_hasTime cX0_hasTime 1 (some .boolean), .fieldLink RX0 39 "SkiShots$Entry" "low" "I", .fieldLink RX3 53 "SkiShots$Entry" "low" "I", .fieldLink RX3 77 "SkiShots$Entry" "high" "I"] ++ wsX00 ++ wsX30)
set_option maxRecDepth 20000 in
theorem gk_X3_lastPlace_X0_hasTime_7 : GoodIn w4X3_lastPlace (wsV RX3 49 RX0 yX0_hasTime w4X0_hasTime) := goodIn_p _ [7] rfl (by decide +kernel)
set_option maxRecDepth 20000 in
theorem gk_X3_lastPlace_X0_hasTime_17 : GoodIn w4X3_lastPlace (wsV RX3 49 RX0 yX0_hasTime w4X0_hasTime) := goodIn_p _ [7] rfl (by decide +kernel)
set_option maxHeartbeats 4000000 in
set_option maxRecDepth 100000 in
theorem h4_X3_lastPlace (l : Launch) (D : va_G) (cA : Nat → ClassId) (ad av : Nat → Nat) (L : List Nat) (K : Nat → Nat) (I : Nat → Nat → Int32) (O : Nat → Nat → Option Nat) (sz : Nat) (x0 : Nat) (p0 : Nat) (hI : cI L K I O) (mx0 : x0 ∈ L) (kx0 : K x0 = 3) (mp0 : p0 ∈ L) (kp0 : K p0 = 0)  : Met l yX3_lastPlace w4X3_lastPlace ({ frames := 1, cells := 0, slots := 0, locals := 20 }) (cPre D cA ad av L K I O sz [.ref x0, .ref p0]) (cQi D cA L K I O sz [] [] [] (fun r L' K' I' O' => (L' = L ∧ K' = K ∧ I' = I ∧ O' = O) ∧ (True))) 0 0 (va_A (cW cA L K I O) sz) := by
  refine cr_met (own := RX3) (xs := []) (WI := []) (WO := []) (cc := cX3_lastPlace) (maxL := 5) (ret := (some .int)) (by decide) rfl rfl (Nat.le_of_ble_eq_true rfl) hI ?_
  intro p e s m args below meth c ls E hV hml hr hlk hname hsz hA hM hl
  have hx := E.1
  have hb := E.2.1
  have hts := E.2.2.1
  have hown := E.2.2.2.1
  have hl : lv_has ls 5 [(0, .ref x0), (1, .ref p0)] := hl
  have hin0 : ∀ w ∈ wsX00, w ∈ w4X3_lastPlace := by decide +kernel
  have hin3 : ∀ w ∈ wsX30, w ∈ w4X3_lastPlace := by decide +kernel
  have B_13 : ∀ n_13 : Nat, ∀ (H : Heap) (locs : List Loc) (ls : Array Slot) (n i : Int32), (0 ≤ i.toInt ∧ i.toInt ≤ 16) → (1 ≤ n.toInt ∧ n.toInt ≤ 17) → n.toInt ≤ i.toInt + 1 → (16 - i.toInt) < (n_13 : Int) → cQ D cA (va_A (cW cA L K I O) sz) s.heap [] [] [] L K I O H locs L K I O → lv_has ls 5 [(0, .ref x0), (1, .ref p0), (2, .int n), (3, .int i)] → W p l e ({ frames := 1, cells := 0, slots := 0, locals := 20 }) s m args below meth c H locs 0 0 (MQ below (cQi D cA L K I O sz [] [] [] (fun r L' K' I' O' => (L' = L ∧ K' = K ∧ I' = I ∧ O' = O) ∧ (True))) args s 0 0 (va_A (cW cA L K I O) sz)) (F0 m 13 ls []) := by
    intro n_13
    induction n_13 with
    | zero => intro H locs ls n i f13_0 f13_1 f13_2 hn hM hl; exact False.elim (by omega)
    | succ n_13 ih_13 =>
      intro H locs ls n i f13_0 f13_1 f13_2 hn hM hl
      refine lv_iload_n hx hb dX3_lastPlace_13 rfl (lv_at hl 3 rfl) ?_
      refine lv_aload_n hx hb dX3_lastPlace_14 rfl (lv_at hl 0 rfl) ?_
      have b_1 : 0 ≤ (I x0 4).toInt ∧ (I x0 4).toInt ≤ 16 := hM.ib mx0 kx0 4 rfl
      refine cr_get (κ := 3) (ci := 3) (k := 4) (C := RX3) (T := TX3) (N := 7) (fs := cfs 3) (v := .int (I x0 4)) E hM mx0 kx0 (fun _ _ => rfl) rfl hin3 (by decide) (index := 29) (mm_at 1 rfl) rfl rfl dX3_lastPlace_15 ?_
      refine mm_icmp_ge (X := i.toInt) (Y := (I x0 4).toInt) (tgt := 64) hx hb dX3_lastPlace_18 (by decide) rfl rfl (fun c_2 => ?_) (fun c_2 => ?_)
      · refine lv_iload_n hx hb dX3_lastPlace_64 rfl (lv_at hl 2 rfl) ?_
        exact cr_ri (mc := 0) (ms := 0) E hr hlk hsz hM ⟨show (0 : Nat) ≤ 0 from by omega, show (0 : Nat) ≤ 0 from by omega⟩ ⟨⟨rfl, rfl, rfl, rfl⟩, trivial⟩ dX3_lastPlace_65
      · refine lv_aload_n hx hb dX3_lastPlace_21 rfl (lv_at hl 0 rfl) ?_
        obtain ⟨x_3, o_3, m_3, k_3⟩ := hM.nn mx0 kx0 3 (κ' := 15) rfl rfl
        refine cr_get (κ := 3) (ci := 3) (k := 3) (C := RX3) (T := TX3) (N := 7) (fs := cfs 3) (v := .ref x_3) E hM mx0 kx0 (fun _ _ => rfl) rfl hin3 (by decide) (index := 25) (mm_at 2 rfl) rfl (by show some (va_rf (O x0 3)) = some (.ref x_3); rw [o_3]; rfl) dX3_lastPlace_22 ?_
        refine lv_iload_n hx hb dX3_lastPlace_25 rfl (lv_at hl 3 rfl) ?_
        obtain ⟨x_4, o_4⟩ := c_nn ((hM.sp mx0 kx0).2.1 rfl x_3 o_3 (Int32.toNatClampNeg i) (by rw [mm_nat]; omega))
        obtain ⟨m_4, k_4⟩ := hM.rt m_3 k_3 (Int32.toNatClampNeg i) (κ' := 0) rfl o_4
        refine cr_aalds (κ := 15) (t0 := 4) (X := i.toInt) E hM m_3 k_3 (fun _ _ => rfl) rfl rfl (by omega) o_4 dX3_lastPlace_26 ?_
        refine lv_astore (lv' := [(4, .ref x_4), (0, .ref x0), (1, .ref p0), (2, .int n), (3, .int i)]) hx hb dX3_lastPlace_27 hl (by decide) rfl (fun ls hl => ?_)
        refine lv_aload hx hb dX3_lastPlace_29 (lv_at hl 0 rfl) ?_
        refine lv_aload_n hx hb dX3_lastPlace_31 rfl (lv_at hl 2 rfl) ?_
        refine lv_acmp_eq (rx := some x_4) (ry := some p0) (tgt := 58) hx hb dX3_lastPlace_32 (by decide) (fun c_5 => ?_) (fun c_5 => ?_)
        · refine mm_iinc (X := i.toInt) (v := 1) (lv2 := fun z => [(3, .int z), (4, .ref x_4), (0, .ref x0), (1, .ref p0), (2, .int n)]) hx hb dX3_lastPlace_58 hl (k := 4) rfl rfl (by decide) num_1 (by omega) (by decide) (fun _ => rfl) (fun z_6 ls hz_6 hl => ?_)
          have hl : lv_has ls 5 [(3, .int z_6), (4, .ref x_4), (0, .ref x0), (1, .ref p0), (2, .int n)] := hl
          refine lv_goto (tgt := 13) hx hb dX3_lastPlace_61 (by decide) ?_
          exact ih_13 _ _ _  n z_6    (show (0 ≤ z_6.toInt ∧ z_6.toInt ≤ 16) from by omega) (show (1 ≤ n.toInt ∧ n.toInt ≤ 17) from by omega) (show n.toInt ≤ z_6.toInt + 1 from by omega) (show (16 - z_6.toInt) < ((n_13 : Nat) : Int) from by omega) hM (lv_sub hl [2, 3, 4, 0] rfl)
        · refine lv_aload hx hb dX3_lastPlace_35 (lv_at hl 0 rfl) ?_
          refine cc_Vip (vs := []) (rest := []) (b := x_4) (κ := 0) E hV rfl hA hml hM m_4 k_4 rfl rfl (h4_X0_hasTime l D cA ad av L K I O _ x_4 hM.2.2.2.1 m_4 k_4) (cwV 0 hts gk_X3_lastPlace_X0_hasTime_7 rfl rfl rfl (by decide +kernel) ⟨Nat.le_of_ble_eq_true rfl, Nat.le_of_ble_eq_true rfl⟩) rfl hl.1 rfl (Nat.le_of_ble_eq_true rfl) dX3_lastPlace_37 ⟨show (0 : Nat) ≤ 0 from by omega, show (0 : Nat) ≤ 0 from by omega⟩ (fun r_8 H locs p_9 hM => ?_)
          refine mm_if_eq (X := r_8.toInt) (tgt := 58) hx hb dX3_lastPlace_40 (by decide) rfl (fun c_11 => ?_) (fun c_11 => ?_)
          · refine mm_iinc (X := i.toInt) (v := 1) (lv2 := fun z => [(3, .int z), (4, .ref x_4), (0, .ref x0), (1, .ref p0), (2, .int n)]) hx hb dX3_lastPlace_58 hl (k := 4) rfl rfl (by decide) num_1 (by omega) (by decide) (fun _ => rfl) (fun z_12 ls hz_12 hl => ?_)
            have hl : lv_has ls 5 [(3, .int z_12), (4, .ref x_4), (0, .ref x0), (1, .ref p0), (2, .int n)] := hl
            refine lv_goto (tgt := 13) hx hb dX3_lastPlace_61 (by decide) ?_
            exact ih_13 _ _ _  n z_12    (show (0 ≤ z_12.toInt ∧ z_12.toInt ≤ 16) from by omega) (show (1 ≤ n.toInt ∧ n.toInt ≤ 17) from by omega) (show n.toInt ≤ z_12.toInt + 1 from by omega) (show (16 - z_12.toInt) < ((n_13 : Nat) : Int) from by omega) hM (lv_sub hl [2, 3, 4, 0] rfl)
          · refine lv_aload hx hb dX3_lastPlace_43 (lv_at hl 0 rfl) ?_
            refine cr_get (κ := 0) (ci := 0) (k := 3) (C := RX0) (T := TX0) (N := 10) (fs := cfs 0) (v := .int (I x_4 3)) E hM m_4 k_4 (fun _ _ => rfl) rfl hin0 (by decide) (index := 53) (mm_at 9 rfl) rfl rfl dX3_lastPlace_45 ?_
            refine lv_aload_n hx hb dX3_lastPlace_48 rfl (lv_at hl 2 rfl) ?_
            refine cr_get (κ := 0) (ci := 0) (k := 4) (C := RX0) (T := TX0) (N := 10) (fs := cfs 0) (v := .int (I p0 4)) E hM mp0 kp0 (fun _ _ => rfl) rfl hin0 (by decide) (index := 77) (mm_at 10 rfl) rfl rfl dX3_lastPlace_49 ?_
            refine mm_icmp_ge (X := (I x_4 3).toInt) (Y := (I p0 4).toInt) (tgt := 58) hx hb dX3_lastPlace_52 (by decide) rfl rfl (fun c_13 => ?_) (fun c_13 => ?_)
            · refine mm_iinc (X := i.toInt) (v := 1) (lv2 := fun z => [(3, .int z), (4, .ref x_4), (0, .ref x0), (1, .ref p0), (2, .int n)]) hx hb dX3_lastPlace_58 hl (k := 4) rfl rfl (by decide) num_1 (by omega) (by decide) (fun _ => rfl) (fun z_14 ls hz_14 hl => ?_)
              have hl : lv_has ls 5 [(3, .int z_14), (4, .ref x_4), (0, .ref x0), (1, .ref p0), (2, .int n)] := hl
              refine lv_goto (tgt := 13) hx hb dX3_lastPlace_61 (by decide) ?_
              exact ih_13 _ _ _  n z_14    (show (0 ≤ z_14.toInt ∧ z_14.toInt ≤ 16) from by omega) (show (1 ≤ n.toInt ∧ n.toInt ≤ 17) from by omega) (show n.toInt ≤ z_14.toInt + 1 from by omega) (show (16 - z_14.toInt) < ((n_13 : Nat) : Int) from by omega) hM (lv_sub hl [2, 3, 4, 0] rfl)
            · refine mm_iinc (X := n.toInt) (v := 1) (lv2 := fun z => [(2, .int z), (4, .ref x_4), (0, .ref x0), (1, .ref p0), (3, .int i)]) hx hb dX3_lastPlace_55 hl (k := 3) rfl rfl (by decide) num_1 (by omega) (by decide) (fun _ => rfl) (fun z_15 ls hz_15 hl => ?_)
              have hl : lv_has ls 5 [(2, .int z_15), (4, .ref x_4), (0, .ref x0), (1, .ref p0), (3, .int i)] := hl
              refine mm_iinc (X := i.toInt) (v := 1) (lv2 := fun z => [(3, .int z), (2, .int z_15), (4, .ref x_4), (0, .ref x0), (1, .ref p0)]) hx hb dX3_lastPlace_58 hl (k := 4) rfl rfl (by decide) num_1 (by omega) (by decide) (fun _ => rfl) (fun z_16 ls hz_16 hl => ?_)
              have hl : lv_has ls 5 [(3, .int z_16), (2, .int z_15), (4, .ref x_4), (0, .ref x0), (1, .ref p0)] := hl
              refine lv_goto (tgt := 13) hx hb dX3_lastPlace_61 (by decide) ?_
              exact ih_13 _ _ _  z_15 z_16    (show (0 ≤ z_16.toInt ∧ z_16.toInt ≤ 16) from by omega) (show (1 ≤ z_15.toInt ∧ z_15.toInt ≤ 17) from by omega) (show z_15.toInt ≤ z_16.toInt + 1 from by omega) (show (16 - z_16.toInt) < ((n_13 : Nat) : Int) from by omega) hM (lv_sub hl [3, 4, 1, 0] rfl)
  refine lv_aload_n hx hb dX3_lastPlace_0 rfl (lv_at hl 1 rfl) ?_
  refine cc_Vip (vs := []) (rest := []) (b := p0) (κ := 0) E hV rfl hA hml hM mp0 kp0 rfl rfl (h4_X0_hasTime l D cA ad av L K I O _ p0 hM.2.2.2.1 mp0 kp0) (cwV 0 hts gk_X3_lastPlace_X0_hasTime_17 rfl rfl rfl (by decide +kernel) ⟨Nat.le_of_ble_eq_true rfl, Nat.le_of_ble_eq_true rfl⟩) rfl hl.1 rfl (Nat.le_of_ble_eq_true rfl) dX3_lastPlace_1 ⟨show (0 : Nat) ≤ 0 from by omega, show (0 : Nat) ≤ 0 from by omega⟩ (fun r_18 H locs p_19 hM => ?_)
  refine mm_if_ne (X := r_18.toInt) (tgt := 9) hx hb dX3_lastPlace_4 (by decide) rfl (fun c_21 => ?_) (fun c_21 => ?_)
  · refine lv_iconst (v := 1) hx hb dX3_lastPlace_9 (by decide) ?_
    refine lv_istore_n (lv' := [(2, .int 1), (0, .ref x0), (1, .ref p0)]) hx hb dX3_lastPlace_10 rfl hl (by decide) rfl (fun ls hl => ?_)
    refine lv_iconst (v := 0) hx hb dX3_lastPlace_11 (by decide) ?_
    refine lv_istore_n (lv' := [(3, .int 0), (2, .int 1), (0, .ref x0), (1, .ref p0)]) hx hb dX3_lastPlace_12 rfl hl (by decide) rfl (fun ls hl => ?_)
    exact B_13 4294967296 _ _ _  1 0    (show (0 ≤ (0 : Int32).toInt ∧ (0 : Int32).toInt ≤ 16) from by have n_0 := num_1; have n_1 := num_0; omega) (show (1 ≤ (1 : Int32).toInt ∧ (1 : Int32).toInt ≤ 17) from by have n_0 := num_1; have n_1 := num_0; omega) (show (1 : Int32).toInt ≤ (0 : Int32).toInt + 1 from by have n_0 := num_1; have n_1 := num_0; omega) (show (16 - (0 : Int32).toInt) < ((4294967296 : Nat) : Int) from by have n_0 := num_1; have n_1 := num_0; omega) hM (lv_sub hl [2, 3, 1, 0] rfl)
  · refine lv_iconst (v := (-1)) hx hb dX3_lastPlace_7 (by decide) ?_
    exact cr_ri (mc := 0) (ms := 0) E hr hlk hsz hM ⟨show (0 : Nat) ≤ 0 from by omega, show (0 : Nat) ≤ 0 from by omega⟩ ⟨⟨rfl, rfl, rfl, rfl⟩, trivial⟩ dX3_lastPlace_8
def w4X3_aheadInOrder : List Cond := .code yX3_aheadInOrder cX3_aheadInOrder 5 (some .int) :: ([.fieldLink RX3 29 "SkiShots$Race" "entryCount" "I", .fieldLink RX3 25 "SkiShots$Race" "entries" "[LSkiShots$Entry;", .fieldLink RX3 53 "SkiShots$Entry" "low" "I"] ++ wsX00 ++ wsX30)
set_option maxHeartbeats 4000000 in
set_option maxRecDepth 100000 in
theorem h4_X3_aheadInOrder (l : Launch) (D : va_G) (cA : Nat → ClassId) (ad av : Nat → Nat) (L : List Nat) (K : Nat → Nat) (I : Nat → Nat → Int32) (O : Nat → Nat → Option Nat) (sz : Nat) (x0 : Nat) (p0 : Int32) (hI : cI L K I O) (mx0 : x0 ∈ L) (kx0 : K x0 = 3) (k0 : 0 ≤ p0.toInt ∧ p0.toInt < (I x0 4).toInt) : Met l yX3_aheadInOrder w4X3_aheadInOrder ({ frames := 0, cells := 0, slots := 0, locals := 0 }) (cPre D cA ad av L K I O sz [.ref x0, .int p0]) (cQi D cA L K I O sz [] [] [] (fun r L' K' I' O' => (L' = L ∧ K' = K ∧ I' = I ∧ O' = O) ∧ (True))) 0 0 (va_A (cW cA L K I O) sz) := by
  refine cr_met (own := RX3) (xs := []) (WI := []) (WO := []) (cc := cX3_aheadInOrder) (maxL := 5) (ret := (some .int)) (by decide) rfl rfl (Nat.le_of_ble_eq_true rfl) hI ?_
  intro p e s m args below meth c ls E hV hml hr hlk hname hsz hA hM hl
  have hx := E.1
  have hb := E.2.1
  have hts := E.2.2.1
  have hown := E.2.2.2.1
  have hl : lv_has ls 5 [(0, .ref x0), (1, .int p0)] := hl
  have hin0 : ∀ w ∈ wsX00, w ∈ w4X3_aheadInOrder := by decide +kernel
  have hin3 : ∀ w ∈ wsX30, w ∈ w4X3_aheadInOrder := by decide +kernel
  have B_4 : ∀ n_4 : Nat, ∀ (H : Heap) (locs : List Loc) (ls : Array Slot) (n i : Int32), (0 ≤ i.toInt ∧ i.toInt ≤ 16) → (0 ≤ n.toInt ∧ n.toInt ≤ 16) → n.toInt ≤ i.toInt → (16 - i.toInt) < (n_4 : Int) → cQ D cA (va_A (cW cA L K I O) sz) s.heap [] [] [] L K I O H locs L K I O → lv_has ls 5 [(0, .ref x0), (1, .int p0), (2, .int n), (3, .int i)] → W p l e ({ frames := 0, cells := 0, slots := 0, locals := 0 }) s m args below meth c H locs 0 0 (MQ below (cQi D cA L K I O sz [] [] [] (fun r L' K' I' O' => (L' = L ∧ K' = K ∧ I' = I ∧ O' = O) ∧ (True))) args s 0 0 (va_A (cW cA L K I O) sz)) (F0 m 4 ls []) := by
    intro n_4
    induction n_4 with
    | zero => intro H locs ls n i f4_0 f4_1 f4_2 hn hM hl; exact False.elim (by omega)
    | succ n_4 ih_4 =>
      intro H locs ls n i f4_0 f4_1 f4_2 hn hM hl
      refine lv_iload_n hx hb dX3_aheadInOrder_4 rfl (lv_at hl 3 rfl) ?_
      refine lv_aload_n hx hb dX3_aheadInOrder_5 rfl (lv_at hl 0 rfl) ?_
      have b_1 : 0 ≤ (I x0 4).toInt ∧ (I x0 4).toInt ≤ 16 := hM.ib mx0 kx0 4 rfl
      refine cr_get (κ := 3) (ci := 3) (k := 4) (C := RX3) (T := TX3) (N := 7) (fs := cfs 3) (v := .int (I x0 4)) E hM mx0 kx0 (fun _ _ => rfl) rfl hin3 (by decide) (index := 29) (mm_at 1 rfl) rfl rfl dX3_aheadInOrder_6 ?_
      refine mm_icmp_ge (X := i.toInt) (Y := (I x0 4).toInt) (tgt := 71) hx hb dX3_aheadInOrder_9 (by decide) rfl rfl (fun c_2 => ?_) (fun c_2 => ?_)
      · refine lv_iload_n hx hb dX3_aheadInOrder_71 rfl (lv_at hl 2 rfl) ?_
        exact cr_ri (mc := 0) (ms := 0) E hr hlk hsz hM ⟨show (0 : Nat) ≤ 0 from by omega, show (0 : Nat) ≤ 0 from by omega⟩ ⟨⟨rfl, rfl, rfl, rfl⟩, trivial⟩ dX3_aheadInOrder_72
      · refine lv_aload_n hx hb dX3_aheadInOrder_12 rfl (lv_at hl 0 rfl) ?_
        obtain ⟨x_3, o_3, m_3, k_3⟩ := hM.nn mx0 kx0 3 (κ' := 15) rfl rfl
        refine cr_get (κ := 3) (ci := 3) (k := 3) (C := RX3) (T := TX3) (N := 7) (fs := cfs 3) (v := .ref x_3) E hM mx0 kx0 (fun _ _ => rfl) rfl hin3 (by decide) (index := 25) (mm_at 2 rfl) rfl (by show some (va_rf (O x0 3)) = some (.ref x_3); rw [o_3]; rfl) dX3_aheadInOrder_13 ?_
        refine lv_iload_n hx hb dX3_aheadInOrder_16 rfl (lv_at hl 3 rfl) ?_
        obtain ⟨x_4, o_4⟩ := c_nn ((hM.sp mx0 kx0).2.1 rfl x_3 o_3 (Int32.toNatClampNeg i) (by rw [mm_nat]; omega))
        obtain ⟨m_4, k_4⟩ := hM.rt m_3 k_3 (Int32.toNatClampNeg i) (κ' := 0) rfl o_4
        refine cr_aalds (κ := 15) (t0 := 4) (X := i.toInt) E hM m_3 k_3 (fun _ _ => rfl) rfl rfl (by omega) o_4 dX3_aheadInOrder_17 ?_
        refine cr_get (κ := 0) (ci := 0) (k := 3) (C := RX0) (T := TX0) (N := 10) (fs := cfs 0) (v := .int (I x_4 3)) E hM m_4 k_4 (fun _ _ => rfl) rfl hin0 (by decide) (index := 53) (mm_at 3 rfl) rfl rfl dX3_aheadInOrder_18 ?_
        refine lv_istore (lv' := [(4, .int (I x_4 3)), (0, .ref x0), (1, .int p0), (2, .int n), (3, .int i)]) hx hb dX3_aheadInOrder_21 hl (by decide) rfl (fun ls hl => ?_)
        refine lv_iload hx hb dX3_aheadInOrder_23 (lv_at hl 0 rfl) ?_
        refine lv_iconst (v := (-1)) hx hb dX3_aheadInOrder_25 (by decide) ?_
        refine mm_icmp_eq (X := (I x_4 3).toInt) (Y := (-1)) (tgt := 65) hx hb dX3_aheadInOrder_26 (by decide) rfl num_m1 (fun c_5 => ?_) (fun c_5 => ?_)
        · refine mm_iinc (X := i.toInt) (v := 1) (lv2 := fun z => [(3, .int z), (4, .int (I x_4 3)), (0, .ref x0), (1, .int p0), (2, .int n)]) hx hb dX3_aheadInOrder_65 hl (k := 4) rfl rfl (by decide) num_1 (by omega) (by decide) (fun _ => rfl) (fun z_6 ls hz_6 hl => ?_)
          have hl : lv_has ls 5 [(3, .int z_6), (4, .int (I x_4 3)), (0, .ref x0), (1, .int p0), (2, .int n)] := hl
          refine lv_goto (tgt := 4) hx hb dX3_aheadInOrder_68 (by decide) ?_
          exact ih_4 _ _ _  n z_6    (show (0 ≤ z_6.toInt ∧ z_6.toInt ≤ 16) from by omega) (show (0 ≤ n.toInt ∧ n.toInt ≤ 16) from by omega) (show n.toInt ≤ z_6.toInt from by omega) (show (16 - z_6.toInt) < ((n_4 : Nat) : Int) from by omega) hM (lv_sub hl [2, 3, 4, 0] rfl)
        · refine lv_iload hx hb dX3_aheadInOrder_29 (lv_at hl 0 rfl) ?_
          refine lv_aload_n hx hb dX3_aheadInOrder_31 rfl (lv_at hl 1 rfl) ?_
          refine cr_get (κ := 3) (ci := 3) (k := 3) (C := RX3) (T := TX3) (N := 7) (fs := cfs 3) (v := .ref x_3) E hM mx0 kx0 (fun _ _ => rfl) rfl hin3 (by decide) (index := 25) (mm_at 2 rfl) rfl (by show some (va_rf (O x0 3)) = some (.ref x_3); rw [o_3]; rfl) dX3_aheadInOrder_32 ?_
          refine lv_iload_n hx hb dX3_aheadInOrder_35 rfl (lv_at hl 2 rfl) ?_
          obtain ⟨x_7, o_7⟩ := c_nn ((hM.sp mx0 kx0).2.1 rfl x_3 o_3 (Int32.toNatClampNeg p0) (by rw [mm_nat]; omega))
          obtain ⟨m_7, k_7⟩ := hM.rt m_3 k_3 (Int32.toNatClampNeg p0) (κ' := 0) rfl o_7
          refine cr_aalds (κ := 15) (t0 := 4) (X := p0.toInt) E hM m_3 k_3 (fun _ _ => rfl) rfl rfl (by omega) o_7 dX3_aheadInOrder_36 ?_
          refine cr_get (κ := 0) (ci := 0) (k := 3) (C := RX0) (T := TX0) (N := 10) (fs := cfs 0) (v := .int (I x_7 3)) E hM m_7 k_7 (fun _ _ => rfl) rfl hin0 (by decide) (index := 53) (mm_at 3 rfl) rfl rfl dX3_aheadInOrder_37 ?_
          refine mm_icmp_lt (X := (I x_4 3).toInt) (Y := (I x_7 3).toInt) (tgt := 62) hx hb dX3_aheadInOrder_40 (by decide) rfl rfl (fun c_8 => ?_) (fun c_8 => ?_)
          · refine mm_iinc (X := n.toInt) (v := 1) (lv2 := fun z => [(2, .int z), (4, .int (I x_4 3)), (0, .ref x0), (1, .int p0), (3, .int i)]) hx hb dX3_aheadInOrder_62 hl (k := 3) rfl rfl (by decide) num_1 (by omega) (by decide) (fun _ => rfl) (fun z_9 ls hz_9 hl => ?_)
            have hl : lv_has ls 5 [(2, .int z_9), (4, .int (I x_4 3)), (0, .ref x0), (1, .int p0), (3, .int i)] := hl
            refine mm_iinc (X := i.toInt) (v := 1) (lv2 := fun z => [(3, .int z), (2, .int z_9), (4, .int (I x_4 3)), (0, .ref x0), (1, .int p0)]) hx hb dX3_aheadInOrder_65 hl (k := 4) rfl rfl (by decide) num_1 (by omega) (by decide) (fun _ => rfl) (fun z_10 ls hz_10 hl => ?_)
            have hl : lv_has ls 5 [(3, .int z_10), (2, .int z_9), (4, .int (I x_4 3)), (0, .ref x0), (1, .int p0)] := hl
            refine lv_goto (tgt := 4) hx hb dX3_aheadInOrder_68 (by decide) ?_
            exact ih_4 _ _ _  z_9 z_10    (show (0 ≤ z_10.toInt ∧ z_10.toInt ≤ 16) from by omega) (show (0 ≤ z_9.toInt ∧ z_9.toInt ≤ 16) from by omega) (show z_9.toInt ≤ z_10.toInt from by omega) (show (16 - z_10.toInt) < ((n_4 : Nat) : Int) from by omega) hM (lv_sub hl [3, 4, 1, 0] rfl)
          · refine lv_iload hx hb dX3_aheadInOrder_43 (lv_at hl 0 rfl) ?_
            refine lv_aload_n hx hb dX3_aheadInOrder_45 rfl (lv_at hl 1 rfl) ?_
            refine cr_get (κ := 3) (ci := 3) (k := 3) (C := RX3) (T := TX3) (N := 7) (fs := cfs 3) (v := .ref x_3) E hM mx0 kx0 (fun _ _ => rfl) rfl hin3 (by decide) (index := 25) (mm_at 2 rfl) rfl (by show some (va_rf (O x0 3)) = some (.ref x_3); rw [o_3]; rfl) dX3_aheadInOrder_46 ?_
            refine lv_iload_n hx hb dX3_aheadInOrder_49 rfl (lv_at hl 2 rfl) ?_
            refine cr_aalds (κ := 15) (t0 := 4) (X := p0.toInt) E hM m_3 k_3 (fun _ _ => rfl) rfl rfl (by omega) o_7 dX3_aheadInOrder_50 ?_
            refine cr_get (κ := 0) (ci := 0) (k := 3) (C := RX0) (T := TX0) (N := 10) (fs := cfs 0) (v := .int (I x_7 3)) E hM m_7 k_7 (fun _ _ => rfl) rfl hin0 (by decide) (index := 53) (mm_at 3 rfl) rfl rfl dX3_aheadInOrder_51 ?_
            refine mm_icmp_ne (X := (I x_4 3).toInt) (Y := (I x_7 3).toInt) (tgt := 65) hx hb dX3_aheadInOrder_54 (by decide) rfl rfl (fun c_11 => ?_) (fun c_11 => ?_)
            · refine mm_iinc (X := i.toInt) (v := 1) (lv2 := fun z => [(3, .int z), (4, .int (I x_4 3)), (0, .ref x0), (1, .int p0), (2, .int n)]) hx hb dX3_aheadInOrder_65 hl (k := 4) rfl rfl (by decide) num_1 (by omega) (by decide) (fun _ => rfl) (fun z_12 ls hz_12 hl => ?_)
              have hl : lv_has ls 5 [(3, .int z_12), (4, .int (I x_4 3)), (0, .ref x0), (1, .int p0), (2, .int n)] := hl
              refine lv_goto (tgt := 4) hx hb dX3_aheadInOrder_68 (by decide) ?_
              exact ih_4 _ _ _  n z_12    (show (0 ≤ z_12.toInt ∧ z_12.toInt ≤ 16) from by omega) (show (0 ≤ n.toInt ∧ n.toInt ≤ 16) from by omega) (show n.toInt ≤ z_12.toInt from by omega) (show (16 - z_12.toInt) < ((n_4 : Nat) : Int) from by omega) hM (lv_sub hl [2, 3, 4, 0] rfl)
            · refine lv_iload_n hx hb dX3_aheadInOrder_57 rfl (lv_at hl 4 rfl) ?_
              refine lv_iload_n hx hb dX3_aheadInOrder_58 rfl (lv_at hl 2 rfl) ?_
              refine mm_icmp_ge (X := i.toInt) (Y := p0.toInt) (tgt := 65) hx hb dX3_aheadInOrder_59 (by decide) rfl rfl (fun c_13 => ?_) (fun c_13 => ?_)
              · refine mm_iinc (X := i.toInt) (v := 1) (lv2 := fun z => [(3, .int z), (4, .int (I x_4 3)), (0, .ref x0), (1, .int p0), (2, .int n)]) hx hb dX3_aheadInOrder_65 hl (k := 4) rfl rfl (by decide) num_1 (by omega) (by decide) (fun _ => rfl) (fun z_14 ls hz_14 hl => ?_)
                have hl : lv_has ls 5 [(3, .int z_14), (4, .int (I x_4 3)), (0, .ref x0), (1, .int p0), (2, .int n)] := hl
                refine lv_goto (tgt := 4) hx hb dX3_aheadInOrder_68 (by decide) ?_
                exact ih_4 _ _ _  n z_14    (show (0 ≤ z_14.toInt ∧ z_14.toInt ≤ 16) from by omega) (show (0 ≤ n.toInt ∧ n.toInt ≤ 16) from by omega) (show n.toInt ≤ z_14.toInt from by omega) (show (16 - z_14.toInt) < ((n_4 : Nat) : Int) from by omega) hM (lv_sub hl [2, 3, 4, 0] rfl)
              · refine mm_iinc (X := n.toInt) (v := 1) (lv2 := fun z => [(2, .int z), (4, .int (I x_4 3)), (0, .ref x0), (1, .int p0), (3, .int i)]) hx hb dX3_aheadInOrder_62 hl (k := 3) rfl rfl (by decide) num_1 (by omega) (by decide) (fun _ => rfl) (fun z_15 ls hz_15 hl => ?_)
                have hl : lv_has ls 5 [(2, .int z_15), (4, .int (I x_4 3)), (0, .ref x0), (1, .int p0), (3, .int i)] := hl
                refine mm_iinc (X := i.toInt) (v := 1) (lv2 := fun z => [(3, .int z), (2, .int z_15), (4, .int (I x_4 3)), (0, .ref x0), (1, .int p0)]) hx hb dX3_aheadInOrder_65 hl (k := 4) rfl rfl (by decide) num_1 (by omega) (by decide) (fun _ => rfl) (fun z_16 ls hz_16 hl => ?_)
                have hl : lv_has ls 5 [(3, .int z_16), (2, .int z_15), (4, .int (I x_4 3)), (0, .ref x0), (1, .int p0)] := hl
                refine lv_goto (tgt := 4) hx hb dX3_aheadInOrder_68 (by decide) ?_
                exact ih_4 _ _ _  z_15 z_16    (show (0 ≤ z_16.toInt ∧ z_16.toInt ≤ 16) from by omega) (show (0 ≤ z_15.toInt ∧ z_15.toInt ≤ 16) from by omega) (show z_15.toInt ≤ z_16.toInt from by omega) (show (16 - z_16.toInt) < ((n_4 : Nat) : Int) from by omega) hM (lv_sub hl [3, 4, 1, 0] rfl)
  refine lv_iconst (v := 0) hx hb dX3_aheadInOrder_0 (by decide) ?_
  refine lv_istore_n (lv' := [(2, .int 0), (0, .ref x0), (1, .int p0)]) hx hb dX3_aheadInOrder_1 rfl hl (by decide) rfl (fun ls hl => ?_)
  refine lv_iconst (v := 0) hx hb dX3_aheadInOrder_2 (by decide) ?_
  refine lv_istore_n (lv' := [(3, .int 0), (2, .int 0), (0, .ref x0), (1, .int p0)]) hx hb dX3_aheadInOrder_3 rfl hl (by decide) rfl (fun ls hl => ?_)
  exact B_4 4294967296 _ _ _  0 0    (show (0 ≤ (0 : Int32).toInt ∧ (0 : Int32).toInt ≤ 16) from by have n_0 := num_0; have n_1 := num_0; omega) (show (0 ≤ (0 : Int32).toInt ∧ (0 : Int32).toInt ≤ 16) from by have n_0 := num_0; have n_1 := num_0; omega) (show (0 : Int32).toInt ≤ (0 : Int32).toInt from by have n_0 := num_0; have n_1 := num_0; omega) (show (16 - (0 : Int32).toInt) < ((4294967296 : Nat) : Int) from by have n_0 := num_0; have n_1 := num_0; omega) hM (lv_sub hl [2, 3, 1, 0] rfl)
