def w5X5_raceAt : List Cond := .code yX5_raceAt cX5_raceAt 2 (some (.object "SkiShots$Race")) :: ([.fieldLink RX5 80 "SkiShots" "raceCount" "I", .fieldLink RX5 29 "SkiShots" "races" "[LSkiShots$Race;"] ++ wsX50)
set_option maxHeartbeats 4000000 in
set_option maxRecDepth 100000 in
theorem h5_X5_raceAt (l : Launch) (D : va_G) (cA : Nat → ClassId) (ad av : Nat → Nat) (L : List Nat) (K : Nat → Nat) (I : Nat → Nat → Int32) (O : Nat → Nat → Option Nat) (sz : Nat) (x0 : Nat) (p0 : Int32) (hI : cI L K I O) (mx0 : x0 ∈ L) (kx0 : K x0 = 5) (rr : Nat) (hrr : O x0 9 = some rr) : Met l yX5_raceAt w5X5_raceAt ({ frames := 0, cells := 0, slots := 0, locals := 0 }) (cPre D cA ad av L K I O sz [.ref x0, .int p0]) (cQq D cA L K I O sz [] [] [] (fun r L' K' I' O' => (L' = L ∧ K' = K ∧ I' = I ∧ O' = O) ∧ ((r = none ∧ ¬ (0 ≤ p0.toInt ∧ p0.toInt < (I x0 10).toInt)) ∨ (∃ b : Nat, r = some b ∧ b ∈ L ∧ K b = 3 ∧ O rr (Int32.toNatClampNeg p0) = some b ∧ 0 ≤ p0.toInt ∧ p0.toInt < (I x0 10).toInt)))) 0 0 (va_A (cW cA L K I O) sz) := by
  refine cr_met (own := RX5) (xs := []) (WI := []) (WO := []) (cc := cX5_raceAt) (maxL := 2) (ret := (some (.object "SkiShots$Race"))) (by decide) rfl rfl (Nat.le_of_ble_eq_true rfl) hI ?_
  intro p e s m args below meth c ls E hV hml hr hlk hname hsz hA hM hl
  have hx := E.1
  have hb := E.2.1
  have hts := E.2.2.1
  have hown := E.2.2.2.1
  have hl : lv_has ls 2 [(0, .ref x0), (1, .int p0)] := hl
  have hin5 : ∀ w ∈ wsX50, w ∈ w5X5_raceAt := by decide +kernel
  obtain ⟨mrr, krr⟩ := hM.rt mx0 kx0 9 (κ' := 12) rfl hrr
  refine lv_iload_n hx hb dX5_raceAt_0 rfl (lv_at hl 1 rfl) ?_
  refine mm_if_lt (X := p0.toInt) (tgt := 21) hx hb dX5_raceAt_1 (by decide) rfl (fun c_1 => ?_) (fun c_1 => ?_)
  · refine lv_null hx hb dX5_raceAt_21 ?_
    exact cr_rq (mc := 0) (ms := 0) (v := none) E hr hlk hsz hM ⟨show (0 : Nat) ≤ 0 from by omega, show (0 : Nat) ≤ 0 from by omega⟩ (Or.inl ⟨_, rfl⟩) ⟨⟨rfl, rfl, rfl, rfl⟩, (Or.inl ⟨rfl, by omega⟩)⟩ dX5_raceAt_22
  · refine lv_iload_n hx hb dX5_raceAt_4 rfl (lv_at hl 1 rfl) ?_
    refine lv_aload_n hx hb dX5_raceAt_5 rfl (lv_at hl 0 rfl) ?_
    have b_2 : 0 ≤ (I x0 10).toInt ∧ (I x0 10).toInt ≤ 8 := hM.ib mx0 kx0 10 rfl
    refine cr_get (κ := 5) (ci := 5) (k := 10) (C := RX5) (T := TX5) (N := 13) (fs := cfs 5) (v := .int (I x0 10)) E hM mx0 kx0 (fun _ _ => rfl) rfl hin5 (by decide) (index := 80) (mm_at 1 rfl) rfl rfl dX5_raceAt_6 ?_
    refine mm_icmp_ge (X := p0.toInt) (Y := (I x0 10).toInt) (tgt := 21) hx hb dX5_raceAt_9 (by decide) rfl rfl (fun c_3 => ?_) (fun c_3 => ?_)
    · refine lv_null hx hb dX5_raceAt_21 ?_
      exact cr_rq (mc := 0) (ms := 0) (v := none) E hr hlk hsz hM ⟨show (0 : Nat) ≤ 0 from by omega, show (0 : Nat) ≤ 0 from by omega⟩ (Or.inl ⟨_, rfl⟩) ⟨⟨rfl, rfl, rfl, rfl⟩, (Or.inl ⟨rfl, by omega⟩)⟩ dX5_raceAt_22
    · refine lv_aload_n hx hb dX5_raceAt_12 rfl (lv_at hl 0 rfl) ?_
      refine cr_get (κ := 5) (ci := 5) (k := 9) (C := RX5) (T := TX5) (N := 13) (fs := cfs 5) (v := .ref rr) E hM mx0 kx0 (fun _ _ => rfl) rfl hin5 (by decide) (index := 29) (mm_at 2 rfl) rfl (by show some (va_rf (O x0 9)) = some (.ref rr); rw [hrr]; rfl) dX5_raceAt_13 ?_
      refine lv_iload_n hx hb dX5_raceAt_16 rfl (lv_at hl 1 rfl) ?_
      obtain ⟨x_4, o_4⟩ := c_nn ((hM.sp mx0 kx0).2.2.2 rfl rr hrr (Int32.toNatClampNeg p0) (by rw [mm_nat]; omega))
      obtain ⟨m_4, k_4⟩ := hM.rt mrr krr (Int32.toNatClampNeg p0) (κ' := 3) rfl o_4
      refine cr_aalds (κ := 12) (t0 := 2) (X := p0.toInt) E hM mrr krr (fun _ _ => rfl) rfl rfl (by omega) o_4 dX5_raceAt_17 ?_
      refine lv_goto (tgt := 22) hx hb dX5_raceAt_18 (by decide) ?_
      exact cr_rq (mc := 0) (ms := 0) (v := some x_4) E hr hlk hsz hM ⟨show (0 : Nat) ≤ 0 from by omega, show (0 : Nat) ≤ 0 from by omega⟩ (Or.inl ⟨_, rfl⟩) ⟨⟨rfl, rfl, rfl, rfl⟩, (Or.inr ⟨x_4, rfl, m_4, k_4, o_4, by omega, by omega⟩)⟩ dX5_raceAt_22
