abbrev cWf (h0 qT qF qN qR qC : Nat) (kT kF kN kR kC : ClassId) : va_W := [(h0, .inr (5, [.ref qT, .int 0, .ref qF, .int 0, .int 0, .int (-1), .int 0, .ref qN, .int 0, .ref qR, .int 0, .int 0, .ref qC])), (qT, .inl (kT, 1000, .inl (fun _ => 0))), (qF, .inl (kF, 8, .inr (.inr (.inr (.inr (fun _ => none)))))), (qN, .inl (kN, 16, .inl (fun _ => 0))), (qR, .inl (kR, 8, .inr (.inr (.inr (.inr (fun _ => none)))))), (qC, .inl (kC, 16, .inl (fun _ => 0)))]
theorem lw_nilP {D : va_G} {cl : List vw_C} {H : Heap} : va_P D cl [] H := fun k q h => by simp at h
theorem lw_nilD {A : Nat → Prop} : va_D A [] := ⟨fun i j p q h => by simp at h, fun k q h => by simp at h⟩
theorem lw_ao {C : String} {s : State} (h : va_AO C s) : ∃ k : ClassId, ArrOfT s k (.object C) ∧ va_RA s k (.object C) := by
  obtain ⟨comp, k, kk, h1, -, h3, h4, h5⟩ := Cond.arrayOver_spec h
  exact ⟨k, fun n z => ⟨fun k9 h9 => (by cases h9), kk, h3, comp, h4⟩, kk, comp, h3, h4, h1, h5⟩
set_option maxHeartbeats 4000000 in
set_option maxRecDepth 100000 in
theorem whole_start {p : Program} {e : Env} {s : State} {m : MethodId} {below : List Frame} {meth : Method} {c : Code} (l : Launch) (hst : l.stackTraces = false) {b L : Nat} {xs : Nat → Int32} (hL : L ≤ 3072) (C0 : lw_At p s m meth c b L xs) : W p l e room_1 s m #[Value.ref b] below meth c s.heap [] 0 0 (lw_Z below #[Value.ref b] s) (entryFrame m ([Value.ref b] : List Value).toArray 7) := by
  obtain ⟨hx, hb, hr, hml, hown, hts0, hX, hbl, hlocks, hgv⟩ := id C0
  have hts := fun w h => hts0 w (wl_in w h)
  have hA : ∀ x : Nat, s.heap.size ≤ x → lA s x := fun _ h => h
  have hbA : ¬ lA s b := Nat.not_le.mpr hbl
  obtain ⟨c0, iS0, hKn0⟩ := u_known (C := RX0) (T := TX0) (N := 10) (n := 10) hts0 wl_x0_in (hts0 (.instantiable RX0 10) (by decide +kernel))
  obtain ⟨c1, iS1, hKn1⟩ := u_known (C := RX1) (T := TX1) (N := 5) (n := 5) hts0 wl_x1_in (hts0 (.instantiable RX1 5) (by decide +kernel))
  obtain ⟨c2, iS2, hKn2⟩ := u_known (C := RX2) (T := TX2) (N := 8) (n := 8) hts0 wl_x2_in (hts0 (.instantiable RX2 8) (by decide +kernel))
  obtain ⟨c3, iS3, hKn3⟩ := u_known (C := RX3) (T := TX3) (N := 7) (n := 7) hts0 wl_x3_in (hts0 (.instantiable RX3 7) (by decide +kernel))
  obtain ⟨c4, iS4, hKn4⟩ := u_known (C := RX4) (T := TX4) (N := 10) (n := 10) hts0 wl_x4_in (hts0 (.instantiable RX4 10) (by decide +kernel))
  obtain ⟨c5, iS5, hKn5⟩ := u_known (C := RX5) (T := TX5) (N := 13) (n := 13) hts0 wl_x5_in (hts0 (.instantiable RX5 13) (by decide +kernel))
  obtain ⟨c6, iS6, hKn6⟩ := u_known (C := RX6) (T := TX6) (N := 52) (n := 52) hts0 wl_x6_in (hts0 (.instantiable RX6 52) (by decide +kernel))
  obtain ⟨dC, dI, hKcl⟩ : ∃ (dC : Nat → ClassId) (dI : Nat → Nat → Nat), ∀ (k : Nat) (q : vw_C), vwCl[k]? = some q → u_Kn s q.1 q.2.1 q.2.2 (dC k) (dI k) := by
    refine ⟨fun k => if k = 0 then c0 else if k = 1 then c1 else if k = 2 then c2 else if k = 3 then c3 else if k = 4 then c4 else if k = 5 then c5 else c6, fun k => if k = 0 then iS0 else if k = 1 then iS1 else if k = 2 then iS2 else if k = 3 then iS3 else if k = 4 then iS4 else if k = 5 then iS5 else iS6, ?_⟩
    intro k q hq
    match k, hq with
    | 0, hq => cases hq; exact hKn0
    | 1, hq => cases hq; exact hKn1
    | 2, hq => cases hq; exact hKn2
    | 3, hq => cases hq; exact hKn3
    | 4, hq => cases hq; exact hKn4
    | 5, hq => cases hq; exact hKn5
    | 6, hq => cases hq; exact hKn6
    | k + 7, hq => simp [vwCl] at hq
  have hS : va_S (lA s) s.heap s.heap [] := va_S.rf
  have hK : va_K (dC, dI) vwCl [] s := ⟨hKcl, fun k q h => by simp at h⟩
  have hP : va_P (dC, dI) vwCl [] s.heap := lw_nilP
  have hD : va_D (lA s) [] := lw_nilD
  obtain ⟨ad, av, sa, sb, hV, hE, hN⟩ := lw_env C0
  have hl := lv_entry ([.ref b]) (n := 7) (Nat.le_of_ble_eq_true rfl)
  rw [lg_entry_eq]
  generalize (lg_sl ([.ref b]) ++ List.replicate (7 - (lg_sl ([.ref b])).length) Slot.unset).toArray = ls at hl ⊢
  have hl : lv_has ls 7 [(0, .ref b)] := hl
  refine va_new (ci := 5) (fs := [.null, .int 0, .null, .int 0, .int 0, .int 0, .int 0, .null, .int 0, .null, .int 0, .int 0, .null]) (C := RX5) (T := TX5) (N := 13) hx hb hts0 wl_x5_in tyX5 tyX5_ok hown (hts (.classLink RL 8 RX5) (by decide +kernel)) (hts (.instantiable RX5 13) (by decide +kernel)) (hts (.initialized RX5) (by decide +kernel)) hK hP hD hS hA rfl (fun j hj => by rcases (show j = 0 ∨ j = 1 ∨ j = 2 ∨ j = 3 ∨ j = 4 ∨ j = 5 ∨ j = 6 ∨ j = 7 ∨ j = 8 ∨ j = 9 ∨ j = 10 ∨ j = 11 ∨ j = 12 by omega) with rfl | rfl | rfl | rfl | rfl | rfl | rfl | rfl | rfl | rfl | rfl | rfl | rfl <;> rfl) (show (0 + 1 : Nat) ≤ 601024 from by omega) (show (0 + 13 : Nat) ≤ 7293034 from by omega) dL_law_0 (fun h5 H hP hD hS => ?_)
  have hP : va_P (dC, dI) vwCl ([(h5, .inr (5, [.null, .int 0, .null, .int 0, .int 0, .int 0, .int 0, .null, .int 0, .null, .int 0, .int 0, .null]))]) H := hP
  have hD : va_D (lA s) ([(h5, .inr (5, [.null, .int 0, .null, .int 0, .int 0, .int 0, .int 0, .null, .int 0, .null, .int 0, .int 0, .null]))]) := hD
  refine W.widen (k := 1) (n := 13) (by omega) (by omega) ?_
  refine lv_dup hx hb dL_law_3 rfl ?_
  have hPc := hP.sub (ws' := [(h5, .inr (5, [.null, .int 0, .null, .int 0, .int 0, .int 0, .int 0, .null, .int 0, .null, .int 0, .int 0, .null]))]) [0] rfl
  have hDc := hD.sub (ws' := [(h5, .inr (5, [.null, .int 0, .null, .int 0, .int 0, .int 0, .int 0, .null, .int 0, .null, .int 0, .int 0, .null]))]) [0] (by decide) rfl
  have hFc := va_free (wc := [(h5, .inr (5, [.null, .int 0, .null, .int 0, .int 0, .int 0, .int 0, .null, .int 0, .null, .int 0, .int 0, .null]))]) hD hS hA [0] rfl
  refine va_callv (va_runI (As := []) (rest := [.ref h5]) ⟨hx, hb, hml, hown, hts⟩ (c_X5_init l dC dI h5 H.size) (cwI 0 hts gl_X5_init rfl rfl rfl (hts (.initialized RX5) (by decide +kernel)) (hts (.methodLink RL 17 yX5_init) (by decide +kernel)) (hts (.instanceMethod yX5_init) (by decide +kernel)) rfl (by decide +kernel) ⟨Nat.le_of_ble_eq_true rfl, Nat.le_of_ble_eq_true rfl⟩) ⟨fun a U g mk q => by obtain ⟨q0, q1, qP, qK, qD, qE⟩ := q; exact ⟨q0, q1, qP, va_K.moved (u := U) (U := U.calling g mk a) (Vm.Alike.refl U.vm) qK, qD, ⟨va_AO.moved (u := U) (U := U.calling g mk a) (Vm.Alike.refl U.vm) qE.1, va_AO.moved (u := U) (U := U.calling g mk a) (Vm.Alike.refl U.vm) qE.2⟩⟩, fun U hU hW => ⟨rfl, by rw [hU], by rw [hU]; exact hPc, va_K.moved hW.alike hK, hDc.weaken (fun _ _ _ _ => trivial), ⟨va_AO.moved hW.alike hV.1.2.1, va_AO.moved hW.alike hV.1.2.2⟩⟩⟩ rfl rfl hl.1 rfl (lv_room (Nat.le_of_ble_eq_true rfl)) dL_law_4 ⟨show (1 + 5 : Nat) ≤ 601024 from by omega, show (13 + 1048 : Nat) ≤ 7293034 from by omega⟩) hS (fun q _ h => hFc q h) hFc (fun u t H1 locs ht hvm hw hB hz1 hk1 hS => ?_)
  obtain ⟨qT, qF, qN, qR, qC, kT, kF, kN, kR, kC, hP1, hK1, hD1⟩ := hB
  rw [ht] at hP1
  have hKc := va_K.moved hvm.symm hK1
  obtain ⟨hP, hD⟩ := va_join (wr := []) (w1 := (cWf h5 qT qF qN qR qC kT kF kN kR kC)) hP hD [0] [] rfl rfl (by decide) (by decide) hk1 hFc hP1 hD1
  have hP : va_P (dC, dI) vwCl ((cWf h5 qT qF qN qR qC kT kF kN kR kC)) H1 := hP
  have hD : va_D (lA s) ((cWf h5 qT qF qN qR qC kT kF kN kR kC)) := hD
  generalize H1 = H at hP hS ⊢
  refine W.widen (k := 6) (n := 1061) (by omega) (by omega) ?_
  refine lv_astore_n (lv' := [(1, .ref h5), (0, .ref b)]) hx hb dL_law_7 rfl hl (by decide) rfl (fun ls hl => ?_)
  refine va_new (ci := 6) (fs := [.null, .int 0, .int 0, .int 0, .int 0, .null, .null, .null, .null, .null, .null, .null, .null, .int 0, .int 0, .int 0, .null, .int 0, .null, .null, .null, .null, .null, .null, .null, .null, .null, .null, .null, .null, .null, .int 0, .null, .null, .null, .null, .null, .null, .null, .int 0, .int 0, .int 0, .int 0, .int 0, .int 0, .null, .null, .null, .null, .null, .null, .null]) (C := RX6) (T := TX6) (N := 52) hx hb hts0 wl_x6_in tyX6 tyX6_ok hown (hts (.classLink RL 18 RX6) (by decide +kernel)) (hts (.instantiable RX6 52) (by decide +kernel)) (hts (.initialized RX6) (by decide +kernel)) hK hP hD hS hA rfl (fun j hj => by rcases (show j = 0 ∨ j = 1 ∨ j = 2 ∨ j = 3 ∨ j = 4 ∨ j = 5 ∨ j = 6 ∨ j = 7 ∨ j = 8 ∨ j = 9 ∨ j = 10 ∨ j = 11 ∨ j = 12 ∨ j = 13 ∨ j = 14 ∨ j = 15 ∨ j = 16 ∨ j = 17 ∨ j = 18 ∨ j = 19 ∨ j = 20 ∨ j = 21 ∨ j = 22 ∨ j = 23 ∨ j = 24 ∨ j = 25 ∨ j = 26 ∨ j = 27 ∨ j = 28 ∨ j = 29 ∨ j = 30 ∨ j = 31 ∨ j = 32 ∨ j = 33 ∨ j = 34 ∨ j = 35 ∨ j = 36 ∨ j = 37 ∨ j = 38 ∨ j = 39 ∨ j = 40 ∨ j = 41 ∨ j = 42 ∨ j = 43 ∨ j = 44 ∨ j = 45 ∨ j = 46 ∨ j = 47 ∨ j = 48 ∨ j = 49 ∨ j = 50 ∨ j = 51 by omega) with rfl | rfl | rfl | rfl | rfl | rfl | rfl | rfl | rfl | rfl | rfl | rfl | rfl | rfl | rfl | rfl | rfl | rfl | rfl | rfl | rfl | rfl | rfl | rfl | rfl | rfl | rfl | rfl | rfl | rfl | rfl | rfl | rfl | rfl | rfl | rfl | rfl | rfl | rfl | rfl | rfl | rfl | rfl | rfl | rfl | rfl | rfl | rfl | rfl | rfl | rfl | rfl <;> rfl) (show (6 + 1 : Nat) ≤ 601024 from by omega) (show (1061 + 52 : Nat) ≤ 7293034 from by omega) dL_law_8 (fun h6 H hP hD hS => ?_)
  have hP : va_P (dC, dI) vwCl (cWf h5 qT qF qN qR qC kT kF kN kR kC ++ [(h6, .inr (6, [.null, .int 0, .int 0, .int 0, .int 0, .null, .null, .null, .null, .null, .null, .null, .null, .int 0, .int 0, .int 0, .null, .int 0, .null, .null, .null, .null, .null, .null, .null, .null, .null, .null, .null, .null, .null, .int 0, .null, .null, .null, .null, .null, .null, .null, .int 0, .int 0, .int 0, .int 0, .int 0, .int 0, .null, .null, .null, .null, .null, .null, .null]))]) H := hP
  have hD : va_D (lA s) (cWf h5 qT qF qN qR qC kT kF kN kR kC ++ [(h6, .inr (6, [.null, .int 0, .int 0, .int 0, .int 0, .null, .null, .null, .null, .null, .null, .null, .null, .int 0, .int 0, .int 0, .null, .int 0, .null, .null, .null, .null, .null, .null, .null, .null, .null, .null, .null, .null, .null, .int 0, .null, .null, .null, .null, .null, .null, .null, .int 0, .int 0, .int 0, .int 0, .int 0, .int 0, .null, .null, .null, .null, .null, .null, .null]))]) := hD
  refine W.widen (k := 7) (n := 1113) (by omega) (by omega) ?_
  refine lv_dup hx hb dL_law_11 rfl ?_
  have hPc := hP.sub (ws' := [(h6, .inr (6, [.null, .int 0, .int 0, .int 0, .int 0, .null, .null, .null, .null, .null, .null, .null, .null, .int 0, .int 0, .int 0, .null, .int 0, .null, .null, .null, .null, .null, .null, .null, .null, .null, .null, .null, .null, .null, .int 0, .null, .null, .null, .null, .null, .null, .null, .int 0, .int 0, .int 0, .int 0, .int 0, .int 0, .null, .null, .null, .null, .null, .null, .null]))]) [6] rfl
  have hDc := hD.sub (ws' := [(h6, .inr (6, [.null, .int 0, .int 0, .int 0, .int 0, .null, .null, .null, .null, .null, .null, .null, .null, .int 0, .int 0, .int 0, .null, .int 0, .null, .null, .null, .null, .null, .null, .null, .null, .null, .null, .null, .null, .null, .int 0, .null, .null, .null, .null, .null, .null, .null, .int 0, .int 0, .int 0, .int 0, .int 0, .int 0, .null, .null, .null, .null, .null, .null, .null]))]) [6] (by decide) rfl
  have hFc := va_free (wc := [(h6, .inr (6, [.null, .int 0, .int 0, .int 0, .int 0, .null, .null, .null, .null, .null, .null, .null, .null, .int 0, .int 0, .int 0, .null, .int 0, .null, .null, .null, .null, .null, .null, .null, .null, .null, .null, .null, .null, .null, .int 0, .null, .null, .null, .null, .null, .null, .null, .int 0, .int 0, .int 0, .int 0, .int 0, .int 0, .null, .null, .null, .null, .null, .null, .null]))]) hD hS hA [6] rfl
  refine va_callv (va_runI (As := []) (rest := [.ref h6]) ⟨hx, hb, hml, hown, hts⟩ (c_X6_init l dC dI h6 H.size) (cwI 0 hts gl_X6_init rfl rfl rfl (hts (.initialized RX6) (by decide +kernel)) (hts (.methodLink RL 20 yX6_init) (by decide +kernel)) (hts (.instanceMethod yX6_init) (by decide +kernel)) rfl (by decide +kernel) ⟨Nat.le_of_ble_eq_true rfl, Nat.le_of_ble_eq_true rfl⟩) ⟨fun a U g mk q => by obtain ⟨q0, q1, qP, qK, qD⟩ := q; exact ⟨q0, q1, qP, va_K.moved (u := U) (U := U.calling g mk a) (Vm.Alike.refl U.vm) qK, qD⟩, fun U hU hW => ⟨rfl, by rw [hU], by rw [hU]; exact hPc, va_K.moved hW.alike hK, hDc.weaken (fun _ _ _ _ => trivial)⟩⟩ rfl rfl hl.1 rfl (lv_room (Nat.le_of_ble_eq_true rfl)) dL_law_12 ⟨show (7 + 37 : Nat) ≤ 601024 from by omega, show (1113 + 4670 : Nat) ≤ 7293034 from by omega⟩) hS (fun q _ h => hFc q h) hFc (fun u t H1 locs ht hvm hw hB hz1 hk1 hS => ?_)
  obtain ⟨q, cq, fw, fe, ⟨hfw, hfe⟩, hP1, hK1, hD1⟩ := hB
  rw [ht] at hP1
  have hKm := va_K.moved hvm.symm hK1
  obtain ⟨hP, hD⟩ := va_join (wr := (cWf h5 qT qF qN qR qC kT kF kN kR kC)) (w1 := (mWi h6 q cq fw fe)) hP hD [6] [0, 1, 2, 3, 4, 5] rfl rfl (by decide) (by decide) hk1 hFc hP1 hD1
  have hP : va_P (dC, dI) vwCl ((cWf h5 qT qF qN qR qC kT kF kN kR kC) ++ (mWi h6 q cq fw fe)) H1 := hP
  have hD : va_D (lA s) ((cWf h5 qT qF qN qR qC kT kF kN kR kC) ++ (mWi h6 q cq fw fe)) := hD
  generalize H1 = H at hP hS ⊢
  refine W.widen (k := 44) (n := 5783) (by omega) (by omega) ?_
  refine lv_astore_n (lv' := [(2, .ref h6), (1, .ref h5), (0, .ref b)]) hx hb dL_law_15 rfl hl (by decide) rfl (fun ls hl => ?_)
  refine lv_iconst (v := 1) hx hb dL_law_16 (by decide) ?_
  refine va_newa (atype := .long) (ty := .long) (N' := 1) (a0 := (1, .inr (.inl (fun _ => 0)))) hx hb (hts (.arrayClass .long) (by decide +kernel)) rfl hK hP hD hS hA (fun _ => rfl) (by decide +kernel) (by decide +kernel) (by decide +kernel) (show (44 + 1 : Nat) ≤ 601024 from by omega) (show (5783 + 1 : Nat) ≤ 7293034 from by omega) dL_law_17 (fun qo cO H hKo hP hD hS => ?_)
  refine W.widen (k := 45) (n := 5784) (by omega) (by omega) ?_
  refine lv_astore_n (lv' := [(3, .ref qo), (2, .ref h6), (1, .ref h5), (0, .ref b)]) hx hb dL_law_19 rfl hl (by decide) rfl (fun ls hl => ?_)
  refine lv_iconst (v := 0) hx hb dL_law_20 (by decide) ?_
  refine lv_istore (lv' := [(4, .int 0), (3, .ref qo), (2, .ref h6), (1, .ref h5), (0, .ref b)]) hx hb dL_law_21 hl (by decide) rfl (fun ls hl => ?_)
  have hD5 := lq_dl (lq_dl hD)
  have d1 : qT ≠ h5 := fun e => absurd (hD5.1 1 0 _ _ rfl rfl e) (by decide)
  have d2 : qF ≠ h5 := fun e => absurd (hD5.1 2 0 _ _ rfl rfl e) (by decide)
  have d3 : qN ≠ h5 := fun e => absurd (hD5.1 3 0 _ _ rfl rfl e) (by decide)
  have d4 : qR ≠ h5 := fun e => absurd (hD5.1 4 0 _ _ rfl rfl e) (by decide)
  have d5 : qC ≠ h5 := fun e => absurd (hD5.1 5 0 _ _ rfl rfl e) (by decide)
  have d6 : qF ≠ qT := fun e => absurd (hD5.1 2 1 _ _ rfl rfl e) (by decide)
  have d7 : qN ≠ qT := fun e => absurd (hD5.1 3 1 _ _ rfl rfl e) (by decide)
  have d8 : qR ≠ qT := fun e => absurd (hD5.1 4 1 _ _ rfl rfl e) (by decide)
  have d9 : qC ≠ qT := fun e => absurd (hD5.1 5 1 _ _ rfl rfl e) (by decide)
  have d10 : qN ≠ qF := fun e => absurd (hD5.1 3 2 _ _ rfl rfl e) (by decide)
  have d11 : qR ≠ qF := fun e => absurd (hD5.1 4 2 _ _ rfl rfl e) (by decide)
  have d12 : qC ≠ qF := fun e => absurd (hD5.1 5 2 _ _ rfl rfl e) (by decide)
  have d13 : qR ≠ qN := fun e => absurd (hD5.1 4 3 _ _ rfl rfl e) (by decide)
  have d14 : qC ≠ qN := fun e => absurd (hD5.1 5 3 _ _ rfl rfl e) (by decide)
  have d15 : qC ≠ qR := fun e => absurd (hD5.1 5 4 _ _ rfl rfl e) (by decide)
  have eC : kC = kN := Option.some.inj ((hKc.2 4 _ rfl).2.symm.trans (hKc.2 2 _ rfl).2)
  subst eC
  obtain ⟨kE, hkE⟩ := lw_ao hV.1.1
  obtain ⟨cA, a10, a11, a12, a14, a15⟩ : ∃ cA : Nat → ClassId, cA 10 = kT ∧ cA 11 = kC ∧ cA 12 = kR ∧ cA 14 = kF ∧ cA 15 = kE := ⟨fun k => if k = 10 then kT else if k = 11 then kC else if k = 12 then kR else if k = 14 then kF else kE, rfl, rfl, rfl, rfl, rfl⟩
  have eW := cw0 (cA := cA) d1 d2 d3 d4 d5 d6 d7 d8 d9 d10 d11 d12 d13 d14 d15
  rw [a10, a11, a12, a14] at eW
  have hKc2 : va_K (dC, dI) vwCl (cT cA) s := by
    refine ⟨hKcl, fun k x h => ?_⟩
    unfold cT at h
    rw [a10, a11, a12, a14, a15] at h
    match k, h with
    | 0, h => cases h; exact hKc.2 0 _ rfl
    | 1, h => cases h; exact hKc.2 2 _ rfl
    | 2, h => cases h; exact hKc.2 3 _ rfl
    | 3, h => cases h; exact hKc.2 1 _ rfl
    | 4, h => cases h; exact hkE
    | k + 5, h => simp at h
  have hP9 : va_P (dC, dI) vwCl (cW cA [h5, qT, qF, qN, qR, qC] (cK0 h5 qT qF qN qR) (cI0 h5) (cO0 h5 qT qF qN qR qC) ++ (mW h6 q cq mF0 (mG0 fw fe) ++ lOut qo cO (fun _ => 0))) H := by
    rw [eW, ← mW0, ← List.append_assoc]
    exact hP
  have hD9 : va_D (lA s) (cW cA [h5, qT, qF, qN, qR, qC] (cK0 h5 qT qF qN qR) (cI0 h5) (cO0 h5 qT qF qN qR qC) ++ (mW h6 q cq mF0 (mG0 fw fe) ++ lOut qo cO (fun _ => 0))) := by
    rw [eW, ← mW0, ← List.append_assoc]
    exact hD
  have hE9 : lE p s m meth c b L xs (dC, dI) cA cq cO ad av sa sb := ⟨C0, hL, hKc2, hKm, hKo, hV, hE, hN⟩
  have z1 : cI0 h5 h5 1 = 0 := by simp [cI0]
  have z6 : cI0 h5 h5 6 = 0 := by simp [cI0]
  have z8 : cI0 h5 h5 8 = 0 := by simp [cI0]
  have z10 : cI0 h5 h5 10 = 0 := by simp [cI0]
  have z3 : cI0 h5 h5 3 = 0 := by simp [cI0]
  have z11 : cI0 h5 h5 11 = 0 := by simp [cI0]
  have z17 : (mF0 17).toInt = 0 := by decide
  have mG05 : ∀ g : Nat, (mG0 fw fe 5 g).toInt = 0 := fun g => by rw [show mG0 fw fe 5 g = 0 from rfl]; exact mm_z0
  have hRc0 : lRc h5 [h5, qT, qF, qN, qR, qC] (cK0 h5 qT qF qN qR) (cI0 h5) (cO0 h5 qT qF qN qR qC) mF0 (mG0 fw fe) := by
    refine ⟨qR, fun _ => 0, fun _ => 0, fun _ => 0, fun _ _ => 0, ⟨by simp [cO0], by simp, by simp [cK0, d4, d8, d11, d13]⟩, by rw [z11]; decide, fun r hr => ?_, fun r i hr => ?_, fun r v hr hv h0 => ?_, fun r t hr => ?_, fun r t hr => ?_, fun r i t j hr => ?_, fun r hr h8 => ⟨by rw [show mG0 fw fe 27 r = 0 from rfl]; exact mm_z0, by rw [show mG0 fw fe 28 r = 0 from rfl]; exact mm_z0⟩⟩
    · rw [z17] at hr; omega
    · rw [z17] at hr; omega
    · exfalso
      have e9 : mG0 fw fe 30 (16 * r + v) = fe (16 * r + v) := rfl
      rw [e9, hfe, if_pos (by omega)] at h0
      exact absurd h0 (by decide)
    · rw [z17] at hr; omega
    · rw [z17] at hr; omega
    · rw [z17] at hr; omega
  have z31 : (mF0 31).toInt = 0 := by decide
  have z28 : ∀ r : Nat, (mG0 fw fe 28 r).toInt = 0 := fun r => by rw [show mG0 fw fe 28 r = 0 from rfl]; exact mm_z0
  have hXt0 : lXt h5 [h5, qT, qF, qN, qR, qC] (cK0 h5 qT qF qN qR) (cI0 h5) (cO0 h5 qT qF qN qR qC) mF0 (mG0 fw fe) := ⟨fun _ r _ _ _ _ _ hr => by rw [z17] at hr; omega, fun _ r _ _ _ hr => by rw [z17] at hr; omega, fun r hr => by rw [z17] at hr; omega, fun j hj => by rw [z31] at hj; omega, fun j hj => by rw [z31] at hj; omega, fun r _ => by rw [z28, z31]; omega⟩
  have hFb0 : lFb (mG0 fw fe) := fun g _ h5 => absurd (mG05 g) h5
  refine law_loop l hst hE9 513 (i := 0) (by rw [mm_z0]; omega) (by rw [mm_z0]; omega) (by omega) (by omega) ⟨hP9, hD9, hS, cI00 d1 d2 d3 d4 d5 d6 d7 d8 d9 d10 d11 d12 d13 d14 d15, List.mem_cons_self, by simp [cK0], mI0 hfw hfe, mR10 hfe, mR20, mR30, by rw [z1]; decide, by rw [z6]; decide, by rw [z8]; decide, ⟨qT, qF, by simp [cO0], by simp, by simp [cK0, d1], by simp [cO0], fun j hj => by rw [z1, mm_z0] at hj; omega⟩, by rw [z10]; decide, ⟨qF, qR, by simp [cO0], by simp [cO0], by simp, by simp [cK0, d2, d6], fun g hg => Or.inl ⟨by simp [cO0, d2], mG05 g⟩⟩, by rw [z3]; decide, hRc0, hXt0, hFb0, ⟨qN, by simp [cO0], by simp, by simp [cK0, d3, d7, d10], fun j hj => by rw [show (mF0 15).toInt = 0 from by decide] at hj; omega⟩⟩ hl
