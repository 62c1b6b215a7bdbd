theorem wl_x0_in : ∀ w ∈ wsX00, w ∈ lw_tbl := by decide +kernel
theorem wl_x1_in : ∀ w ∈ wsX10, w ∈ lw_tbl := by decide +kernel
theorem wl_x2_in : ∀ w ∈ wsX20, w ∈ lw_tbl := by decide +kernel
theorem wl_x3_in : ∀ w ∈ wsX30, w ∈ lw_tbl := by decide +kernel
set_option maxHeartbeats 4000000 in
set_option maxRecDepth 100000 in
theorem whole_start {p : Program} {e : Env} {s : State} {m : MethodId} {below : List Frame} {meth : Method} {c : Code} (l : Launch) (hst : l.stackTraces = false) {b L : Nat} {xs : Nat → Int32} (hL : L ≤ 6) (C0 : lw_At p s m meth c b L xs) : W p l e room_1 s m #[Value.ref b] below meth c s.heap [] 0 0 (lw_Z below #[Value.ref b] s) (entryFrame m ([Value.ref b] : List Value).toArray 7) := by
  obtain ⟨hx, hb, hr, hml, hown, hts0, hX, hbl, hlocks, hgv⟩ := id C0
  have hts := fun w h => hts0 w (wl_in w h)
  have hA : ∀ q : Nat, s.heap.size ≤ q → (fun q : Nat => s.heap.size ≤ q) q := fun _ h => h
  have hbA : ¬ (fun q : Nat => s.heap.size ≤ q) b := Nat.not_le.mpr hbl
  obtain ⟨c0, iS0, hKn0⟩ := u_known (C := RX0) (T := TX0) (N := 10) (n := 10) hts0 wl_x0_in (hts0 (.instantiable RX0 10) (by decide +kernel))
  obtain ⟨c1, iS1, hKn1⟩ := u_known (C := RX1) (T := TX1) (N := 5) (n := 5) hts0 wl_x1_in (hts0 (.instantiable RX1 5) (by decide +kernel))
  obtain ⟨c2, iS2, hKn2⟩ := u_known (C := RX2) (T := TX2) (N := 8) (n := 8) hts0 wl_x2_in (hts0 (.instantiable RX2 8) (by decide +kernel))
  obtain ⟨c3, iS3, hKn3⟩ := u_known (C := RX3) (T := TX3) (N := 7) (n := 7) hts0 wl_x3_in (hts0 (.instantiable RX3 7) (by decide +kernel))
  obtain ⟨c4, iS4, hKn4⟩ := u_known (C := RX4) (T := TX4) (N := 10) (n := 10) hts0 wl_x4_in (hts0 (.instantiable RX4 10) (by decide +kernel))
  obtain ⟨c5, iS5, hKn5⟩ := u_known (C := RX5) (T := TX5) (N := 13) (n := 13) hts0 wl_x5_in (hts0 (.instantiable RX5 13) (by decide +kernel))
  obtain ⟨c6, iS6, hKn6⟩ := u_known (C := RX6) (T := TX6) (N := 52) (n := 52) hts0 wl_x6_in (hts0 (.instantiable RX6 52) (by decide +kernel))
  obtain ⟨dC, dI, hKcl⟩ : ∃ (dC : Nat → ClassId) (dI : Nat → Nat → Nat), ∀ (k : Nat) (q : vw_C), vwCl[k]? = some q → u_Kn s q.1 q.2.1 q.2.2 (dC k) (dI k) := by
    refine ⟨fun k => if k = 0 then c0 else if k = 1 then c1 else if k = 2 then c2 else if k = 3 then c3 else if k = 4 then c4 else if k = 5 then c5 else c6, fun k => if k = 0 then iS0 else if k = 1 then iS1 else if k = 2 then iS2 else if k = 3 then iS3 else if k = 4 then iS4 else if k = 5 then iS5 else iS6, ?_⟩
    intro k q hq
    match k, hq with
    | 0, hq => cases hq; exact hKn0
    | 1, hq => cases hq; exact hKn1
    | 2, hq => cases hq; exact hKn2
    | 3, hq => cases hq; exact hKn3
    | 4, hq => cases hq; exact hKn4
    | 5, hq => cases hq; exact hKn5
    | 6, hq => cases hq; exact hKn6
    | k + 7, hq => simp [vwCl] at hq
  have hS : va_S (fun q : Nat => s.heap.size ≤ q) s.heap s.heap [] := va_S.rf
  have hK : va_K (dC, dI) vwCl [] s := ⟨hKcl, fun k q h => by simp at h⟩
  have hP : va_P (dC, dI) vwCl [] s.heap := lw_nilP
  have hD : va_D (fun q : Nat => s.heap.size ≤ q) [] := lw_nilD
  have hAO2 : va_AO RX2 s := va_AO.of (hts0 (.arrayOver (.object RX2)) (by decide +kernel))
  have hAO3 : va_AO RX3 s := va_AO.of (hts0 (.arrayOver (.object RX3)) (by decide +kernel))
  have hflat := flat_of_before _ hgv
  obtain ⟨sa, _, _, _, hsa, -⟩ := Cond.exactly_spec (hflat (.exactly (.string RX5 136) "java/lang/String") (by decide +kernel))
  have hE : lkE sa (fun q : Nat => s.heap.size ≤ q) s := ⟨vk_R.of (hts0 (.stringRef RX5 136 "no such race") (by decide +kernel)) hsa, va_Nw.of rfl (hts0 (.castable "java/lang/IndexOutOfBoundsException" "java/lang/IndexOutOfBoundsException") (by decide +kernel)), va_Nw.of rfl (hts0 (.declares (Bundle.initS "java/lang/RuntimeException")) (by decide +kernel)), va_Nw.of rfl (hts0 (.declares (Bundle.initS "java/lang/Exception")) (by decide +kernel)), va_Nw.of rfl (hts0 (.declares (Bundle.initS Bundle.tN)) (by decide +kernel)), vx_Zqof (hts0 (.laysStatic Bundle.tN "UNASSIGNED_STACK" Bundle.steD) (by decide +kernel)) (hts0 (.initialized Bundle.tN) (by decide +kernel)) (hflat (.isRef (.static Bundle.tN "UNASSIGNED_STACK" Bundle.steD)) (by decide +kernel)) (fun a h => Nat.not_le.mpr h), vx_Zqof (hts0 (.laysStatic Bundle.tN "SUPPRESSED_SENTINEL" Bundle.listD) (by decide +kernel)) (hts0 (.initialized Bundle.tN) (by decide +kernel)) (hflat (.isRef (.static Bundle.tN "SUPPRESSED_SENTINEL" Bundle.listD)) (by decide +kernel)) (fun a h => Nat.not_le.mpr h)⟩
  have hl := lv_entry ([.ref b]) (n := 7) (Nat.le_of_ble_eq_true rfl)
  rw [lg_entry_eq]
  generalize (lg_sl ([.ref b]) ++ List.replicate (7 - (lg_sl ([.ref b])).length) Slot.unset).toArray = ls at hl ⊢
  have hl : lv_has ls 7 [(0, .ref b)] := hl
  refine va_new (ci := 5) (fs := [.null, .int 0, .null, .int 0, .int 0, .int 0, .int 0, .null, .int 0, .null, .int 0, .int 0, .null]) (C := RX5) (T := TX5) (N := 13) hx hb hts0 wl_x5_in tyX5 tyX5_ok hown (hts (.classLink RL 8 RX5) (by decide +kernel)) (hts (.instantiable RX5 13) (by decide +kernel)) (hts (.initialized RX5) (by decide +kernel)) hK hP hD hS hA rfl (fun j hj => by rcases (show j = 0 ∨ j = 1 ∨ j = 2 ∨ j = 3 ∨ j = 4 ∨ j = 5 ∨ j = 6 ∨ j = 7 ∨ j = 8 ∨ j = 9 ∨ j = 10 ∨ j = 11 ∨ j = 12 by omega) with rfl | rfl | rfl | rfl | rfl | rfl | rfl | rfl | rfl | rfl | rfl | rfl | rfl <;> rfl) (show (0 + 1 : Nat) ≤ 600002 from by omega) (show (0 + 13 : Nat) ≤ 7302232 from by omega) dL_law_0 (fun h5 H hP hD hS => ?_)
  have hP : va_P (dC, dI) vwCl ([(h5, .inr (5, [.null, .int 0, .null, .int 0, .int 0, .int 0, .int 0, .null, .int 0, .null, .int 0, .int 0, .null]))]) H := hP
  have hD : va_D (fun q : Nat => s.heap.size ≤ q) ([(h5, .inr (5, [.null, .int 0, .null, .int 0, .int 0, .int 0, .int 0, .null, .int 0, .null, .int 0, .int 0, .null]))]) := hD
  refine W.widen (k := 1) (n := 13) (by omega) (by omega) ?_
  refine lv_dup hx hb dL_law_3 rfl ?_
  have hPc := hP.sub (ws' := [(h5, .inr (5, [.null, .int 0, .null, .int 0, .int 0, .int 0, .int 0, .null, .int 0, .null, .int 0, .int 0, .null]))]) [0] rfl
  have hDc := hD.sub (ws' := [(h5, .inr (5, [.null, .int 0, .null, .int 0, .int 0, .int 0, .int 0, .null, .int 0, .null, .int 0, .int 0, .null]))]) [0] (by decide) rfl
  have hFc := va_free (wc := [(h5, .inr (5, [.null, .int 0, .null, .int 0, .int 0, .int 0, .int 0, .null, .int 0, .null, .int 0, .int 0, .null]))]) hD hS hA [0] rfl
  refine va_callv (va_runI (As := []) (rest := [.ref h5]) ⟨hx, hb, hml, hown, hts⟩ (c_X5_init l dC dI h5 H.size) (cwI 0 hts gl_X5_init rfl rfl rfl (hts (.initialized RX5) (by decide +kernel)) (hts (.methodLink RL 17 yX5_init) (by decide +kernel)) (hts (.instanceMethod yX5_init) (by decide +kernel)) rfl (by decide +kernel) ⟨Nat.le_of_ble_eq_true rfl, Nat.le_of_ble_eq_true rfl⟩) ⟨fun a U g mk q => by obtain ⟨q0, q1, qP, qK, qD, qE⟩ := q; exact ⟨q0, q1, qP, va_K.moved (u := U) (U := U.calling g mk a) (Vm.Alike.refl U.vm) qK, qD, ⟨va_AO.moved (u := U) (U := U.calling g mk a) (Vm.Alike.refl U.vm) qE.1, va_AO.moved (u := U) (U := U.calling g mk a) (Vm.Alike.refl U.vm) qE.2⟩⟩, fun U hU hW => ⟨rfl, by rw [hU], by rw [hU]; exact hPc, va_K.moved hW.alike hK, hDc.weaken (fun _ _ _ _ => trivial), ⟨va_AO.moved hW.alike hAO2, va_AO.moved hW.alike hAO3⟩⟩⟩ rfl rfl hl.1 rfl (lv_room (Nat.le_of_ble_eq_true rfl)) dL_law_4 ⟨show (1 + 5 : Nat) ≤ 600002 from by omega, show (13 + 1048 : Nat) ≤ 7302232 from by omega⟩) hS (fun q _ h => hFc q h) hFc (fun u t H1 locs ht hvm hw hB hz1 hk1 hS => ?_)
  obtain ⟨qT, qF, qN, qR, qC, cT, cF, cN, cR, cC, hP1, hK1, hD1⟩ := hB
  rw [ht] at hP1
  have hKc := va_K.moved hvm.symm hK1
  obtain ⟨hP, hD⟩ := va_join (wr := []) (w1 := (cW h5 qT qF qN qR qC cT cF cN cR cC)) hP hD [0] [] rfl rfl (by decide) (by decide) hk1 hFc hP1 hD1
  have hP : va_P (dC, dI) vwCl ((cW h5 qT qF qN qR qC cT cF cN cR cC)) H1 := hP
  have hD : va_D (fun q : Nat => s.heap.size ≤ q) ((cW h5 qT qF qN qR qC cT cF cN cR cC)) := hD
  generalize H1 = H at hP hS ⊢
  refine W.widen (k := 6) (n := 1061) (by omega) (by omega) ?_
  refine lv_astore_n (lv' := [(1, .ref h5), (0, .ref b)]) hx hb dL_law_7 rfl hl (by decide) rfl (fun ls hl => ?_)
  refine va_new (ci := 6) (fs := [.null, .int 0, .int 0, .int 0, .int 0, .null, .null, .null, .null, .null, .null, .null, .null, .int 0, .int 0, .int 0, .null, .int 0, .null, .null, .null, .null, .null, .null, .null, .null, .null, .null, .null, .null, .null, .int 0, .null, .null, .null, .null, .null, .null, .null, .int 0, .int 0, .int 0, .int 0, .int 0, .int 0, .null, .null, .null, .null, .null, .null, .null]) (C := RX6) (T := TX6) (N := 52) hx hb hts0 wl_x6_in tyX6 tyX6_ok hown (hts (.classLink RL 18 RX6) (by decide +kernel)) (hts (.instantiable RX6 52) (by decide +kernel)) (hts (.initialized RX6) (by decide +kernel)) hK hP hD hS hA rfl (fun j hj => by rcases (show j = 0 ∨ j = 1 ∨ j = 2 ∨ j = 3 ∨ j = 4 ∨ j = 5 ∨ j = 6 ∨ j = 7 ∨ j = 8 ∨ j = 9 ∨ j = 10 ∨ j = 11 ∨ j = 12 ∨ j = 13 ∨ j = 14 ∨ j = 15 ∨ j = 16 ∨ j = 17 ∨ j = 18 ∨ j = 19 ∨ j = 20 ∨ j = 21 ∨ j = 22 ∨ j = 23 ∨ j = 24 ∨ j = 25 ∨ j = 26 ∨ j = 27 ∨ j = 28 ∨ j = 29 ∨ j = 30 ∨ j = 31 ∨ j = 32 ∨ j = 33 ∨ j = 34 ∨ j = 35 ∨ j = 36 ∨ j = 37 ∨ j = 38 ∨ j = 39 ∨ j = 40 ∨ j = 41 ∨ j = 42 ∨ j = 43 ∨ j = 44 ∨ j = 45 ∨ j = 46 ∨ j = 47 ∨ j = 48 ∨ j = 49 ∨ j = 50 ∨ j = 51 by omega) with rfl | rfl | rfl | rfl | rfl | rfl | rfl | rfl | rfl | rfl | rfl | rfl | rfl | rfl | rfl | rfl | rfl | rfl | rfl | rfl | rfl | rfl | rfl | rfl | rfl | rfl | rfl | rfl | rfl | rfl | rfl | rfl | rfl | rfl | rfl | rfl | rfl | rfl | rfl | rfl | rfl | rfl | rfl | rfl | rfl | rfl | rfl | rfl | rfl | rfl | rfl | rfl <;> rfl) (show (6 + 1 : Nat) ≤ 600002 from by omega) (show (1061 + 52 : Nat) ≤ 7302232 from by omega) dL_law_8 (fun h6 H hP hD hS => ?_)
  have hP : va_P (dC, dI) vwCl (cW h5 qT qF qN qR qC cT cF cN cR cC ++ [(h6, .inr (6, [.null, .int 0, .int 0, .int 0, .int 0, .null, .null, .null, .null, .null, .null, .null, .null, .int 0, .int 0, .int 0, .null, .int 0, .null, .null, .null, .null, .null, .null, .null, .null, .null, .null, .null, .null, .null, .int 0, .null, .null, .null, .null, .null, .null, .null, .int 0, .int 0, .int 0, .int 0, .int 0, .int 0, .null, .null, .null, .null, .null, .null, .null]))]) H := hP
  have hD : va_D (fun q : Nat => s.heap.size ≤ q) (cW h5 qT qF qN qR qC cT cF cN cR cC ++ [(h6, .inr (6, [.null, .int 0, .int 0, .int 0, .int 0, .null, .null, .null, .null, .null, .null, .null, .null, .int 0, .int 0, .int 0, .null, .int 0, .null, .null, .null, .null, .null, .null, .null, .null, .null, .null, .null, .null, .null, .int 0, .null, .null, .null, .null, .null, .null, .null, .int 0, .int 0, .int 0, .int 0, .int 0, .int 0, .null, .null, .null, .null, .null, .null, .null]))]) := hD
  refine W.widen (k := 7) (n := 1113) (by omega) (by omega) ?_
  refine lv_dup hx hb dL_law_11 rfl ?_
  have hPc := hP.sub (ws' := [(h6, .inr (6, [.null, .int 0, .int 0, .int 0, .int 0, .null, .null, .null, .null, .null, .null, .null, .null, .int 0, .int 0, .int 0, .null, .int 0, .null, .null, .null, .null, .null, .null, .null, .null, .null, .null, .null, .null, .null, .int 0, .null, .null, .null, .null, .null, .null, .null, .int 0, .int 0, .int 0, .int 0, .int 0, .int 0, .null, .null, .null, .null, .null, .null, .null]))]) [6] rfl
  have hDc := hD.sub (ws' := [(h6, .inr (6, [.null, .int 0, .int 0, .int 0, .int 0, .null, .null, .null, .null, .null, .null, .null, .null, .int 0, .int 0, .int 0, .null, .int 0, .null, .null, .null, .null, .null, .null, .null, .null, .null, .null, .null, .null, .null, .int 0, .null, .null, .null, .null, .null, .null, .null, .int 0, .int 0, .int 0, .int 0, .int 0, .int 0, .null, .null, .null, .null, .null, .null, .null]))]) [6] (by decide) rfl
  have hFc := va_free (wc := [(h6, .inr (6, [.null, .int 0, .int 0, .int 0, .int 0, .null, .null, .null, .null, .null, .null, .null, .null, .int 0, .int 0, .int 0, .null, .int 0, .null, .null, .null, .null, .null, .null, .null, .null, .null, .null, .null, .null, .null, .int 0, .null, .null, .null, .null, .null, .null, .null, .int 0, .int 0, .int 0, .int 0, .int 0, .int 0, .null, .null, .null, .null, .null, .null, .null]))]) hD hS hA [6] rfl
  refine va_callv (va_runI (As := []) (rest := [.ref h6]) ⟨hx, hb, hml, hown, hts⟩ (c_X6_init l dC dI h6 H.size) (cwI 0 hts gl_X6_init rfl rfl rfl (hts (.initialized RX6) (by decide +kernel)) (hts (.methodLink RL 20 yX6_init) (by decide +kernel)) (hts (.instanceMethod yX6_init) (by decide +kernel)) rfl (by decide +kernel) ⟨Nat.le_of_ble_eq_true rfl, Nat.le_of_ble_eq_true rfl⟩) ⟨fun a U g mk q => by obtain ⟨q0, q1, qP, qK, qD⟩ := q; exact ⟨q0, q1, qP, va_K.moved (u := U) (U := U.calling g mk a) (Vm.Alike.refl U.vm) qK, qD⟩, fun U hU hW => ⟨rfl, by rw [hU], by rw [hU]; exact hPc, va_K.moved hW.alike hK, hDc.weaken (fun _ _ _ _ => trivial)⟩⟩ rfl rfl hl.1 rfl (lv_room (Nat.le_of_ble_eq_true rfl)) dL_law_12 ⟨show (7 + 37 : Nat) ≤ 600002 from by omega, show (1113 + 4670 : Nat) ≤ 7302232 from by omega⟩) hS (fun q _ h => hFc q h) hFc (fun u t H1 locs ht hvm hw hB hz1 hk1 hS => ?_)
  obtain ⟨q, cq, fw, fe, hP1, hK1, hD1⟩ := hB
  rw [ht] at hP1
  have hKm := va_K.moved hvm.symm hK1
  obtain ⟨hP, hD⟩ := va_join (wr := (cW h5 qT qF qN qR qC cT cF cN cR cC)) (w1 := (mW h6 q cq fw fe)) hP hD [6] [0, 1, 2, 3, 4, 5] rfl rfl (by decide) (by decide) hk1 hFc hP1 hD1
  have hP : va_P (dC, dI) vwCl ((cW h5 qT qF qN qR qC cT cF cN cR cC) ++ (mW h6 q cq fw fe)) H1 := hP
  have hD : va_D (fun q : Nat => s.heap.size ≤ q) ((cW h5 qT qF qN qR qC cT cF cN cR cC) ++ (mW h6 q cq fw fe)) := hD
  generalize H1 = H at hP hS ⊢
  refine W.widen (k := 44) (n := 5783) (by omega) (by omega) ?_
  refine lv_astore_n (lv' := [(2, .ref h6), (1, .ref h5), (0, .ref b)]) hx hb dL_law_15 rfl hl (by decide) rfl (fun ls hl => ?_)
  refine lv_iconst (v := 1) hx hb dL_law_16 (by decide) ?_
  refine va_newa (atype := .long) (ty := .long) (N' := 1) (a0 := (1, .inr (.inl (fun _ => 0)))) hx hb (hts (.arrayClass .long) (by decide +kernel)) rfl hK hP hD hS hA (fun _ => rfl) (by decide +kernel) (by decide +kernel) (by decide +kernel) (show (44 + 1 : Nat) ≤ 600002 from by omega) (show (5783 + 1 : Nat) ≤ 7302232 from by omega) dL_law_17 (fun qo cO H hKo hP hD hS => ?_)
  have hP := lw_left hP
  have hD := lw_leftD hD
  refine W.widen (k := 45) (n := 5784) (by omega) (by omega) ?_
  refine lv_astore_n (lv' := [(3, .ref qo), (2, .ref h6), (1, .ref h5), (0, .ref b)]) hx hb dL_law_19 rfl hl (by decide) rfl (fun ls hl => ?_)
  refine lv_iconst (v := 0) hx hb dL_law_20 (by decide) ?_
  refine lv_istore (lv' := [(4, .int 0), (3, .ref qo), (2, .ref h6), (1, .ref h5), (0, .ref b)]) hx hb dL_law_21 hl (by decide) rfl (fun ls hl => ?_)
  refine lv_iload hx hb dL_law_23 (lv_at hl 0 rfl) ?_
  refine lv_aload_n hx hb dL_law_25 rfl (lv_at hl 4 rfl) ?_
  refine va_slen hx hb hX hbl hbA hS dL_law_26 ?_
  refine lv_bipush (v := 6) hx hb dL_law_27 (by decide) ?_
  refine lv_isub hx hb dL_law_29 ?_
  by_cases hL6 : L = 6
  · subst hL6
    refine lv_icmp_gt (tgt := 862) hx hb dL_law_30 (by decide) (fun c_1 => absurd c_1 (by decide)) (fun _ => ?_)
    refine lv_aload_n hx hb dL_law_33 rfl (lv_at hl 4 rfl) ?_
    refine lv_iload hx hb dL_law_34 (lv_at hl 0 rfl) ?_
    refine va_sld hx hb hX hbl hbA hS (by unfold vp_in; decide) dL_law_36 ?_
    refine lv_bipush (v := 31) hx hb dL_law_37 (by decide) ?_
    refine lv_iand hx hb dL_law_39 ?_
    obtain ⟨j, hj, ej⟩ := pk_andE (xs (Int32.toNatClampNeg 0)) (m := 31) 5 (by decide)
    rw [ej]
    have hcs : j = 0 ∨ j = 1 ∨ j = 2 ∨ j = 3 ∨ j = 4 ∨ j = 5 ∨ j = 6 ∨ j = 7 ∨ j = 8 ∨ j = 9 ∨ j = 10 ∨ j = 11 ∨ j = 12 ∨ j = 13 ∨ j = 14 ∨ j = 15 ∨ j = 16 ∨ 17 ≤ j := by omega
    rcases hcs with rfl | rfl | rfl | rfl | rfl | rfl | rfl | rfl | rfl | rfl | rfl | rfl | rfl | rfl | rfl | rfl | rfl | h17
    · refine lv_tableIn (tgt := 124) (off := 84) hx hb dL_law_40 (by decide) (by decide) (by decide) (by decide) ?_
      exact law_case_0 l C0 hKc hKm hP hD hS hl
    · refine lv_tableIn (tgt := 197) (off := 157) hx hb dL_law_40 (by decide) (by decide) (by decide) (by decide) ?_
      exact law_case_1 l C0 hKc hKm hP hD hS hl hAO2
    · refine lv_tableIn (tgt := 222) (off := 182) hx hb dL_law_40 (by decide) (by decide) (by decide) (by decide) ?_
      exact law_case_2 l C0 hKc hKm hP hD hS hl
    · refine lv_tableIn (tgt := 247) (off := 207) hx hb dL_law_40 (by decide) (by decide) (by decide) (by decide) ?_
      exact law_case_3 l C0 hKc hKm hP hD hS hl
    · refine lv_tableIn (tgt := 272) (off := 232) hx hb dL_law_40 (by decide) (by decide) (by decide) (by decide) ?_
      exact law_case_4 l C0 hKc hKm hP hD hS hl
    · refine lv_tableIn (tgt := 297) (off := 257) hx hb dL_law_40 (by decide) (by decide) (by decide) (by decide) ?_
      exact law_case_5 l C0 hKc hKm hP hD hS hl
    · refine lv_tableIn (tgt := 334) (off := 294) hx hb dL_law_40 (by decide) (by decide) (by decide) (by decide) ?_
      exact law_case_6 l C0 hKc hKm hP hD hS hl
    · refine lv_tableIn (tgt := 371) (off := 331) hx hb dL_law_40 (by decide) (by decide) (by decide) (by decide) ?_
      exact law_case_7 l C0 hKc hKm hP hD hS hl
    · refine lv_tableIn (tgt := 444) (off := 404) hx hb dL_law_40 (by decide) (by decide) (by decide) (by decide) ?_
      exact law_case_8 l C0 hst hKc hKm hP hD hS hl hE
    · refine lv_tableIn (tgt := 512) (off := 472) hx hb dL_law_40 (by decide) (by decide) (by decide) (by decide) ?_
      exact law_case_9 l C0 hKc hKm hP hD hS hl
    · refine lv_tableIn (tgt := 549) (off := 509) hx hb dL_law_40 (by decide) (by decide) (by decide) (by decide) ?_
      exact law_case_10 l C0 hKc hKm hP hD hS hl
    · refine lv_tableIn (tgt := 610) (off := 570) hx hb dL_law_40 (by decide) (by decide) (by decide) (by decide) ?_
      exact law_case_11 l C0 hKc hKm hP hD hS hl
    · refine lv_tableIn (tgt := 671) (off := 631) hx hb dL_law_40 (by decide) (by decide) (by decide) (by decide) ?_
      exact law_case_12 l C0 hKc hKm hP hD hS hl
    · refine lv_tableIn (tgt := 720) (off := 680) hx hb dL_law_40 (by decide) (by decide) (by decide) (by decide) ?_
      exact law_case_13 l C0 hKc hKm hP hD hS hl
    · refine lv_tableIn (tgt := 757) (off := 717) hx hb dL_law_40 (by decide) (by decide) (by decide) (by decide) ?_
      exact law_case_14 l C0 hKc hKm hP hD hS hl
    · refine lv_tableIn (tgt := 794) (off := 754) hx hb dL_law_40 (by decide) (by decide) (by decide) (by decide) ?_
      exact law_case_15 l C0 hKc hKm hP hD hS hl
    · refine lv_tableIn (tgt := 831) (off := 791) hx hb dL_law_40 (by decide) (by decide) (by decide) (by decide) ?_
      exact law_case_16 l C0 hKc hKm hP hD hS hl
    · refine lv_tableOut (tgt := 856) hx hb dL_law_40 (Or.inr (by rw [nI_toInt (show j < 2 ^ 31 by omega)]; omega)) (by decide) ?_
      exact law_tail l C0 (by omega) (by omega) hS hl rfl
  · have hlt : L < 6 := by omega
    refine lv_icmp_gt (tgt := 862) hx hb dL_law_30 (by decide) (fun _ => ?_) (fun c_1 => absurd (pk_sneg (a := L) (b := 6) (by decide) hlt) c_1)
    refine lv_iconst (v := 1) hx hb dL_law_862 (by decide) ?_
    refine va_forget (fun q hq => hS.2.2 q hq) ?_
    refine W.widen (k := 600002) (n := 7302232) (by omega) (by omega) ?_
    exact lw_ret hx hb hr hlocks dL_law_863
