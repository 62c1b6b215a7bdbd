set_option maxHeartbeats 4000000 in
set_option maxRecDepth 100000 in
theorem law_case_6 {p : Program} {e : Env} {s : State} {m : MethodId} {below : List Frame} {meth : Method} {c : Code} (l : Launch) {b : Nat} {xs : Nat → Int32} (C0 : lw_At p s m meth c b 6 xs)  {dC : Nat → ClassId} {dI : Nat → Nat → Nat} {h5 qT qF qN qR qC h6 qo : Nat} {cT cF cN cR cC : ClassId} {q : Nat → Nat} {cq : Nat → ClassId} {fw fe : Nat → Int32} (hKc : va_K (dC, dI) vwCl (cTy cT cF cN cR cC) s) (hKm : va_K (dC, dI) vwCl (mT cq) s) {H : Heap} {locs : List Loc} (hP : va_P (dC, dI) vwCl (cW h5 qT qF qN qR qC cT cF cN cR cC ++ mW h6 q cq fw fe) H) (hD : va_D (fun q : Nat => s.heap.size ≤ q) (cW h5 qT qF qN qR qC cT cF cN cR cC ++ mW h6 q cq fw fe)) (hS : va_S (fun q : Nat => s.heap.size ≤ q) s.heap H locs) {ls : Array Slot} (hl : lv_has ls 7 [(4, .int 0), (3, .ref qo), (2, .ref h6), (1, .ref h5), (0, .ref b)]) : W p l e room_1 s m #[Value.ref b] below meth c H locs 45 5784 (lw_Z below #[Value.ref b] s) (F0 m 334 ls []) := by
  obtain ⟨hx, hb, hr, hml, hown, hts, hX, hbl, hlocks, hgv⟩ := id C0
  have hts := fun w h => hts w (wl_in w h)
  have hA : ∀ q : Nat, s.heap.size ≤ q → (fun q : Nat => s.heap.size ≤ q) q := fun _ h => h
  have hbA : ¬ (fun q : Nat => s.heap.size ≤ q) b := Nat.not_le.mpr hbl
  refine lv_aload_n hx hb dL_law_334 rfl (lv_at hl 3 rfl) ?_
  refine lv_aload_n hx hb dL_law_335 rfl (lv_at hl 4 rfl) ?_
  refine lv_iload hx hb dL_law_336 (lv_at hl 0 rfl) ?_
  refine lv_iconst (v := 1) hx hb dL_law_338 (by decide) ?_
  refine lv_iadd hx hb dL_law_339 ?_
  rw [show ((0 : Int32) + 1) = 1 from by decide]
  refine va_sld hx hb hX hbl hbA hS (by unfold vp_in; decide) dL_law_340 ?_
  refine lv_aload_n hx hb dL_law_341 rfl (lv_at hl 4 rfl) ?_
  refine lv_iload hx hb dL_law_342 (lv_at hl 0 rfl) ?_
  refine lv_iconst (v := 2) hx hb dL_law_344 (by decide) ?_
  refine lv_iadd hx hb dL_law_345 ?_
  rw [show ((0 : Int32) + 2) = 2 from by decide]
  refine va_sld hx hb hX hbl hbA hS (by unfold vp_in; decide) dL_law_346 ?_
  have hPc := hP.sub (ws' := [(h5, .inr (5, [.ref qT, .int 0, .ref qF, .int 0, .int 0, .int ((-1)), .int 0, .ref qN, .int 0, .ref qR, .int 0, .int 0, .ref qC]))]) [0] rfl
  have hDc := hD.sub (ws' := [(h5, .inr (5, [.ref qT, .int 0, .ref qF, .int 0, .int 0, .int ((-1)), .int 0, .ref qN, .int 0, .ref qR, .int 0, .int 0, .ref qC]))]) [0] (by decide) rfl
  have hKk := hKc.sub (tys' := []) [] rfl
  have hFc := va_free (wc := [(h5, .inr (5, [.ref qT, .int 0, .ref qF, .int 0, .int 0, .int ((-1)), .int 0, .ref qN, .int 0, .ref qR, .int 0, .int 0, .ref qC]))]) hD hS hA [0] rfl
  refine va_calli (va_runV (As := [.int (xs (Int32.toNatClampNeg 1)), .int (xs (Int32.toNatClampNeg 2))]) (rest := []) ⟨hx, hb, hml, hown, hts⟩ (c_X5_enter l dC dI h5 qT qF qN qR qC (xs (Int32.toNatClampNeg 1)) (xs (Int32.toNatClampNeg 2)) H.size) (cwV 2 hts gl_X5_enter rfl rfl rfl (by decide +kernel) ⟨Nat.le_of_ble_eq_true rfl, Nat.le_of_ble_eq_true rfl⟩) ⟨fun a U g mk q => by obtain ⟨q0, q1, qP, qK, qD⟩ := q; exact ⟨q0, q1, qP, va_K.moved (u := U) (U := U.calling g mk a) (Vm.Alike.refl U.vm) qK, qD⟩, va_recv hKk hPc (ci := 5) (q0 := 0) rfl rfl, fun U hU hW => ⟨rfl, by rw [hU], by rw [hU]; exact hPc, va_K.moved hW.alike hKk, hDc.weaken (fun _ _ _ _ => trivial)⟩⟩ rfl rfl hl.1 rfl (lv_room (Nat.le_of_ble_eq_true rfl)) dL_law_347 ⟨show (45 + 0 : Nat) ≤ 600002 from by omega, show (5784 + 0 : Nat) ≤ 7302232 from by omega⟩) hS (fun q _ h => hFc q h) hFc (fun r_1 u t H1 locs ht hvm hw1 hB hz1 hk1 hS => ?_)
  refine W.widen (k := 45) (n := 5784) (by omega) (by omega) ?_
  try dsimp only at hw1
  obtain ⟨hP, hD⟩ := va_join (wr := [(h6, .inr (6, [.ref ((q 0)), .int 0, .int 0, .int 0, .int 0, .ref ((q 5)), .ref ((q 6)), .ref ((q 7)), .ref ((q 8)), .ref ((q 9)), .ref ((q 10)), .ref ((q 11)), .ref ((q 12)), .int 0, .int ((-1)), .int 0, .ref ((q 16)), .int 0, .ref ((q 18)), .ref ((q 19)), .ref ((q 20)), .ref ((q 21)), .ref ((q 22)), .ref ((q 23)), .ref ((q 24)), .ref ((q 25)), .ref ((q 26)), .ref ((q 27)), .ref ((q 28)), .ref ((q 29)), .ref ((q 30)), .int 0, .ref ((q 32)), .ref ((q 33)), .ref ((q 34)), .ref ((q 35)), .ref ((q 36)), .ref ((q 37)), .ref ((q 38)), .int 0, .int 0, .int 0, .int 0, .int 0, .int 0, .ref ((q 45)), .ref ((q 46)), .ref ((q 47)), .ref ((q 48)), .ref ((q 49)), .ref ((q 50)), .ref ((q 51))]))]) (w1 := []) hP hD [0] [6] rfl rfl (by decide) (by decide) hk1 hFc lw_nilP lw_nilD
  have hP : va_P (dC, dI) vwCl [(h6, .inr (6, [.ref ((q 0)), .int 0, .int 0, .int 0, .int 0, .ref ((q 5)), .ref ((q 6)), .ref ((q 7)), .ref ((q 8)), .ref ((q 9)), .ref ((q 10)), .ref ((q 11)), .ref ((q 12)), .int 0, .int ((-1)), .int 0, .ref ((q 16)), .int 0, .ref ((q 18)), .ref ((q 19)), .ref ((q 20)), .ref ((q 21)), .ref ((q 22)), .ref ((q 23)), .ref ((q 24)), .ref ((q 25)), .ref ((q 26)), .ref ((q 27)), .ref ((q 28)), .ref ((q 29)), .ref ((q 30)), .int 0, .ref ((q 32)), .ref ((q 33)), .ref ((q 34)), .ref ((q 35)), .ref ((q 36)), .ref ((q 37)), .ref ((q 38)), .int 0, .int 0, .int 0, .int 0, .int 0, .int 0, .ref ((q 45)), .ref ((q 46)), .ref ((q 47)), .ref ((q 48)), .ref ((q 49)), .ref ((q 50)), .ref ((q 51))]))] H1 := hP
  have hD : va_D (fun q : Nat => s.heap.size ≤ q) [(h6, .inr (6, [.ref ((q 0)), .int 0, .int 0, .int 0, .int 0, .ref ((q 5)), .ref ((q 6)), .ref ((q 7)), .ref ((q 8)), .ref ((q 9)), .ref ((q 10)), .ref ((q 11)), .ref ((q 12)), .int 0, .int ((-1)), .int 0, .ref ((q 16)), .int 0, .ref ((q 18)), .ref ((q 19)), .ref ((q 20)), .ref ((q 21)), .ref ((q 22)), .ref ((q 23)), .ref ((q 24)), .ref ((q 25)), .ref ((q 26)), .ref ((q 27)), .ref ((q 28)), .ref ((q 29)), .ref ((q 30)), .int 0, .ref ((q 32)), .ref ((q 33)), .ref ((q 34)), .ref ((q 35)), .ref ((q 36)), .ref ((q 37)), .ref ((q 38)), .int 0, .int 0, .int 0, .int 0, .int 0, .int 0, .ref ((q 45)), .ref ((q 46)), .ref ((q 47)), .ref ((q 48)), .ref ((q 49)), .ref ((q 50)), .ref ((q 51))]))] := hD
  generalize H1 = H at hP hS ⊢
  refine lv_aload_n hx hb dL_law_350 rfl (lv_at hl 2 rfl) ?_
  refine lv_aload_n hx hb dL_law_351 rfl (lv_at hl 4 rfl) ?_
  refine lv_iload hx hb dL_law_352 (lv_at hl 0 rfl) ?_
  refine lv_iconst (v := 1) hx hb dL_law_354 (by decide) ?_
  refine lv_iadd hx hb dL_law_355 ?_
  rw [show ((0 : Int32) + 1) = 1 from by decide]
  refine va_sld hx hb hX hbl hbA hS (by unfold vp_in; decide) dL_law_356 ?_
  refine lv_aload_n hx hb dL_law_357 rfl (lv_at hl 4 rfl) ?_
  refine lv_iload hx hb dL_law_358 (lv_at hl 0 rfl) ?_
  refine lv_iconst (v := 2) hx hb dL_law_360 (by decide) ?_
  refine lv_iadd hx hb dL_law_361 ?_
  rw [show ((0 : Int32) + 2) = 2 from by decide]
  refine va_sld hx hb hX hbl hbA hS (by unfold vp_in; decide) dL_law_362 ?_
  have hPc := hP.sub (ws' := [(h6, .inr (6, [.ref ((q 0)), .int 0, .int 0, .int 0, .int 0, .ref ((q 5)), .ref ((q 6)), .ref ((q 7)), .ref ((q 8)), .ref ((q 9)), .ref ((q 10)), .ref ((q 11)), .ref ((q 12)), .int 0, .int ((-1)), .int 0, .ref ((q 16)), .int 0, .ref ((q 18)), .ref ((q 19)), .ref ((q 20)), .ref ((q 21)), .ref ((q 22)), .ref ((q 23)), .ref ((q 24)), .ref ((q 25)), .ref ((q 26)), .ref ((q 27)), .ref ((q 28)), .ref ((q 29)), .ref ((q 30)), .int 0, .ref ((q 32)), .ref ((q 33)), .ref ((q 34)), .ref ((q 35)), .ref ((q 36)), .ref ((q 37)), .ref ((q 38)), .int 0, .int 0, .int 0, .int 0, .int 0, .int 0, .ref ((q 45)), .ref ((q 46)), .ref ((q 47)), .ref ((q 48)), .ref ((q 49)), .ref ((q 50)), .ref ((q 51))]))]) [0] rfl
  have hDc := hD.sub (ws' := [(h6, .inr (6, [.ref ((q 0)), .int 0, .int 0, .int 0, .int 0, .ref ((q 5)), .ref ((q 6)), .ref ((q 7)), .ref ((q 8)), .ref ((q 9)), .ref ((q 10)), .ref ((q 11)), .ref ((q 12)), .int 0, .int ((-1)), .int 0, .ref ((q 16)), .int 0, .ref ((q 18)), .ref ((q 19)), .ref ((q 20)), .ref ((q 21)), .ref ((q 22)), .ref ((q 23)), .ref ((q 24)), .ref ((q 25)), .ref ((q 26)), .ref ((q 27)), .ref ((q 28)), .ref ((q 29)), .ref ((q 30)), .int 0, .ref ((q 32)), .ref ((q 33)), .ref ((q 34)), .ref ((q 35)), .ref ((q 36)), .ref ((q 37)), .ref ((q 38)), .int 0, .int 0, .int 0, .int 0, .int 0, .int 0, .ref ((q 45)), .ref ((q 46)), .ref ((q 47)), .ref ((q 48)), .ref ((q 49)), .ref ((q 50)), .ref ((q 51))]))]) [0] (by decide) rfl
  have hKk := hKm.sub (tys' := []) [] rfl
  have hFc := va_free (wc := [(h6, .inr (6, [.ref ((q 0)), .int 0, .int 0, .int 0, .int 0, .ref ((q 5)), .ref ((q 6)), .ref ((q 7)), .ref ((q 8)), .ref ((q 9)), .ref ((q 10)), .ref ((q 11)), .ref ((q 12)), .int 0, .int ((-1)), .int 0, .ref ((q 16)), .int 0, .ref ((q 18)), .ref ((q 19)), .ref ((q 20)), .ref ((q 21)), .ref ((q 22)), .ref ((q 23)), .ref ((q 24)), .ref ((q 25)), .ref ((q 26)), .ref ((q 27)), .ref ((q 28)), .ref ((q 29)), .ref ((q 30)), .int 0, .ref ((q 32)), .ref ((q 33)), .ref ((q 34)), .ref ((q 35)), .ref ((q 36)), .ref ((q 37)), .ref ((q 38)), .int 0, .int 0, .int 0, .int 0, .int 0, .int 0, .ref ((q 45)), .ref ((q 46)), .ref ((q 47)), .ref ((q 48)), .ref ((q 49)), .ref ((q 50)), .ref ((q 51))]))]) hD hS hA [0] rfl
  refine va_calli (va_runV (As := [.int (xs (Int32.toNatClampNeg 1)), .int (xs (Int32.toNatClampNeg 2))]) (rest := [.int r_1]) ⟨hx, hb, hml, hown, hts⟩ (c_X6_enter l dC dI h6 q (xs (Int32.toNatClampNeg 1)) (xs (Int32.toNatClampNeg 2)) H.size) (cwV 2 hts gl_X6_enter rfl rfl rfl (by decide +kernel) ⟨Nat.le_of_ble_eq_true rfl, Nat.le_of_ble_eq_true rfl⟩) ⟨fun a U g mk q => by obtain ⟨q0, q1, qP, qK, qD⟩ := q; exact ⟨q0, q1, qP, va_K.moved (u := U) (U := U.calling g mk a) (Vm.Alike.refl U.vm) qK, qD⟩, va_recv hKk hPc (ci := 6) (q0 := 0) rfl rfl, fun U hU hW => ⟨rfl, by rw [hU], by rw [hU]; exact hPc, va_K.moved hW.alike hKk, hDc.weaken (fun _ _ _ _ => trivial)⟩⟩ rfl rfl hl.1 rfl (lv_room (Nat.le_of_ble_eq_true rfl)) dL_law_363 ⟨show (45 + 0 : Nat) ≤ 600002 from by omega, show (5784 + 0 : Nat) ≤ 7302232 from by omega⟩) hS (fun q _ h => hFc q h) hFc (fun r_2 u t H1 locs ht hvm hw2 hB hz1 hk1 hS => ?_)
  refine W.widen (k := 45) (n := 5784) (by omega) (by omega) ?_
  try dsimp only at hw2
  refine lv_icmp_eq (tgt := 856) hx hb dL_law_366 (by decide) (fun _ => ?_) (fun c_9 => absurd (hw1.trans hw2.symm) c_9)
  exact law_tail l C0 (by omega) (by omega) hS hl rfl
set_option maxHeartbeats 4000000 in
set_option maxRecDepth 100000 in
theorem law_case_7 {p : Program} {e : Env} {s : State} {m : MethodId} {below : List Frame} {meth : Method} {c : Code} (l : Launch) {b : Nat} {xs : Nat → Int32} (C0 : lw_At p s m meth c b 6 xs)  {dC : Nat → ClassId} {dI : Nat → Nat → Nat} {h5 qT qF qN qR qC h6 qo : Nat} {cT cF cN cR cC : ClassId} {q : Nat → Nat} {cq : Nat → ClassId} {fw fe : Nat → Int32} (hKc : va_K (dC, dI) vwCl (cTy cT cF cN cR cC) s) (hKm : va_K (dC, dI) vwCl (mT cq) s) {H : Heap} {locs : List Loc} (hP : va_P (dC, dI) vwCl (cW h5 qT qF qN qR qC cT cF cN cR cC ++ mW h6 q cq fw fe) H) (hD : va_D (fun q : Nat => s.heap.size ≤ q) (cW h5 qT qF qN qR qC cT cF cN cR cC ++ mW h6 q cq fw fe)) (hS : va_S (fun q : Nat => s.heap.size ≤ q) s.heap H locs) {ls : Array Slot} (hl : lv_has ls 7 [(4, .int 0), (3, .ref qo), (2, .ref h6), (1, .ref h5), (0, .ref b)]) : W p l e room_1 s m #[Value.ref b] below meth c H locs 45 5784 (lw_Z below #[Value.ref b] s) (F0 m 371 ls []) := by
  obtain ⟨hx, hb, hr, hml, hown, hts, hX, hbl, hlocks, hgv⟩ := id C0
  have hts := fun w h => hts w (wl_in w h)
  have hA : ∀ q : Nat, s.heap.size ≤ q → (fun q : Nat => s.heap.size ≤ q) q := fun _ h => h
  have hbA : ¬ (fun q : Nat => s.heap.size ≤ q) b := Nat.not_le.mpr hbl
  refine lv_aload_n hx hb dL_law_371 rfl (lv_at hl 3 rfl) ?_
  refine lv_aload_n hx hb dL_law_372 rfl (lv_at hl 4 rfl) ?_
  refine lv_iload hx hb dL_law_373 (lv_at hl 0 rfl) ?_
  refine lv_iconst (v := 1) hx hb dL_law_375 (by decide) ?_
  refine lv_iadd hx hb dL_law_376 ?_
  rw [show ((0 : Int32) + 1) = 1 from by decide]
  refine va_sld hx hb hX hbl hbA hS (by unfold vp_in; decide) dL_law_377 ?_
  refine lv_aload_n hx hb dL_law_378 rfl (lv_at hl 4 rfl) ?_
  refine lv_iload hx hb dL_law_379 (lv_at hl 0 rfl) ?_
  refine lv_iconst (v := 2) hx hb dL_law_381 (by decide) ?_
  refine lv_iadd hx hb dL_law_382 ?_
  rw [show ((0 : Int32) + 2) = 2 from by decide]
  refine va_sld hx hb hX hbl hbA hS (by unfold vp_in; decide) dL_law_383 ?_
  refine lv_aload_n hx hb dL_law_384 rfl (lv_at hl 4 rfl) ?_
  refine lv_iload hx hb dL_law_385 (lv_at hl 0 rfl) ?_
  refine lv_iconst (v := 3) hx hb dL_law_387 (by decide) ?_
  refine lv_iadd hx hb dL_law_388 ?_
  rw [show ((0 : Int32) + 3) = 3 from by decide]
  refine va_sld hx hb hX hbl hbA hS (by unfold vp_in; decide) dL_law_389 ?_
  refine lv_aload_n hx hb dL_law_390 rfl (lv_at hl 4 rfl) ?_
  refine lv_iload hx hb dL_law_391 (lv_at hl 0 rfl) ?_
  refine lv_iconst (v := 4) hx hb dL_law_393 (by decide) ?_
  refine lv_iadd hx hb dL_law_394 ?_
  rw [show ((0 : Int32) + 4) = 4 from by decide]
  refine va_sld hx hb hX hbl hbA hS (by unfold vp_in; decide) dL_law_395 ?_
  refine lv_aload_n hx hb dL_law_396 rfl (lv_at hl 4 rfl) ?_
  refine lv_iload hx hb dL_law_397 (lv_at hl 0 rfl) ?_
  refine lv_iconst (v := 5) hx hb dL_law_399 (by decide) ?_
  refine lv_iadd hx hb dL_law_400 ?_
  rw [show ((0 : Int32) + 5) = 5 from by decide]
  refine va_sld hx hb hX hbl hbA hS (by unfold vp_in; decide) dL_law_401 ?_
  have hPc := hP.sub (ws' := [(h5, .inr (5, [.ref qT, .int 0, .ref qF, .int 0, .int 0, .int ((-1)), .int 0, .ref qN, .int 0, .ref qR, .int 0, .int 0, .ref qC]))]) [0] rfl
  have hDc := hD.sub (ws' := [(h5, .inr (5, [.ref qT, .int 0, .ref qF, .int 0, .int 0, .int ((-1)), .int 0, .ref qN, .int 0, .ref qR, .int 0, .int 0, .ref qC]))]) [0] (by decide) rfl
  have hKk := hKc.sub (tys' := []) [] rfl
  have hFc := va_free (wc := [(h5, .inr (5, [.ref qT, .int 0, .ref qF, .int 0, .int 0, .int ((-1)), .int 0, .ref qN, .int 0, .ref qR, .int 0, .int 0, .ref qC]))]) hD hS hA [0] rfl
  refine va_calli (va_runV (As := [.int (xs (Int32.toNatClampNeg 1)), .int (xs (Int32.toNatClampNeg 2)), .int (xs (Int32.toNatClampNeg 3)), .int (xs (Int32.toNatClampNeg 4)), .int (xs (Int32.toNatClampNeg 5))]) (rest := []) ⟨hx, hb, hml, hown, hts⟩ (c_X5_tell l dC dI h5 qT qF qN qR qC (xs (Int32.toNatClampNeg 1)) (xs (Int32.toNatClampNeg 2)) (xs (Int32.toNatClampNeg 3)) (xs (Int32.toNatClampNeg 4)) (xs (Int32.toNatClampNeg 5)) H.size) (cwV 5 hts gl_X5_tell rfl rfl rfl (by decide +kernel) ⟨Nat.le_of_ble_eq_true rfl, Nat.le_of_ble_eq_true rfl⟩) ⟨fun a U g mk q => by obtain ⟨q0, q1, qP, qK, qD⟩ := q; exact ⟨q0, q1, qP, va_K.moved (u := U) (U := U.calling g mk a) (Vm.Alike.refl U.vm) qK, qD⟩, va_recv hKk hPc (ci := 5) (q0 := 0) rfl rfl, fun U hU hW => ⟨rfl, by rw [hU], by rw [hU]; exact hPc, va_K.moved hW.alike hKk, hDc.weaken (fun _ _ _ _ => trivial)⟩⟩ rfl rfl hl.1 rfl (lv_room (Nat.le_of_ble_eq_true rfl)) dL_law_402 ⟨show (45 + 0 : Nat) ≤ 600002 from by omega, show (5784 + 0 : Nat) ≤ 7302232 from by omega⟩) hS (fun q _ h => hFc q h) hFc (fun r_1 u t H1 locs ht hvm hw1 hB hz1 hk1 hS => ?_)
  refine W.widen (k := 45) (n := 5784) (by omega) (by omega) ?_
  try dsimp only at hw1
  obtain ⟨hP, hD⟩ := va_join (wr := [(h6, .inr (6, [.ref ((q 0)), .int 0, .int 0, .int 0, .int 0, .ref ((q 5)), .ref ((q 6)), .ref ((q 7)), .ref ((q 8)), .ref ((q 9)), .ref ((q 10)), .ref ((q 11)), .ref ((q 12)), .int 0, .int ((-1)), .int 0, .ref ((q 16)), .int 0, .ref ((q 18)), .ref ((q 19)), .ref ((q 20)), .ref ((q 21)), .ref ((q 22)), .ref ((q 23)), .ref ((q 24)), .ref ((q 25)), .ref ((q 26)), .ref ((q 27)), .ref ((q 28)), .ref ((q 29)), .ref ((q 30)), .int 0, .ref ((q 32)), .ref ((q 33)), .ref ((q 34)), .ref ((q 35)), .ref ((q 36)), .ref ((q 37)), .ref ((q 38)), .int 0, .int 0, .int 0, .int 0, .int 0, .int 0, .ref ((q 45)), .ref ((q 46)), .ref ((q 47)), .ref ((q 48)), .ref ((q 49)), .ref ((q 50)), .ref ((q 51))]))]) (w1 := []) hP hD [0] [6] rfl rfl (by decide) (by decide) hk1 hFc lw_nilP lw_nilD
  have hP : va_P (dC, dI) vwCl [(h6, .inr (6, [.ref ((q 0)), .int 0, .int 0, .int 0, .int 0, .ref ((q 5)), .ref ((q 6)), .ref ((q 7)), .ref ((q 8)), .ref ((q 9)), .ref ((q 10)), .ref ((q 11)), .ref ((q 12)), .int 0, .int ((-1)), .int 0, .ref ((q 16)), .int 0, .ref ((q 18)), .ref ((q 19)), .ref ((q 20)), .ref ((q 21)), .ref ((q 22)), .ref ((q 23)), .ref ((q 24)), .ref ((q 25)), .ref ((q 26)), .ref ((q 27)), .ref ((q 28)), .ref ((q 29)), .ref ((q 30)), .int 0, .ref ((q 32)), .ref ((q 33)), .ref ((q 34)), .ref ((q 35)), .ref ((q 36)), .ref ((q 37)), .ref ((q 38)), .int 0, .int 0, .int 0, .int 0, .int 0, .int 0, .ref ((q 45)), .ref ((q 46)), .ref ((q 47)), .ref ((q 48)), .ref ((q 49)), .ref ((q 50)), .ref ((q 51))]))] H1 := hP
  have hD : va_D (fun q : Nat => s.heap.size ≤ q) [(h6, .inr (6, [.ref ((q 0)), .int 0, .int 0, .int 0, .int 0, .ref ((q 5)), .ref ((q 6)), .ref ((q 7)), .ref ((q 8)), .ref ((q 9)), .ref ((q 10)), .ref ((q 11)), .ref ((q 12)), .int 0, .int ((-1)), .int 0, .ref ((q 16)), .int 0, .ref ((q 18)), .ref ((q 19)), .ref ((q 20)), .ref ((q 21)), .ref ((q 22)), .ref ((q 23)), .ref ((q 24)), .ref ((q 25)), .ref ((q 26)), .ref ((q 27)), .ref ((q 28)), .ref ((q 29)), .ref ((q 30)), .int 0, .ref ((q 32)), .ref ((q 33)), .ref ((q 34)), .ref ((q 35)), .ref ((q 36)), .ref ((q 37)), .ref ((q 38)), .int 0, .int 0, .int 0, .int 0, .int 0, .int 0, .ref ((q 45)), .ref ((q 46)), .ref ((q 47)), .ref ((q 48)), .ref ((q 49)), .ref ((q 50)), .ref ((q 51))]))] := hD
  generalize H1 = H at hP hS ⊢
  refine lv_aload_n hx hb dL_law_405 rfl (lv_at hl 2 rfl) ?_
  refine lv_aload_n hx hb dL_law_406 rfl (lv_at hl 4 rfl) ?_
  refine lv_iload hx hb dL_law_407 (lv_at hl 0 rfl) ?_
  refine lv_iconst (v := 1) hx hb dL_law_409 (by decide) ?_
  refine lv_iadd hx hb dL_law_410 ?_
  rw [show ((0 : Int32) + 1) = 1 from by decide]
  refine va_sld hx hb hX hbl hbA hS (by unfold vp_in; decide) dL_law_411 ?_
  refine lv_aload_n hx hb dL_law_412 rfl (lv_at hl 4 rfl) ?_
  refine lv_iload hx hb dL_law_413 (lv_at hl 0 rfl) ?_
  refine lv_iconst (v := 2) hx hb dL_law_415 (by decide) ?_
  refine lv_iadd hx hb dL_law_416 ?_
  rw [show ((0 : Int32) + 2) = 2 from by decide]
  refine va_sld hx hb hX hbl hbA hS (by unfold vp_in; decide) dL_law_417 ?_
  refine lv_aload_n hx hb dL_law_418 rfl (lv_at hl 4 rfl) ?_
  refine lv_iload hx hb dL_law_419 (lv_at hl 0 rfl) ?_
  refine lv_iconst (v := 3) hx hb dL_law_421 (by decide) ?_
  refine lv_iadd hx hb dL_law_422 ?_
  rw [show ((0 : Int32) + 3) = 3 from by decide]
  refine va_sld hx hb hX hbl hbA hS (by unfold vp_in; decide) dL_law_423 ?_
  refine lv_aload_n hx hb dL_law_424 rfl (lv_at hl 4 rfl) ?_
  refine lv_iload hx hb dL_law_425 (lv_at hl 0 rfl) ?_
  refine lv_iconst (v := 4) hx hb dL_law_427 (by decide) ?_
  refine lv_iadd hx hb dL_law_428 ?_
  rw [show ((0 : Int32) + 4) = 4 from by decide]
  refine va_sld hx hb hX hbl hbA hS (by unfold vp_in; decide) dL_law_429 ?_
  refine lv_aload_n hx hb dL_law_430 rfl (lv_at hl 4 rfl) ?_
  refine lv_iload hx hb dL_law_431 (lv_at hl 0 rfl) ?_
  refine lv_iconst (v := 5) hx hb dL_law_433 (by decide) ?_
  refine lv_iadd hx hb dL_law_434 ?_
  rw [show ((0 : Int32) + 5) = 5 from by decide]
  refine va_sld hx hb hX hbl hbA hS (by unfold vp_in; decide) dL_law_435 ?_
  have hPc := hP.sub (ws' := [(h6, .inr (6, [.ref ((q 0)), .int 0, .int 0, .int 0, .int 0, .ref ((q 5)), .ref ((q 6)), .ref ((q 7)), .ref ((q 8)), .ref ((q 9)), .ref ((q 10)), .ref ((q 11)), .ref ((q 12)), .int 0, .int ((-1)), .int 0, .ref ((q 16)), .int 0, .ref ((q 18)), .ref ((q 19)), .ref ((q 20)), .ref ((q 21)), .ref ((q 22)), .ref ((q 23)), .ref ((q 24)), .ref ((q 25)), .ref ((q 26)), .ref ((q 27)), .ref ((q 28)), .ref ((q 29)), .ref ((q 30)), .int 0, .ref ((q 32)), .ref ((q 33)), .ref ((q 34)), .ref ((q 35)), .ref ((q 36)), .ref ((q 37)), .ref ((q 38)), .int 0, .int 0, .int 0, .int 0, .int 0, .int 0, .ref ((q 45)), .ref ((q 46)), .ref ((q 47)), .ref ((q 48)), .ref ((q 49)), .ref ((q 50)), .ref ((q 51))]))]) [0] rfl
  have hDc := hD.sub (ws' := [(h6, .inr (6, [.ref ((q 0)), .int 0, .int 0, .int 0, .int 0, .ref ((q 5)), .ref ((q 6)), .ref ((q 7)), .ref ((q 8)), .ref ((q 9)), .ref ((q 10)), .ref ((q 11)), .ref ((q 12)), .int 0, .int ((-1)), .int 0, .ref ((q 16)), .int 0, .ref ((q 18)), .ref ((q 19)), .ref ((q 20)), .ref ((q 21)), .ref ((q 22)), .ref ((q 23)), .ref ((q 24)), .ref ((q 25)), .ref ((q 26)), .ref ((q 27)), .ref ((q 28)), .ref ((q 29)), .ref ((q 30)), .int 0, .ref ((q 32)), .ref ((q 33)), .ref ((q 34)), .ref ((q 35)), .ref ((q 36)), .ref ((q 37)), .ref ((q 38)), .int 0, .int 0, .int 0, .int 0, .int 0, .int 0, .ref ((q 45)), .ref ((q 46)), .ref ((q 47)), .ref ((q 48)), .ref ((q 49)), .ref ((q 50)), .ref ((q 51))]))]) [0] (by decide) rfl
  have hKk := hKm.sub (tys' := []) [] rfl
  have hFc := va_free (wc := [(h6, .inr (6, [.ref ((q 0)), .int 0, .int 0, .int 0, .int 0, .ref ((q 5)), .ref ((q 6)), .ref ((q 7)), .ref ((q 8)), .ref ((q 9)), .ref ((q 10)), .ref ((q 11)), .ref ((q 12)), .int 0, .int ((-1)), .int 0, .ref ((q 16)), .int 0, .ref ((q 18)), .ref ((q 19)), .ref ((q 20)), .ref ((q 21)), .ref ((q 22)), .ref ((q 23)), .ref ((q 24)), .ref ((q 25)), .ref ((q 26)), .ref ((q 27)), .ref ((q 28)), .ref ((q 29)), .ref ((q 30)), .int 0, .ref ((q 32)), .ref ((q 33)), .ref ((q 34)), .ref ((q 35)), .ref ((q 36)), .ref ((q 37)), .ref ((q 38)), .int 0, .int 0, .int 0, .int 0, .int 0, .int 0, .ref ((q 45)), .ref ((q 46)), .ref ((q 47)), .ref ((q 48)), .ref ((q 49)), .ref ((q 50)), .ref ((q 51))]))]) hD hS hA [0] rfl
  refine va_calli (va_runV (As := [.int (xs (Int32.toNatClampNeg 1)), .int (xs (Int32.toNatClampNeg 2)), .int (xs (Int32.toNatClampNeg 3)), .int (xs (Int32.toNatClampNeg 4)), .int (xs (Int32.toNatClampNeg 5))]) (rest := [.int r_1]) ⟨hx, hb, hml, hown, hts⟩ (c_X6_tell l dC dI h6 q (xs (Int32.toNatClampNeg 1)) (xs (Int32.toNatClampNeg 2)) (xs (Int32.toNatClampNeg 3)) (xs (Int32.toNatClampNeg 4)) (xs (Int32.toNatClampNeg 5)) H.size) (cwV 5 hts gl_X6_tell rfl rfl rfl (by decide +kernel) ⟨Nat.le_of_ble_eq_true rfl, Nat.le_of_ble_eq_true rfl⟩) ⟨fun a U g mk q => by obtain ⟨q0, q1, qP, qK, qD⟩ := q; exact ⟨q0, q1, qP, va_K.moved (u := U) (U := U.calling g mk a) (Vm.Alike.refl U.vm) qK, qD⟩, va_recv hKk hPc (ci := 6) (q0 := 0) rfl rfl, fun U hU hW => ⟨rfl, by rw [hU], by rw [hU]; exact hPc, va_K.moved hW.alike hKk, hDc.weaken (fun _ _ _ _ => trivial)⟩⟩ rfl rfl hl.1 rfl (lv_room (Nat.le_of_ble_eq_true rfl)) dL_law_436 ⟨show (45 + 0 : Nat) ≤ 600002 from by omega, show (5784 + 0 : Nat) ≤ 7302232 from by omega⟩) hS (fun q _ h => hFc q h) hFc (fun r_2 u t H1 locs ht hvm hw2 hB hz1 hk1 hS => ?_)
  refine W.widen (k := 45) (n := 5784) (by omega) (by omega) ?_
  try dsimp only at hw2
  refine lv_icmp_eq (tgt := 856) hx hb dL_law_439 (by decide) (fun _ => ?_) (fun c_9 => absurd (hw1.trans hw2.symm) c_9)
  exact law_tail l C0 (by omega) (by omega) hS hl rfl
set_option maxHeartbeats 4000000 in
set_option maxRecDepth 100000 in
theorem law_case_8 {p : Program} {e : Env} {s : State} {m : MethodId} {below : List Frame} {meth : Method} {c : Code} (l : Launch) {b : Nat} {xs : Nat → Int32} (C0 : lw_At p s m meth c b 6 xs) (hst : l.stackTraces = false)  {dC : Nat → ClassId} {dI : Nat → Nat → Nat} {h5 qT qF qN qR qC h6 qo : Nat} {cT cF cN cR cC : ClassId} {q : Nat → Nat} {cq : Nat → ClassId} {fw fe : Nat → Int32} (hKc : va_K (dC, dI) vwCl (cTy cT cF cN cR cC) s) (hKm : va_K (dC, dI) vwCl (mT cq) s) {H : Heap} {locs : List Loc} (hP : va_P (dC, dI) vwCl (cW h5 qT qF qN qR qC cT cF cN cR cC ++ mW h6 q cq fw fe) H) (hD : va_D (fun q : Nat => s.heap.size ≤ q) (cW h5 qT qF qN qR qC cT cF cN cR cC ++ mW h6 q cq fw fe)) (hS : va_S (fun q : Nat => s.heap.size ≤ q) s.heap H locs) {ls : Array Slot} (hl : lv_has ls 7 [(4, .int 0), (3, .ref qo), (2, .ref h6), (1, .ref h5), (0, .ref b)]) {sa : Nat} (hE : lkE sa (fun q : Nat => s.heap.size ≤ q) s) : W p l e room_1 s m #[Value.ref b] below meth c H locs 45 5784 (lw_Z below #[Value.ref b] s) (F0 m 444 ls []) := by
  obtain ⟨hx, hb, hr, hml, hown, hts, hX, hbl, hlocks, hgv⟩ := id C0
  have hts := fun w h => hts w (wl_in w h)
  have hA : ∀ q : Nat, s.heap.size ≤ q → (fun q : Nat => s.heap.size ≤ q) q := fun _ h => h
  have hbA : ¬ (fun q : Nat => s.heap.size ≤ q) b := Nat.not_le.mpr hbl
  refine lv_aload_n hx hb dL_law_444 rfl (lv_at hl 3 rfl) ?_
  refine lv_aload_n hx hb dL_law_445 rfl (lv_at hl 4 rfl) ?_
  refine lv_iload hx hb dL_law_446 (lv_at hl 0 rfl) ?_
  refine lv_iconst (v := 1) hx hb dL_law_448 (by decide) ?_
  refine lv_iadd hx hb dL_law_449 ?_
  rw [show ((0 : Int32) + 1) = 1 from by decide]
  refine va_sld hx hb hX hbl hbA hS (by unfold vp_in; decide) dL_law_450 ?_
  refine lv_aload_n hx hb dL_law_451 rfl (lv_at hl 4 rfl) ?_
  refine lv_iload hx hb dL_law_452 (lv_at hl 0 rfl) ?_
  refine lv_iconst (v := 2) hx hb dL_law_454 (by decide) ?_
  refine lv_iadd hx hb dL_law_455 ?_
  rw [show ((0 : Int32) + 2) = 2 from by decide]
  refine va_sld hx hb hX hbl hbA hS (by unfold vp_in; decide) dL_law_456 ?_
  refine lv_aload_n hx hb dL_law_457 rfl (lv_at hl 1 rfl) ?_
  have hPc := hP.sub (ws' := [(h5, .inr (5, [.ref qT, .int 0, .ref qF, .int 0, .int 0, .int ((-1)), .int 0, .ref qN, .int 0, .ref qR, .int 0, .int 0, .ref qC]))]) [0] rfl
  have hDc := hD.sub (ws' := [(h5, .inr (5, [.ref qT, .int 0, .ref qF, .int 0, .int 0, .int ((-1)), .int 0, .ref qN, .int 0, .ref qR, .int 0, .int 0, .ref qC]))]) [0] (by decide) rfl
  have hKk := hKc.sub (tys' := []) [] rfl
  have hFc := va_free (wc := [(h5, .inr (5, [.ref qT, .int 0, .ref qF, .int 0, .int 0, .int ((-1)), .int 0, .ref qN, .int 0, .ref qR, .int 0, .int 0, .ref qC]))]) hD hS hA [0] rfl
  refine va_calli (vx_runSW (hh := [(0, 10, 13, 13), (0, 10, 17, 15)]) (As := [.ref h5, .int (xs (Int32.toNatClampNeg 1)), .int (xs (Int32.toNatClampNeg 2)), .ref qo]) (rest := []) ⟨hx, hb, hml, hown, hts⟩ (c_L_look l hst dC dI h5 qT qF qN qR qC sa (xs (Int32.toNatClampNeg 1)) (xs (Int32.toNatClampNeg 2)) qo H.size) (vx_cwSW 4 hts gl_L_look rfl rfl rfl (by decide +kernel) ⟨Nat.le_of_ble_eq_true rfl, Nat.le_of_ble_eq_true rfl⟩) ⟨fun a U g mk q => by obtain ⟨q0, q1, qP, qK, qD, qE⟩ := q; exact ⟨q0, q1, qP, va_K.moved (u := U) (U := U.calling g mk a) (Vm.Alike.refl U.vm) qK, qD, lkE_call qE⟩, fun U hU hW => ⟨rfl, by rw [hU], by rw [hU]; exact hPc, va_K.moved hW.alike hKk, hDc.weaken (fun _ _ _ _ => trivial), lkE_at hW hU hS hFc hE⟩⟩ rfl rfl hl.1 rfl (lv_room (Nat.le_of_ble_eq_true rfl)) dL_law_458 ⟨show (45 + 1 : Nat) ≤ 600002 from by omega, show (5784 + 6 : Nat) ≤ 7302232 from by omega⟩) hS (fun q _ h => hFc q h) hFc (fun r_1 u t H1 locs ht hvm hw1 hB hz1 hk1 hS => ?_)
  refine W.widen (k := 46) (n := 5790) (by omega) (by omega) ?_
  try dsimp only at hw1
  refine lv_istore (lv' := [(5, .int r_1), (4, .int 0), (3, .ref qo), (2, .ref h6), (1, .ref h5), (0, .ref b)]) hx hb dL_law_461 hl (by decide) rfl (fun ls hl5 => ?_)
  have hl := lv_sub hl5 [1, 2, 3, 4, 5] rfl
  have hl : lv_has ls 7 [(4, .int 0), (3, .ref qo), (2, .ref h6), (1, .ref h5), (0, .ref b)] := hl
  obtain ⟨hP, hD⟩ := va_join (wr := [(h6, .inr (6, [.ref ((q 0)), .int 0, .int 0, .int 0, .int 0, .ref ((q 5)), .ref ((q 6)), .ref ((q 7)), .ref ((q 8)), .ref ((q 9)), .ref ((q 10)), .ref ((q 11)), .ref ((q 12)), .int 0, .int ((-1)), .int 0, .ref ((q 16)), .int 0, .ref ((q 18)), .ref ((q 19)), .ref ((q 20)), .ref ((q 21)), .ref ((q 22)), .ref ((q 23)), .ref ((q 24)), .ref ((q 25)), .ref ((q 26)), .ref ((q 27)), .ref ((q 28)), .ref ((q 29)), .ref ((q 30)), .int 0, .ref ((q 32)), .ref ((q 33)), .ref ((q 34)), .ref ((q 35)), .ref ((q 36)), .ref ((q 37)), .ref ((q 38)), .int 0, .int 0, .int 0, .int 0, .int 0, .int 0, .ref ((q 45)), .ref ((q 46)), .ref ((q 47)), .ref ((q 48)), .ref ((q 49)), .ref ((q 50)), .ref ((q 51))]))]) (w1 := []) hP hD [0] [6] rfl rfl (by decide) (by decide) hk1 hFc lw_nilP lw_nilD
  have hP : va_P (dC, dI) vwCl [(h6, .inr (6, [.ref ((q 0)), .int 0, .int 0, .int 0, .int 0, .ref ((q 5)), .ref ((q 6)), .ref ((q 7)), .ref ((q 8)), .ref ((q 9)), .ref ((q 10)), .ref ((q 11)), .ref ((q 12)), .int 0, .int ((-1)), .int 0, .ref ((q 16)), .int 0, .ref ((q 18)), .ref ((q 19)), .ref ((q 20)), .ref ((q 21)), .ref ((q 22)), .ref ((q 23)), .ref ((q 24)), .ref ((q 25)), .ref ((q 26)), .ref ((q 27)), .ref ((q 28)), .ref ((q 29)), .ref ((q 30)), .int 0, .ref ((q 32)), .ref ((q 33)), .ref ((q 34)), .ref ((q 35)), .ref ((q 36)), .ref ((q 37)), .ref ((q 38)), .int 0, .int 0, .int 0, .int 0, .int 0, .int 0, .ref ((q 45)), .ref ((q 46)), .ref ((q 47)), .ref ((q 48)), .ref ((q 49)), .ref ((q 50)), .ref ((q 51))]))] H1 := hP
  have hD : va_D (fun q : Nat => s.heap.size ≤ q) [(h6, .inr (6, [.ref ((q 0)), .int 0, .int 0, .int 0, .int 0, .ref ((q 5)), .ref ((q 6)), .ref ((q 7)), .ref ((q 8)), .ref ((q 9)), .ref ((q 10)), .ref ((q 11)), .ref ((q 12)), .int 0, .int ((-1)), .int 0, .ref ((q 16)), .int 0, .ref ((q 18)), .ref ((q 19)), .ref ((q 20)), .ref ((q 21)), .ref ((q 22)), .ref ((q 23)), .ref ((q 24)), .ref ((q 25)), .ref ((q 26)), .ref ((q 27)), .ref ((q 28)), .ref ((q 29)), .ref ((q 30)), .int 0, .ref ((q 32)), .ref ((q 33)), .ref ((q 34)), .ref ((q 35)), .ref ((q 36)), .ref ((q 37)), .ref ((q 38)), .int 0, .int 0, .int 0, .int 0, .int 0, .int 0, .ref ((q 45)), .ref ((q 46)), .ref ((q 47)), .ref ((q 48)), .ref ((q 49)), .ref ((q 50)), .ref ((q 51))]))] := hD
  generalize H1 = H at hP hS ⊢
  refine lv_aload_n hx hb dL_law_463 rfl (lv_at hl 2 rfl) ?_
  refine lv_aload_n hx hb dL_law_464 rfl (lv_at hl 4 rfl) ?_
  refine lv_iload hx hb dL_law_465 (lv_at hl 0 rfl) ?_
  refine lv_iconst (v := 1) hx hb dL_law_467 (by decide) ?_
  refine lv_iadd hx hb dL_law_468 ?_
  rw [show ((0 : Int32) + 1) = 1 from by decide]
  refine va_sld hx hb hX hbl hbA hS (by unfold vp_in; decide) dL_law_469 ?_
  refine lv_aload_n hx hb dL_law_470 rfl (lv_at hl 4 rfl) ?_
  refine lv_iload hx hb dL_law_471 (lv_at hl 0 rfl) ?_
  refine lv_iconst (v := 2) hx hb dL_law_473 (by decide) ?_
  refine lv_iadd hx hb dL_law_474 ?_
  rw [show ((0 : Int32) + 2) = 2 from by decide]
  refine va_sld hx hb hX hbl hbA hS (by unfold vp_in; decide) dL_law_475 ?_
  have hPc := hP.sub (ws' := [(h6, .inr (6, [.ref ((q 0)), .int 0, .int 0, .int 0, .int 0, .ref ((q 5)), .ref ((q 6)), .ref ((q 7)), .ref ((q 8)), .ref ((q 9)), .ref ((q 10)), .ref ((q 11)), .ref ((q 12)), .int 0, .int ((-1)), .int 0, .ref ((q 16)), .int 0, .ref ((q 18)), .ref ((q 19)), .ref ((q 20)), .ref ((q 21)), .ref ((q 22)), .ref ((q 23)), .ref ((q 24)), .ref ((q 25)), .ref ((q 26)), .ref ((q 27)), .ref ((q 28)), .ref ((q 29)), .ref ((q 30)), .int 0, .ref ((q 32)), .ref ((q 33)), .ref ((q 34)), .ref ((q 35)), .ref ((q 36)), .ref ((q 37)), .ref ((q 38)), .int 0, .int 0, .int 0, .int 0, .int 0, .int 0, .ref ((q 45)), .ref ((q 46)), .ref ((q 47)), .ref ((q 48)), .ref ((q 49)), .ref ((q 50)), .ref ((q 51))]))]) [0] rfl
  have hDc := hD.sub (ws' := [(h6, .inr (6, [.ref ((q 0)), .int 0, .int 0, .int 0, .int 0, .ref ((q 5)), .ref ((q 6)), .ref ((q 7)), .ref ((q 8)), .ref ((q 9)), .ref ((q 10)), .ref ((q 11)), .ref ((q 12)), .int 0, .int ((-1)), .int 0, .ref ((q 16)), .int 0, .ref ((q 18)), .ref ((q 19)), .ref ((q 20)), .ref ((q 21)), .ref ((q 22)), .ref ((q 23)), .ref ((q 24)), .ref ((q 25)), .ref ((q 26)), .ref ((q 27)), .ref ((q 28)), .ref ((q 29)), .ref ((q 30)), .int 0, .ref ((q 32)), .ref ((q 33)), .ref ((q 34)), .ref ((q 35)), .ref ((q 36)), .ref ((q 37)), .ref ((q 38)), .int 0, .int 0, .int 0, .int 0, .int 0, .int 0, .ref ((q 45)), .ref ((q 46)), .ref ((q 47)), .ref ((q 48)), .ref ((q 49)), .ref ((q 50)), .ref ((q 51))]))]) [0] (by decide) rfl
  have hKk := hKm.sub (tys' := []) [] rfl
  have hFc := va_free (wc := [(h6, .inr (6, [.ref ((q 0)), .int 0, .int 0, .int 0, .int 0, .ref ((q 5)), .ref ((q 6)), .ref ((q 7)), .ref ((q 8)), .ref ((q 9)), .ref ((q 10)), .ref ((q 11)), .ref ((q 12)), .int 0, .int ((-1)), .int 0, .ref ((q 16)), .int 0, .ref ((q 18)), .ref ((q 19)), .ref ((q 20)), .ref ((q 21)), .ref ((q 22)), .ref ((q 23)), .ref ((q 24)), .ref ((q 25)), .ref ((q 26)), .ref ((q 27)), .ref ((q 28)), .ref ((q 29)), .ref ((q 30)), .int 0, .ref ((q 32)), .ref ((q 33)), .ref ((q 34)), .ref ((q 35)), .ref ((q 36)), .ref ((q 37)), .ref ((q 38)), .int 0, .int 0, .int 0, .int 0, .int 0, .int 0, .ref ((q 45)), .ref ((q 46)), .ref ((q 47)), .ref ((q 48)), .ref ((q 49)), .ref ((q 50)), .ref ((q 51))]))]) hD hS hA [0] rfl
  refine va_calli (va_runV (As := [.int (xs (Int32.toNatClampNeg 1)), .int (xs (Int32.toNatClampNeg 2))]) (rest := []) ⟨hx, hb, hml, hown, hts⟩ (c_X6_look l dC dI h6 q (xs (Int32.toNatClampNeg 1)) (xs (Int32.toNatClampNeg 2)) H.size) (cwV 2 hts gl_X6_look rfl rfl rfl (by decide +kernel) ⟨Nat.le_of_ble_eq_true rfl, Nat.le_of_ble_eq_true rfl⟩) ⟨fun a U g mk q => by obtain ⟨q0, q1, qP, qK, qD⟩ := q; exact ⟨q0, q1, qP, va_K.moved (u := U) (U := U.calling g mk a) (Vm.Alike.refl U.vm) qK, qD⟩, va_recv hKk hPc (ci := 6) (q0 := 0) rfl rfl, fun U hU hW => ⟨rfl, by rw [hU], by rw [hU]; exact hPc, va_K.moved hW.alike hKk, hDc.weaken (fun _ _ _ _ => trivial)⟩⟩ rfl rfl hl.1 rfl (lv_room (Nat.le_of_ble_eq_true rfl)) dL_law_476 ⟨show (46 + 0 : Nat) ≤ 600002 from by omega, show (5790 + 0 : Nat) ≤ 7302232 from by omega⟩) hS (fun q _ h => hFc q h) hFc (fun r_2 u t H1 locs ht hvm hw2 hB hz1 hk1 hS => ?_)
  refine W.widen (k := 46) (n := 5790) (by omega) (by omega) ?_
  try dsimp only at hw2
  obtain ⟨hP1, hK1, hD1⟩ := hB
  rw [ht] at hP1
  obtain ⟨hP, hD⟩ := va_join (wr := []) (w1 := [(h6, .inr (6, [.ref ((q 0)), .int 0, .int 1, .int 0, .int 0, .ref ((q 5)), .ref ((q 6)), .ref ((q 7)), .ref ((q 8)), .ref ((q 9)), .ref ((q 10)), .ref ((q 11)), .ref ((q 12)), .int 0, .int ((-1)), .int 0, .ref ((q 16)), .int 0, .ref ((q 18)), .ref ((q 19)), .ref ((q 20)), .ref ((q 21)), .ref ((q 22)), .ref ((q 23)), .ref ((q 24)), .ref ((q 25)), .ref ((q 26)), .ref ((q 27)), .ref ((q 28)), .ref ((q 29)), .ref ((q 30)), .int 0, .ref ((q 32)), .ref ((q 33)), .ref ((q 34)), .ref ((q 35)), .ref ((q 36)), .ref ((q 37)), .ref ((q 38)), .int 0, .int 0, .int 0, .int 0, .int 0, .int 0, .ref ((q 45)), .ref ((q 46)), .ref ((q 47)), .ref ((q 48)), .ref ((q 49)), .ref ((q 50)), .ref ((q 51))]))]) hP hD [0] [] rfl rfl (by decide) (by decide) hk1 hFc hP1 hD1
  have hP : va_P (dC, dI) vwCl [(h6, .inr (6, [.ref ((q 0)), .int 0, .int 1, .int 0, .int 0, .ref ((q 5)), .ref ((q 6)), .ref ((q 7)), .ref ((q 8)), .ref ((q 9)), .ref ((q 10)), .ref ((q 11)), .ref ((q 12)), .int 0, .int ((-1)), .int 0, .ref ((q 16)), .int 0, .ref ((q 18)), .ref ((q 19)), .ref ((q 20)), .ref ((q 21)), .ref ((q 22)), .ref ((q 23)), .ref ((q 24)), .ref ((q 25)), .ref ((q 26)), .ref ((q 27)), .ref ((q 28)), .ref ((q 29)), .ref ((q 30)), .int 0, .ref ((q 32)), .ref ((q 33)), .ref ((q 34)), .ref ((q 35)), .ref ((q 36)), .ref ((q 37)), .ref ((q 38)), .int 0, .int 0, .int 0, .int 0, .int 0, .int 0, .ref ((q 45)), .ref ((q 46)), .ref ((q 47)), .ref ((q 48)), .ref ((q 49)), .ref ((q 50)), .ref ((q 51))]))] H1 := hP
  have hD : va_D (fun q : Nat => s.heap.size ≤ q) [(h6, .inr (6, [.ref ((q 0)), .int 0, .int 1, .int 0, .int 0, .ref ((q 5)), .ref ((q 6)), .ref ((q 7)), .ref ((q 8)), .ref ((q 9)), .ref ((q 10)), .ref ((q 11)), .ref ((q 12)), .int 0, .int ((-1)), .int 0, .ref ((q 16)), .int 0, .ref ((q 18)), .ref ((q 19)), .ref ((q 20)), .ref ((q 21)), .ref ((q 22)), .ref ((q 23)), .ref ((q 24)), .ref ((q 25)), .ref ((q 26)), .ref ((q 27)), .ref ((q 28)), .ref ((q 29)), .ref ((q 30)), .int 0, .ref ((q 32)), .ref ((q 33)), .ref ((q 34)), .ref ((q 35)), .ref ((q 36)), .ref ((q 37)), .ref ((q 38)), .int 0, .int 0, .int 0, .int 0, .int 0, .int 0, .ref ((q 45)), .ref ((q 46)), .ref ((q 47)), .ref ((q 48)), .ref ((q 49)), .ref ((q 50)), .ref ((q 51))]))] := hD
  generalize H1 = H at hP hS ⊢
  refine lv_istore (lv' := [(6, .int r_2), (5, .int r_1), (4, .int 0), (3, .ref qo), (2, .ref h6), (1, .ref h5), (0, .ref b)]) hx hb dL_law_479 hl5 (by decide) rfl (fun ls hl => ?_)
  refine lv_aload_n hx hb dL_law_481 rfl (lv_at hl 4 rfl) ?_
  have hPc := hP.sub (ws' := [(h6, .inr (6, [.ref ((q 0)), .int 0, .int 1, .int 0, .int 0, .ref ((q 5)), .ref ((q 6)), .ref ((q 7)), .ref ((q 8)), .ref ((q 9)), .ref ((q 10)), .ref ((q 11)), .ref ((q 12)), .int 0, .int ((-1)), .int 0, .ref ((q 16)), .int 0, .ref ((q 18)), .ref ((q 19)), .ref ((q 20)), .ref ((q 21)), .ref ((q 22)), .ref ((q 23)), .ref ((q 24)), .ref ((q 25)), .ref ((q 26)), .ref ((q 27)), .ref ((q 28)), .ref ((q 29)), .ref ((q 30)), .int 0, .ref ((q 32)), .ref ((q 33)), .ref ((q 34)), .ref ((q 35)), .ref ((q 36)), .ref ((q 37)), .ref ((q 38)), .int 0, .int 0, .int 0, .int 0, .int 0, .int 0, .ref ((q 45)), .ref ((q 46)), .ref ((q 47)), .ref ((q 48)), .ref ((q 49)), .ref ((q 50)), .ref ((q 51))]))]) [0] rfl
  have hDc := hD.sub (ws' := [(h6, .inr (6, [.ref ((q 0)), .int 0, .int 1, .int 0, .int 0, .ref ((q 5)), .ref ((q 6)), .ref ((q 7)), .ref ((q 8)), .ref ((q 9)), .ref ((q 10)), .ref ((q 11)), .ref ((q 12)), .int 0, .int ((-1)), .int 0, .ref ((q 16)), .int 0, .ref ((q 18)), .ref ((q 19)), .ref ((q 20)), .ref ((q 21)), .ref ((q 22)), .ref ((q 23)), .ref ((q 24)), .ref ((q 25)), .ref ((q 26)), .ref ((q 27)), .ref ((q 28)), .ref ((q 29)), .ref ((q 30)), .int 0, .ref ((q 32)), .ref ((q 33)), .ref ((q 34)), .ref ((q 35)), .ref ((q 36)), .ref ((q 37)), .ref ((q 38)), .int 0, .int 0, .int 0, .int 0, .int 0, .int 0, .ref ((q 45)), .ref ((q 46)), .ref ((q 47)), .ref ((q 48)), .ref ((q 49)), .ref ((q 50)), .ref ((q 51))]))]) [0] (by decide) rfl
  have hKk := hKm.sub (tys' := []) [] rfl
  have hFc := va_free (wc := [(h6, .inr (6, [.ref ((q 0)), .int 0, .int 1, .int 0, .int 0, .ref ((q 5)), .ref ((q 6)), .ref ((q 7)), .ref ((q 8)), .ref ((q 9)), .ref ((q 10)), .ref ((q 11)), .ref ((q 12)), .int 0, .int ((-1)), .int 0, .ref ((q 16)), .int 0, .ref ((q 18)), .ref ((q 19)), .ref ((q 20)), .ref ((q 21)), .ref ((q 22)), .ref ((q 23)), .ref ((q 24)), .ref ((q 25)), .ref ((q 26)), .ref ((q 27)), .ref ((q 28)), .ref ((q 29)), .ref ((q 30)), .int 0, .ref ((q 32)), .ref ((q 33)), .ref ((q 34)), .ref ((q 35)), .ref ((q 36)), .ref ((q 37)), .ref ((q 38)), .int 0, .int 0, .int 0, .int 0, .int 0, .int 0, .ref ((q 45)), .ref ((q 46)), .ref ((q 47)), .ref ((q 48)), .ref ((q 49)), .ref ((q 50)), .ref ((q 51))]))]) hD hS hA [0] rfl
  refine va_calli (va_runV (As := []) (rest := []) ⟨hx, hb, hml, hown, hts⟩ (c_X6_thrown l dC dI h6 q H.size) (cwV 0 hts gl_X6_thrown rfl rfl rfl (by decide +kernel) ⟨Nat.le_of_ble_eq_true rfl, Nat.le_of_ble_eq_true rfl⟩) ⟨fun a U g mk q => by obtain ⟨q0, q1, qP, qK, qD⟩ := q; exact ⟨q0, q1, qP, va_K.moved (u := U) (U := U.calling g mk a) (Vm.Alike.refl U.vm) qK, qD⟩, va_recv hKk hPc (ci := 6) (q0 := 0) rfl rfl, fun U hU hW => ⟨rfl, by rw [hU], by rw [hU]; exact hPc, va_K.moved hW.alike hKk, hDc.weaken (fun _ _ _ _ => trivial)⟩⟩ rfl rfl hl.1 rfl (lv_room (Nat.le_of_ble_eq_true rfl)) dL_law_482 ⟨show (46 + 0 : Nat) ≤ 600002 from by omega, show (5790 + 0 : Nat) ≤ 7302232 from by omega⟩) hS (fun q _ h => hFc q h) hFc (fun r_3 u t H1 locs ht hvm hw3 hB hz1 hk1 hS => ?_)
  refine W.widen (k := 46) (n := 5790) (by omega) (by omega) ?_
  try dsimp only at hw3
  refine lv_iload hx hb dL_law_485 (lv_at hl 1 rfl) ?_
  refine lv_icmp_eq (tgt := 492) hx hb dL_law_487 (by decide) (fun _ => ?_) (fun c_9 => absurd (hw3.trans hw1.symm) c_9)
  refine lv_iload hx hb dL_law_492 (lv_at hl 1 rfl) ?_
  refine lv_if_ne (tgt := 509) hx hb dL_law_494 (by decide) (fun _ => ?_) (fun c_9 => absurd (hw1.symm.trans c_9) (by decide))
  refine lv_goto (tgt := 856) hx hb dL_law_509 (by decide) ?_
  exact law_tail l C0 (by omega) (by omega) hS (lv_sub hl [2, 3, 4, 5, 6] rfl) rfl
set_option maxHeartbeats 4000000 in
set_option maxRecDepth 100000 in
theorem law_case_9 {p : Program} {e : Env} {s : State} {m : MethodId} {below : List Frame} {meth : Method} {c : Code} (l : Launch) {b : Nat} {xs : Nat → Int32} (C0 : lw_At p s m meth c b 6 xs)  {dC : Nat → ClassId} {dI : Nat → Nat → Nat} {h5 qT qF qN qR qC h6 qo : Nat} {cT cF cN cR cC : ClassId} {q : Nat → Nat} {cq : Nat → ClassId} {fw fe : Nat → Int32} (hKc : va_K (dC, dI) vwCl (cTy cT cF cN cR cC) s) (hKm : va_K (dC, dI) vwCl (mT cq) s) {H : Heap} {locs : List Loc} (hP : va_P (dC, dI) vwCl (cW h5 qT qF qN qR qC cT cF cN cR cC ++ mW h6 q cq fw fe) H) (hD : va_D (fun q : Nat => s.heap.size ≤ q) (cW h5 qT qF qN qR qC cT cF cN cR cC ++ mW h6 q cq fw fe)) (hS : va_S (fun q : Nat => s.heap.size ≤ q) s.heap H locs) {ls : Array Slot} (hl : lv_has ls 7 [(4, .int 0), (3, .ref qo), (2, .ref h6), (1, .ref h5), (0, .ref b)]) : W p l e room_1 s m #[Value.ref b] below meth c H locs 45 5784 (lw_Z below #[Value.ref b] s) (F0 m 512 ls []) := by
  obtain ⟨hx, hb, hr, hml, hown, hts, hX, hbl, hlocks, hgv⟩ := id C0
  have hts := fun w h => hts w (wl_in w h)
  have hA : ∀ q : Nat, s.heap.size ≤ q → (fun q : Nat => s.heap.size ≤ q) q := fun _ h => h
  have hbA : ¬ (fun q : Nat => s.heap.size ≤ q) b := Nat.not_le.mpr hbl
  refine lv_aload_n hx hb dL_law_512 rfl (lv_at hl 3 rfl) ?_
  refine lv_aload_n hx hb dL_law_513 rfl (lv_at hl 4 rfl) ?_
  refine lv_iload hx hb dL_law_514 (lv_at hl 0 rfl) ?_
  refine lv_iconst (v := 1) hx hb dL_law_516 (by decide) ?_
  refine lv_iadd hx hb dL_law_517 ?_
  rw [show ((0 : Int32) + 1) = 1 from by decide]
  refine va_sld hx hb hX hbl hbA hS (by unfold vp_in; decide) dL_law_518 ?_
  refine lv_aload_n hx hb dL_law_519 rfl (lv_at hl 4 rfl) ?_
  refine lv_iload hx hb dL_law_520 (lv_at hl 0 rfl) ?_
  refine lv_iconst (v := 2) hx hb dL_law_522 (by decide) ?_
  refine lv_iadd hx hb dL_law_523 ?_
  rw [show ((0 : Int32) + 2) = 2 from by decide]
  refine va_sld hx hb hX hbl hbA hS (by unfold vp_in; decide) dL_law_524 ?_
  have hPc := hP.sub (ws' := [(h5, .inr (5, [.ref qT, .int 0, .ref qF, .int 0, .int 0, .int ((-1)), .int 0, .ref qN, .int 0, .ref qR, .int 0, .int 0, .ref qC]))]) [0] rfl
  have hDc := hD.sub (ws' := [(h5, .inr (5, [.ref qT, .int 0, .ref qF, .int 0, .int 0, .int ((-1)), .int 0, .ref qN, .int 0, .ref qR, .int 0, .int 0, .ref qC]))]) [0] (by decide) rfl
  have hKk := hKc.sub (tys' := []) [] rfl
  have hFc := va_free (wc := [(h5, .inr (5, [.ref qT, .int 0, .ref qF, .int 0, .int 0, .int ((-1)), .int 0, .ref qN, .int 0, .ref qR, .int 0, .int 0, .ref qC]))]) hD hS hA [0] rfl
  refine va_calli (va_runV (As := [.int (xs (Int32.toNatClampNeg 1)), .int (xs (Int32.toNatClampNeg 2))]) (rest := []) ⟨hx, hb, hml, hown, hts⟩ (c_X5_entry l dC dI h5 qT qF qN qR qC (xs (Int32.toNatClampNeg 1)) (xs (Int32.toNatClampNeg 2)) H.size) (cwV 2 hts gl_X5_entry rfl rfl rfl (by decide +kernel) ⟨Nat.le_of_ble_eq_true rfl, Nat.le_of_ble_eq_true rfl⟩) ⟨fun a U g mk q => by obtain ⟨q0, q1, qP, qK, qD⟩ := q; exact ⟨q0, q1, qP, va_K.moved (u := U) (U := U.calling g mk a) (Vm.Alike.refl U.vm) qK, qD⟩, va_recv hKk hPc (ci := 5) (q0 := 0) rfl rfl, fun U hU hW => ⟨rfl, by rw [hU], by rw [hU]; exact hPc, va_K.moved hW.alike hKk, hDc.weaken (fun _ _ _ _ => trivial)⟩⟩ rfl rfl hl.1 rfl (lv_room (Nat.le_of_ble_eq_true rfl)) dL_law_525 ⟨show (45 + 0 : Nat) ≤ 600002 from by omega, show (5784 + 0 : Nat) ≤ 7302232 from by omega⟩) hS (fun q _ h => hFc q h) hFc (fun r_1 u t H1 locs ht hvm hw1 hB hz1 hk1 hS => ?_)
  refine W.widen (k := 45) (n := 5784) (by omega) (by omega) ?_
  try dsimp only at hw1
  obtain ⟨hP, hD⟩ := va_join (wr := [(h6, .inr (6, [.ref ((q 0)), .int 0, .int 0, .int 0, .int 0, .ref ((q 5)), .ref ((q 6)), .ref ((q 7)), .ref ((q 8)), .ref ((q 9)), .ref ((q 10)), .ref ((q 11)), .ref ((q 12)), .int 0, .int ((-1)), .int 0, .ref ((q 16)), .int 0, .ref ((q 18)), .ref ((q 19)), .ref ((q 20)), .ref ((q 21)), .ref ((q 22)), .ref ((q 23)), .ref ((q 24)), .ref ((q 25)), .ref ((q 26)), .ref ((q 27)), .ref ((q 28)), .ref ((q 29)), .ref ((q 30)), .int 0, .ref ((q 32)), .ref ((q 33)), .ref ((q 34)), .ref ((q 35)), .ref ((q 36)), .ref ((q 37)), .ref ((q 38)), .int 0, .int 0, .int 0, .int 0, .int 0, .int 0, .ref ((q 45)), .ref ((q 46)), .ref ((q 47)), .ref ((q 48)), .ref ((q 49)), .ref ((q 50)), .ref ((q 51))]))]) (w1 := []) hP hD [0] [6] rfl rfl (by decide) (by decide) hk1 hFc lw_nilP lw_nilD
  have hP : va_P (dC, dI) vwCl [(h6, .inr (6, [.ref ((q 0)), .int 0, .int 0, .int 0, .int 0, .ref ((q 5)), .ref ((q 6)), .ref ((q 7)), .ref ((q 8)), .ref ((q 9)), .ref ((q 10)), .ref ((q 11)), .ref ((q 12)), .int 0, .int ((-1)), .int 0, .ref ((q 16)), .int 0, .ref ((q 18)), .ref ((q 19)), .ref ((q 20)), .ref ((q 21)), .ref ((q 22)), .ref ((q 23)), .ref ((q 24)), .ref ((q 25)), .ref ((q 26)), .ref ((q 27)), .ref ((q 28)), .ref ((q 29)), .ref ((q 30)), .int 0, .ref ((q 32)), .ref ((q 33)), .ref ((q 34)), .ref ((q 35)), .ref ((q 36)), .ref ((q 37)), .ref ((q 38)), .int 0, .int 0, .int 0, .int 0, .int 0, .int 0, .ref ((q 45)), .ref ((q 46)), .ref ((q 47)), .ref ((q 48)), .ref ((q 49)), .ref ((q 50)), .ref ((q 51))]))] H1 := hP
  have hD : va_D (fun q : Nat => s.heap.size ≤ q) [(h6, .inr (6, [.ref ((q 0)), .int 0, .int 0, .int 0, .int 0, .ref ((q 5)), .ref ((q 6)), .ref ((q 7)), .ref ((q 8)), .ref ((q 9)), .ref ((q 10)), .ref ((q 11)), .ref ((q 12)), .int 0, .int ((-1)), .int 0, .ref ((q 16)), .int 0, .ref ((q 18)), .ref ((q 19)), .ref ((q 20)), .ref ((q 21)), .ref ((q 22)), .ref ((q 23)), .ref ((q 24)), .ref ((q 25)), .ref ((q 26)), .ref ((q 27)), .ref ((q 28)), .ref ((q 29)), .ref ((q 30)), .int 0, .ref ((q 32)), .ref ((q 33)), .ref ((q 34)), .ref ((q 35)), .ref ((q 36)), .ref ((q 37)), .ref ((q 38)), .int 0, .int 0, .int 0, .int 0, .int 0, .int 0, .ref ((q 45)), .ref ((q 46)), .ref ((q 47)), .ref ((q 48)), .ref ((q 49)), .ref ((q 50)), .ref ((q 51))]))] := hD
  generalize H1 = H at hP hS ⊢
  refine lv_aload_n hx hb dL_law_528 rfl (lv_at hl 2 rfl) ?_
  refine lv_aload_n hx hb dL_law_529 rfl (lv_at hl 4 rfl) ?_
  refine lv_iload hx hb dL_law_530 (lv_at hl 0 rfl) ?_
  refine lv_iconst (v := 1) hx hb dL_law_532 (by decide) ?_
  refine lv_iadd hx hb dL_law_533 ?_
  rw [show ((0 : Int32) + 1) = 1 from by decide]
  refine va_sld hx hb hX hbl hbA hS (by unfold vp_in; decide) dL_law_534 ?_
  refine lv_aload_n hx hb dL_law_535 rfl (lv_at hl 4 rfl) ?_
  refine lv_iload hx hb dL_law_536 (lv_at hl 0 rfl) ?_
  refine lv_iconst (v := 2) hx hb dL_law_538 (by decide) ?_
  refine lv_iadd hx hb dL_law_539 ?_
  rw [show ((0 : Int32) + 2) = 2 from by decide]
  refine va_sld hx hb hX hbl hbA hS (by unfold vp_in; decide) dL_law_540 ?_
  have hPc := hP.sub (ws' := [(h6, .inr (6, [.ref ((q 0)), .int 0, .int 0, .int 0, .int 0, .ref ((q 5)), .ref ((q 6)), .ref ((q 7)), .ref ((q 8)), .ref ((q 9)), .ref ((q 10)), .ref ((q 11)), .ref ((q 12)), .int 0, .int ((-1)), .int 0, .ref ((q 16)), .int 0, .ref ((q 18)), .ref ((q 19)), .ref ((q 20)), .ref ((q 21)), .ref ((q 22)), .ref ((q 23)), .ref ((q 24)), .ref ((q 25)), .ref ((q 26)), .ref ((q 27)), .ref ((q 28)), .ref ((q 29)), .ref ((q 30)), .int 0, .ref ((q 32)), .ref ((q 33)), .ref ((q 34)), .ref ((q 35)), .ref ((q 36)), .ref ((q 37)), .ref ((q 38)), .int 0, .int 0, .int 0, .int 0, .int 0, .int 0, .ref ((q 45)), .ref ((q 46)), .ref ((q 47)), .ref ((q 48)), .ref ((q 49)), .ref ((q 50)), .ref ((q 51))]))]) [0] rfl
  have hDc := hD.sub (ws' := [(h6, .inr (6, [.ref ((q 0)), .int 0, .int 0, .int 0, .int 0, .ref ((q 5)), .ref ((q 6)), .ref ((q 7)), .ref ((q 8)), .ref ((q 9)), .ref ((q 10)), .ref ((q 11)), .ref ((q 12)), .int 0, .int ((-1)), .int 0, .ref ((q 16)), .int 0, .ref ((q 18)), .ref ((q 19)), .ref ((q 20)), .ref ((q 21)), .ref ((q 22)), .ref ((q 23)), .ref ((q 24)), .ref ((q 25)), .ref ((q 26)), .ref ((q 27)), .ref ((q 28)), .ref ((q 29)), .ref ((q 30)), .int 0, .ref ((q 32)), .ref ((q 33)), .ref ((q 34)), .ref ((q 35)), .ref ((q 36)), .ref ((q 37)), .ref ((q 38)), .int 0, .int 0, .int 0, .int 0, .int 0, .int 0, .ref ((q 45)), .ref ((q 46)), .ref ((q 47)), .ref ((q 48)), .ref ((q 49)), .ref ((q 50)), .ref ((q 51))]))]) [0] (by decide) rfl
  have hKk := hKm.sub (tys' := []) [] rfl
  have hFc := va_free (wc := [(h6, .inr (6, [.ref ((q 0)), .int 0, .int 0, .int 0, .int 0, .ref ((q 5)), .ref ((q 6)), .ref ((q 7)), .ref ((q 8)), .ref ((q 9)), .ref ((q 10)), .ref ((q 11)), .ref ((q 12)), .int 0, .int ((-1)), .int 0, .ref ((q 16)), .int 0, .ref ((q 18)), .ref ((q 19)), .ref ((q 20)), .ref ((q 21)), .ref ((q 22)), .ref ((q 23)), .ref ((q 24)), .ref ((q 25)), .ref ((q 26)), .ref ((q 27)), .ref ((q 28)), .ref ((q 29)), .ref ((q 30)), .int 0, .ref ((q 32)), .ref ((q 33)), .ref ((q 34)), .ref ((q 35)), .ref ((q 36)), .ref ((q 37)), .ref ((q 38)), .int 0, .int 0, .int 0, .int 0, .int 0, .int 0, .ref ((q 45)), .ref ((q 46)), .ref ((q 47)), .ref ((q 48)), .ref ((q 49)), .ref ((q 50)), .ref ((q 51))]))]) hD hS hA [0] rfl
  refine va_calli (va_runV (As := [.int (xs (Int32.toNatClampNeg 1)), .int (xs (Int32.toNatClampNeg 2))]) (rest := [.int r_1]) ⟨hx, hb, hml, hown, hts⟩ (c_X6_entry l dC dI h6 q (xs (Int32.toNatClampNeg 1)) (xs (Int32.toNatClampNeg 2)) H.size) (cwV 2 hts gl_X6_entry rfl rfl rfl (by decide +kernel) ⟨Nat.le_of_ble_eq_true rfl, Nat.le_of_ble_eq_true rfl⟩) ⟨fun a U g mk q => by obtain ⟨q0, q1, qP, qK, qD⟩ := q; exact ⟨q0, q1, qP, va_K.moved (u := U) (U := U.calling g mk a) (Vm.Alike.refl U.vm) qK, qD⟩, va_recv hKk hPc (ci := 6) (q0 := 0) rfl rfl, fun U hU hW => ⟨rfl, by rw [hU], by rw [hU]; exact hPc, va_K.moved hW.alike hKk, hDc.weaken (fun _ _ _ _ => trivial)⟩⟩ rfl rfl hl.1 rfl (lv_room (Nat.le_of_ble_eq_true rfl)) dL_law_541 ⟨show (45 + 0 : Nat) ≤ 600002 from by omega, show (5784 + 0 : Nat) ≤ 7302232 from by omega⟩) hS (fun q _ h => hFc q h) hFc (fun r_2 u t H1 locs ht hvm hw2 hB hz1 hk1 hS => ?_)
  refine W.widen (k := 45) (n := 5784) (by omega) (by omega) ?_
  try dsimp only at hw2
  refine lv_icmp_eq (tgt := 856) hx hb dL_law_544 (by decide) (fun _ => ?_) (fun c_9 => absurd (hw1.trans hw2.symm) c_9)
  exact law_tail l C0 (by omega) (by omega) hS hl rfl
set_option maxHeartbeats 4000000 in
set_option maxRecDepth 100000 in
theorem law_case_10 {p : Program} {e : Env} {s : State} {m : MethodId} {below : List Frame} {meth : Method} {c : Code} (l : Launch) {b : Nat} {xs : Nat → Int32} (C0 : lw_At p s m meth c b 6 xs)  {dC : Nat → ClassId} {dI : Nat → Nat → Nat} {h5 qT qF qN qR qC h6 qo : Nat} {cT cF cN cR cC : ClassId} {q : Nat → Nat} {cq : Nat → ClassId} {fw fe : Nat → Int32} (hKc : va_K (dC, dI) vwCl (cTy cT cF cN cR cC) s) (hKm : va_K (dC, dI) vwCl (mT cq) s) {H : Heap} {locs : List Loc} (hP : va_P (dC, dI) vwCl (cW h5 qT qF qN qR qC cT cF cN cR cC ++ mW h6 q cq fw fe) H) (hD : va_D (fun q : Nat => s.heap.size ≤ q) (cW h5 qT qF qN qR qC cT cF cN cR cC ++ mW h6 q cq fw fe)) (hS : va_S (fun q : Nat => s.heap.size ≤ q) s.heap H locs) {ls : Array Slot} (hl : lv_has ls 7 [(4, .int 0), (3, .ref qo), (2, .ref h6), (1, .ref h5), (0, .ref b)]) : W p l e room_1 s m #[Value.ref b] below meth c H locs 45 5784 (lw_Z below #[Value.ref b] s) (F0 m 549 ls []) := by
  obtain ⟨hx, hb, hr, hml, hown, hts, hX, hbl, hlocks, hgv⟩ := id C0
  have hts := fun w h => hts w (wl_in w h)
  have hA : ∀ q : Nat, s.heap.size ≤ q → (fun q : Nat => s.heap.size ≤ q) q := fun _ h => h
  have hbA : ¬ (fun q : Nat => s.heap.size ≤ q) b := Nat.not_le.mpr hbl
  refine lv_aload_n hx hb dL_law_549 rfl (lv_at hl 3 rfl) ?_
  refine lv_aload_n hx hb dL_law_550 rfl (lv_at hl 4 rfl) ?_
  refine lv_iload hx hb dL_law_551 (lv_at hl 0 rfl) ?_
  refine lv_iconst (v := 1) hx hb dL_law_553 (by decide) ?_
  refine lv_iadd hx hb dL_law_554 ?_
  rw [show ((0 : Int32) + 1) = 1 from by decide]
  refine va_sld hx hb hX hbl hbA hS (by unfold vp_in; decide) dL_law_555 ?_
  refine lv_aload_n hx hb dL_law_556 rfl (lv_at hl 4 rfl) ?_
  refine lv_iload hx hb dL_law_557 (lv_at hl 0 rfl) ?_
  refine lv_iconst (v := 2) hx hb dL_law_559 (by decide) ?_
  refine lv_iadd hx hb dL_law_560 ?_
  rw [show ((0 : Int32) + 2) = 2 from by decide]
  refine va_sld hx hb hX hbl hbA hS (by unfold vp_in; decide) dL_law_561 ?_
  refine lv_aload_n hx hb dL_law_562 rfl (lv_at hl 4 rfl) ?_
  refine lv_iload hx hb dL_law_563 (lv_at hl 0 rfl) ?_
  refine lv_iconst (v := 3) hx hb dL_law_565 (by decide) ?_
  refine lv_iadd hx hb dL_law_566 ?_
  rw [show ((0 : Int32) + 3) = 3 from by decide]
  refine va_sld hx hb hX hbl hbA hS (by unfold vp_in; decide) dL_law_567 ?_
  refine lv_aload_n hx hb dL_law_568 rfl (lv_at hl 4 rfl) ?_
  refine lv_iload hx hb dL_law_569 (lv_at hl 0 rfl) ?_
  refine lv_iconst (v := 4) hx hb dL_law_571 (by decide) ?_
  refine lv_iadd hx hb dL_law_572 ?_
  rw [show ((0 : Int32) + 4) = 4 from by decide]
  refine va_sld hx hb hX hbl hbA hS (by unfold vp_in; decide) dL_law_573 ?_
  have hPc := hP.sub (ws' := [(h5, .inr (5, [.ref qT, .int 0, .ref qF, .int 0, .int 0, .int ((-1)), .int 0, .ref qN, .int 0, .ref qR, .int 0, .int 0, .ref qC]))]) [0] rfl
  have hDc := hD.sub (ws' := [(h5, .inr (5, [.ref qT, .int 0, .ref qF, .int 0, .int 0, .int ((-1)), .int 0, .ref qN, .int 0, .ref qR, .int 0, .int 0, .ref qC]))]) [0] (by decide) rfl
  have hKk := hKc.sub (tys' := []) [] rfl
  have hFc := va_free (wc := [(h5, .inr (5, [.ref qT, .int 0, .ref qF, .int 0, .int 0, .int ((-1)), .int 0, .ref qN, .int 0, .ref qR, .int 0, .int 0, .ref qC]))]) hD hS hA [0] rfl
  refine va_calli (va_runV (As := [.int (xs (Int32.toNatClampNeg 1)), .int (xs (Int32.toNatClampNeg 2)), .int (xs (Int32.toNatClampNeg 3)), .int (xs (Int32.toNatClampNeg 4))]) (rest := []) ⟨hx, hb, hml, hown, hts⟩ (c_X5_time l dC dI h5 qT qF qN qR qC (xs (Int32.toNatClampNeg 1)) (xs (Int32.toNatClampNeg 2)) (xs (Int32.toNatClampNeg 3)) (xs (Int32.toNatClampNeg 4)) H.size) (cwV 4 hts gl_X5_time rfl rfl rfl (by decide +kernel) ⟨Nat.le_of_ble_eq_true rfl, Nat.le_of_ble_eq_true rfl⟩) ⟨fun a U g mk q => by obtain ⟨q0, q1, qP, qK, qD⟩ := q; exact ⟨q0, q1, qP, va_K.moved (u := U) (U := U.calling g mk a) (Vm.Alike.refl U.vm) qK, qD⟩, va_recv hKk hPc (ci := 5) (q0 := 0) rfl rfl, fun U hU hW => ⟨rfl, by rw [hU], by rw [hU]; exact hPc, va_K.moved hW.alike hKk, hDc.weaken (fun _ _ _ _ => trivial)⟩⟩ rfl rfl hl.1 rfl (lv_room (Nat.le_of_ble_eq_true rfl)) dL_law_574 ⟨show (45 + 0 : Nat) ≤ 600002 from by omega, show (5784 + 0 : Nat) ≤ 7302232 from by omega⟩) hS (fun q _ h => hFc q h) hFc (fun r_1 u t H1 locs ht hvm hw1 hB hz1 hk1 hS => ?_)
  refine W.widen (k := 45) (n := 5784) (by omega) (by omega) ?_
  try dsimp only at hw1
  obtain ⟨hP, hD⟩ := va_join (wr := [(h6, .inr (6, [.ref ((q 0)), .int 0, .int 0, .int 0, .int 0, .ref ((q 5)), .ref ((q 6)), .ref ((q 7)), .ref ((q 8)), .ref ((q 9)), .ref ((q 10)), .ref ((q 11)), .ref ((q 12)), .int 0, .int ((-1)), .int 0, .ref ((q 16)), .int 0, .ref ((q 18)), .ref ((q 19)), .ref ((q 20)), .ref ((q 21)), .ref ((q 22)), .ref ((q 23)), .ref ((q 24)), .ref ((q 25)), .ref ((q 26)), .ref ((q 27)), .ref ((q 28)), .ref ((q 29)), .ref ((q 30)), .int 0, .ref ((q 32)), .ref ((q 33)), .ref ((q 34)), .ref ((q 35)), .ref ((q 36)), .ref ((q 37)), .ref ((q 38)), .int 0, .int 0, .int 0, .int 0, .int 0, .int 0, .ref ((q 45)), .ref ((q 46)), .ref ((q 47)), .ref ((q 48)), .ref ((q 49)), .ref ((q 50)), .ref ((q 51))]))]) (w1 := []) hP hD [0] [6] rfl rfl (by decide) (by decide) hk1 hFc lw_nilP lw_nilD
  have hP : va_P (dC, dI) vwCl [(h6, .inr (6, [.ref ((q 0)), .int 0, .int 0, .int 0, .int 0, .ref ((q 5)), .ref ((q 6)), .ref ((q 7)), .ref ((q 8)), .ref ((q 9)), .ref ((q 10)), .ref ((q 11)), .ref ((q 12)), .int 0, .int ((-1)), .int 0, .ref ((q 16)), .int 0, .ref ((q 18)), .ref ((q 19)), .ref ((q 20)), .ref ((q 21)), .ref ((q 22)), .ref ((q 23)), .ref ((q 24)), .ref ((q 25)), .ref ((q 26)), .ref ((q 27)), .ref ((q 28)), .ref ((q 29)), .ref ((q 30)), .int 0, .ref ((q 32)), .ref ((q 33)), .ref ((q 34)), .ref ((q 35)), .ref ((q 36)), .ref ((q 37)), .ref ((q 38)), .int 0, .int 0, .int 0, .int 0, .int 0, .int 0, .ref ((q 45)), .ref ((q 46)), .ref ((q 47)), .ref ((q 48)), .ref ((q 49)), .ref ((q 50)), .ref ((q 51))]))] H1 := hP
  have hD : va_D (fun q : Nat => s.heap.size ≤ q) [(h6, .inr (6, [.ref ((q 0)), .int 0, .int 0, .int 0, .int 0, .ref ((q 5)), .ref ((q 6)), .ref ((q 7)), .ref ((q 8)), .ref ((q 9)), .ref ((q 10)), .ref ((q 11)), .ref ((q 12)), .int 0, .int ((-1)), .int 0, .ref ((q 16)), .int 0, .ref ((q 18)), .ref ((q 19)), .ref ((q 20)), .ref ((q 21)), .ref ((q 22)), .ref ((q 23)), .ref ((q 24)), .ref ((q 25)), .ref ((q 26)), .ref ((q 27)), .ref ((q 28)), .ref ((q 29)), .ref ((q 30)), .int 0, .ref ((q 32)), .ref ((q 33)), .ref ((q 34)), .ref ((q 35)), .ref ((q 36)), .ref ((q 37)), .ref ((q 38)), .int 0, .int 0, .int 0, .int 0, .int 0, .int 0, .ref ((q 45)), .ref ((q 46)), .ref ((q 47)), .ref ((q 48)), .ref ((q 49)), .ref ((q 50)), .ref ((q 51))]))] := hD
  generalize H1 = H at hP hS ⊢
  refine lv_aload_n hx hb dL_law_577 rfl (lv_at hl 2 rfl) ?_
  refine lv_aload_n hx hb dL_law_578 rfl (lv_at hl 4 rfl) ?_
  refine lv_iload hx hb dL_law_579 (lv_at hl 0 rfl) ?_
  refine lv_iconst (v := 1) hx hb dL_law_581 (by decide) ?_
  refine lv_iadd hx hb dL_law_582 ?_
  rw [show ((0 : Int32) + 1) = 1 from by decide]
  refine va_sld hx hb hX hbl hbA hS (by unfold vp_in; decide) dL_law_583 ?_
  refine lv_aload_n hx hb dL_law_584 rfl (lv_at hl 4 rfl) ?_
  refine lv_iload hx hb dL_law_585 (lv_at hl 0 rfl) ?_
  refine lv_iconst (v := 2) hx hb dL_law_587 (by decide) ?_
  refine lv_iadd hx hb dL_law_588 ?_
  rw [show ((0 : Int32) + 2) = 2 from by decide]
  refine va_sld hx hb hX hbl hbA hS (by unfold vp_in; decide) dL_law_589 ?_
  refine lv_aload_n hx hb dL_law_590 rfl (lv_at hl 4 rfl) ?_
  refine lv_iload hx hb dL_law_591 (lv_at hl 0 rfl) ?_
  refine lv_iconst (v := 3) hx hb dL_law_593 (by decide) ?_
  refine lv_iadd hx hb dL_law_594 ?_
  rw [show ((0 : Int32) + 3) = 3 from by decide]
  refine va_sld hx hb hX hbl hbA hS (by unfold vp_in; decide) dL_law_595 ?_
  refine lv_aload_n hx hb dL_law_596 rfl (lv_at hl 4 rfl) ?_
  refine lv_iload hx hb dL_law_597 (lv_at hl 0 rfl) ?_
  refine lv_iconst (v := 4) hx hb dL_law_599 (by decide) ?_
  refine lv_iadd hx hb dL_law_600 ?_
  rw [show ((0 : Int32) + 4) = 4 from by decide]
  refine va_sld hx hb hX hbl hbA hS (by unfold vp_in; decide) dL_law_601 ?_
  have hPc := hP.sub (ws' := [(h6, .inr (6, [.ref ((q 0)), .int 0, .int 0, .int 0, .int 0, .ref ((q 5)), .ref ((q 6)), .ref ((q 7)), .ref ((q 8)), .ref ((q 9)), .ref ((q 10)), .ref ((q 11)), .ref ((q 12)), .int 0, .int ((-1)), .int 0, .ref ((q 16)), .int 0, .ref ((q 18)), .ref ((q 19)), .ref ((q 20)), .ref ((q 21)), .ref ((q 22)), .ref ((q 23)), .ref ((q 24)), .ref ((q 25)), .ref ((q 26)), .ref ((q 27)), .ref ((q 28)), .ref ((q 29)), .ref ((q 30)), .int 0, .ref ((q 32)), .ref ((q 33)), .ref ((q 34)), .ref ((q 35)), .ref ((q 36)), .ref ((q 37)), .ref ((q 38)), .int 0, .int 0, .int 0, .int 0, .int 0, .int 0, .ref ((q 45)), .ref ((q 46)), .ref ((q 47)), .ref ((q 48)), .ref ((q 49)), .ref ((q 50)), .ref ((q 51))]))]) [0] rfl
  have hDc := hD.sub (ws' := [(h6, .inr (6, [.ref ((q 0)), .int 0, .int 0, .int 0, .int 0, .ref ((q 5)), .ref ((q 6)), .ref ((q 7)), .ref ((q 8)), .ref ((q 9)), .ref ((q 10)), .ref ((q 11)), .ref ((q 12)), .int 0, .int ((-1)), .int 0, .ref ((q 16)), .int 0, .ref ((q 18)), .ref ((q 19)), .ref ((q 20)), .ref ((q 21)), .ref ((q 22)), .ref ((q 23)), .ref ((q 24)), .ref ((q 25)), .ref ((q 26)), .ref ((q 27)), .ref ((q 28)), .ref ((q 29)), .ref ((q 30)), .int 0, .ref ((q 32)), .ref ((q 33)), .ref ((q 34)), .ref ((q 35)), .ref ((q 36)), .ref ((q 37)), .ref ((q 38)), .int 0, .int 0, .int 0, .int 0, .int 0, .int 0, .ref ((q 45)), .ref ((q 46)), .ref ((q 47)), .ref ((q 48)), .ref ((q 49)), .ref ((q 50)), .ref ((q 51))]))]) [0] (by decide) rfl
  have hKk := hKm.sub (tys' := []) [] rfl
  have hFc := va_free (wc := [(h6, .inr (6, [.ref ((q 0)), .int 0, .int 0, .int 0, .int 0, .ref ((q 5)), .ref ((q 6)), .ref ((q 7)), .ref ((q 8)), .ref ((q 9)), .ref ((q 10)), .ref ((q 11)), .ref ((q 12)), .int 0, .int ((-1)), .int 0, .ref ((q 16)), .int 0, .ref ((q 18)), .ref ((q 19)), .ref ((q 20)), .ref ((q 21)), .ref ((q 22)), .ref ((q 23)), .ref ((q 24)), .ref ((q 25)), .ref ((q 26)), .ref ((q 27)), .ref ((q 28)), .ref ((q 29)), .ref ((q 30)), .int 0, .ref ((q 32)), .ref ((q 33)), .ref ((q 34)), .ref ((q 35)), .ref ((q 36)), .ref ((q 37)), .ref ((q 38)), .int 0, .int 0, .int 0, .int 0, .int 0, .int 0, .ref ((q 45)), .ref ((q 46)), .ref ((q 47)), .ref ((q 48)), .ref ((q 49)), .ref ((q 50)), .ref ((q 51))]))]) hD hS hA [0] rfl
  refine va_calli (va_runV (As := [.int (xs (Int32.toNatClampNeg 1)), .int (xs (Int32.toNatClampNeg 2)), .int (xs (Int32.toNatClampNeg 3)), .int (xs (Int32.toNatClampNeg 4))]) (rest := [.int r_1]) ⟨hx, hb, hml, hown, hts⟩ (c_X6_time l dC dI h6 q (xs (Int32.toNatClampNeg 1)) (xs (Int32.toNatClampNeg 2)) (xs (Int32.toNatClampNeg 3)) (xs (Int32.toNatClampNeg 4)) H.size) (cwV 4 hts gl_X6_time rfl rfl rfl (by decide +kernel) ⟨Nat.le_of_ble_eq_true rfl, Nat.le_of_ble_eq_true rfl⟩) ⟨fun a U g mk q => by obtain ⟨q0, q1, qP, qK, qD⟩ := q; exact ⟨q0, q1, qP, va_K.moved (u := U) (U := U.calling g mk a) (Vm.Alike.refl U.vm) qK, qD⟩, va_recv hKk hPc (ci := 6) (q0 := 0) rfl rfl, fun U hU hW => ⟨rfl, by rw [hU], by rw [hU]; exact hPc, va_K.moved hW.alike hKk, hDc.weaken (fun _ _ _ _ => trivial)⟩⟩ rfl rfl hl.1 rfl (lv_room (Nat.le_of_ble_eq_true rfl)) dL_law_602 ⟨show (45 + 0 : Nat) ≤ 600002 from by omega, show (5784 + 0 : Nat) ≤ 7302232 from by omega⟩) hS (fun q _ h => hFc q h) hFc (fun r_2 u t H1 locs ht hvm hw2 hB hz1 hk1 hS => ?_)
  refine W.widen (k := 45) (n := 5784) (by omega) (by omega) ?_
  try dsimp only at hw2
  refine lv_icmp_eq (tgt := 856) hx hb dL_law_605 (by decide) (fun _ => ?_) (fun c_9 => absurd (hw1.trans hw2.symm) c_9)
  exact law_tail l C0 (by omega) (by omega) hS hl rfl
set_option maxHeartbeats 4000000 in
set_option maxRecDepth 100000 in
theorem law_case_11 {p : Program} {e : Env} {s : State} {m : MethodId} {below : List Frame} {meth : Method} {c : Code} (l : Launch) {b : Nat} {xs : Nat → Int32} (C0 : lw_At p s m meth c b 6 xs)  {dC : Nat → ClassId} {dI : Nat → Nat → Nat} {h5 qT qF qN qR qC h6 qo : Nat} {cT cF cN cR cC : ClassId} {q : Nat → Nat} {cq : Nat → ClassId} {fw fe : Nat → Int32} (hKc : va_K (dC, dI) vwCl (cTy cT cF cN cR cC) s) (hKm : va_K (dC, dI) vwCl (mT cq) s) {H : Heap} {locs : List Loc} (hP : va_P (dC, dI) vwCl (cW h5 qT qF qN qR qC cT cF cN cR cC ++ mW h6 q cq fw fe) H) (hD : va_D (fun q : Nat => s.heap.size ≤ q) (cW h5 qT qF qN qR qC cT cF cN cR cC ++ mW h6 q cq fw fe)) (hS : va_S (fun q : Nat => s.heap.size ≤ q) s.heap H locs) {ls : Array Slot} (hl : lv_has ls 7 [(4, .int 0), (3, .ref qo), (2, .ref h6), (1, .ref h5), (0, .ref b)]) : W p l e room_1 s m #[Value.ref b] below meth c H locs 45 5784 (lw_Z below #[Value.ref b] s) (F0 m 610 ls []) := by
  obtain ⟨hx, hb, hr, hml, hown, hts, hX, hbl, hlocks, hgv⟩ := id C0
  have hts := fun w h => hts w (wl_in w h)
  have hA : ∀ q : Nat, s.heap.size ≤ q → (fun q : Nat => s.heap.size ≤ q) q := fun _ h => h
  have hbA : ¬ (fun q : Nat => s.heap.size ≤ q) b := Nat.not_le.mpr hbl
  refine lv_aload_n hx hb dL_law_610 rfl (lv_at hl 3 rfl) ?_
  refine lv_aload_n hx hb dL_law_611 rfl (lv_at hl 4 rfl) ?_
  refine lv_iload hx hb dL_law_612 (lv_at hl 0 rfl) ?_
  refine lv_iconst (v := 1) hx hb dL_law_614 (by decide) ?_
  refine lv_iadd hx hb dL_law_615 ?_
  rw [show ((0 : Int32) + 1) = 1 from by decide]
  refine va_sld hx hb hX hbl hbA hS (by unfold vp_in; decide) dL_law_616 ?_
  refine lv_aload_n hx hb dL_law_617 rfl (lv_at hl 4 rfl) ?_
  refine lv_iload hx hb dL_law_618 (lv_at hl 0 rfl) ?_
  refine lv_iconst (v := 2) hx hb dL_law_620 (by decide) ?_
  refine lv_iadd hx hb dL_law_621 ?_
  rw [show ((0 : Int32) + 2) = 2 from by decide]
  refine va_sld hx hb hX hbl hbA hS (by unfold vp_in; decide) dL_law_622 ?_
  refine lv_aload_n hx hb dL_law_623 rfl (lv_at hl 4 rfl) ?_
  refine lv_iload hx hb dL_law_624 (lv_at hl 0 rfl) ?_
  refine lv_iconst (v := 3) hx hb dL_law_626 (by decide) ?_
  refine lv_iadd hx hb dL_law_627 ?_
  rw [show ((0 : Int32) + 3) = 3 from by decide]
  refine va_sld hx hb hX hbl hbA hS (by unfold vp_in; decide) dL_law_628 ?_
  refine lv_aload_n hx hb dL_law_629 rfl (lv_at hl 4 rfl) ?_
  refine lv_iload hx hb dL_law_630 (lv_at hl 0 rfl) ?_
  refine lv_iconst (v := 4) hx hb dL_law_632 (by decide) ?_
  refine lv_iadd hx hb dL_law_633 ?_
  rw [show ((0 : Int32) + 4) = 4 from by decide]
  refine va_sld hx hb hX hbl hbA hS (by unfold vp_in; decide) dL_law_634 ?_
  have hPc := hP.sub (ws' := [(h5, .inr (5, [.ref qT, .int 0, .ref qF, .int 0, .int 0, .int ((-1)), .int 0, .ref qN, .int 0, .ref qR, .int 0, .int 0, .ref qC]))]) [0] rfl
  have hDc := hD.sub (ws' := [(h5, .inr (5, [.ref qT, .int 0, .ref qF, .int 0, .int 0, .int ((-1)), .int 0, .ref qN, .int 0, .ref qR, .int 0, .int 0, .ref qC]))]) [0] (by decide) rfl
  have hKk := hKc.sub (tys' := []) [] rfl
  have hFc := va_free (wc := [(h5, .inr (5, [.ref qT, .int 0, .ref qF, .int 0, .int 0, .int ((-1)), .int 0, .ref qN, .int 0, .ref qR, .int 0, .int 0, .ref qC]))]) hD hS hA [0] rfl
  refine va_calli (va_runV (As := [.int (xs (Int32.toNatClampNeg 1)), .int (xs (Int32.toNatClampNeg 2)), .int (xs (Int32.toNatClampNeg 3)), .int (xs (Int32.toNatClampNeg 4))]) (rest := []) ⟨hx, hb, hml, hown, hts⟩ (c_X5_split l dC dI h5 qT qF qN qR qC (xs (Int32.toNatClampNeg 1)) (xs (Int32.toNatClampNeg 2)) (xs (Int32.toNatClampNeg 3)) (xs (Int32.toNatClampNeg 4)) H.size) (cwV 4 hts gl_X5_split rfl rfl rfl (by decide +kernel) ⟨Nat.le_of_ble_eq_true rfl, Nat.le_of_ble_eq_true rfl⟩) ⟨fun a U g mk q => by obtain ⟨q0, q1, qP, qK, qD⟩ := q; exact ⟨q0, q1, qP, va_K.moved (u := U) (U := U.calling g mk a) (Vm.Alike.refl U.vm) qK, qD⟩, va_recv hKk hPc (ci := 5) (q0 := 0) rfl rfl, fun U hU hW => ⟨rfl, by rw [hU], by rw [hU]; exact hPc, va_K.moved hW.alike hKk, hDc.weaken (fun _ _ _ _ => trivial)⟩⟩ rfl rfl hl.1 rfl (lv_room (Nat.le_of_ble_eq_true rfl)) dL_law_635 ⟨show (45 + 0 : Nat) ≤ 600002 from by omega, show (5784 + 0 : Nat) ≤ 7302232 from by omega⟩) hS (fun q _ h => hFc q h) hFc (fun r_1 u t H1 locs ht hvm hw1 hB hz1 hk1 hS => ?_)
  refine W.widen (k := 45) (n := 5784) (by omega) (by omega) ?_
  try dsimp only at hw1
  obtain ⟨hP, hD⟩ := va_join (wr := [(h6, .inr (6, [.ref ((q 0)), .int 0, .int 0, .int 0, .int 0, .ref ((q 5)), .ref ((q 6)), .ref ((q 7)), .ref ((q 8)), .ref ((q 9)), .ref ((q 10)), .ref ((q 11)), .ref ((q 12)), .int 0, .int ((-1)), .int 0, .ref ((q 16)), .int 0, .ref ((q 18)), .ref ((q 19)), .ref ((q 20)), .ref ((q 21)), .ref ((q 22)), .ref ((q 23)), .ref ((q 24)), .ref ((q 25)), .ref ((q 26)), .ref ((q 27)), .ref ((q 28)), .ref ((q 29)), .ref ((q 30)), .int 0, .ref ((q 32)), .ref ((q 33)), .ref ((q 34)), .ref ((q 35)), .ref ((q 36)), .ref ((q 37)), .ref ((q 38)), .int 0, .int 0, .int 0, .int 0, .int 0, .int 0, .ref ((q 45)), .ref ((q 46)), .ref ((q 47)), .ref ((q 48)), .ref ((q 49)), .ref ((q 50)), .ref ((q 51))]))]) (w1 := []) hP hD [0] [6] rfl rfl (by decide) (by decide) hk1 hFc lw_nilP lw_nilD
  have hP : va_P (dC, dI) vwCl [(h6, .inr (6, [.ref ((q 0)), .int 0, .int 0, .int 0, .int 0, .ref ((q 5)), .ref ((q 6)), .ref ((q 7)), .ref ((q 8)), .ref ((q 9)), .ref ((q 10)), .ref ((q 11)), .ref ((q 12)), .int 0, .int ((-1)), .int 0, .ref ((q 16)), .int 0, .ref ((q 18)), .ref ((q 19)), .ref ((q 20)), .ref ((q 21)), .ref ((q 22)), .ref ((q 23)), .ref ((q 24)), .ref ((q 25)), .ref ((q 26)), .ref ((q 27)), .ref ((q 28)), .ref ((q 29)), .ref ((q 30)), .int 0, .ref ((q 32)), .ref ((q 33)), .ref ((q 34)), .ref ((q 35)), .ref ((q 36)), .ref ((q 37)), .ref ((q 38)), .int 0, .int 0, .int 0, .int 0, .int 0, .int 0, .ref ((q 45)), .ref ((q 46)), .ref ((q 47)), .ref ((q 48)), .ref ((q 49)), .ref ((q 50)), .ref ((q 51))]))] H1 := hP
  have hD : va_D (fun q : Nat => s.heap.size ≤ q) [(h6, .inr (6, [.ref ((q 0)), .int 0, .int 0, .int 0, .int 0, .ref ((q 5)), .ref ((q 6)), .ref ((q 7)), .ref ((q 8)), .ref ((q 9)), .ref ((q 10)), .ref ((q 11)), .ref ((q 12)), .int 0, .int ((-1)), .int 0, .ref ((q 16)), .int 0, .ref ((q 18)), .ref ((q 19)), .ref ((q 20)), .ref ((q 21)), .ref ((q 22)), .ref ((q 23)), .ref ((q 24)), .ref ((q 25)), .ref ((q 26)), .ref ((q 27)), .ref ((q 28)), .ref ((q 29)), .ref ((q 30)), .int 0, .ref ((q 32)), .ref ((q 33)), .ref ((q 34)), .ref ((q 35)), .ref ((q 36)), .ref ((q 37)), .ref ((q 38)), .int 0, .int 0, .int 0, .int 0, .int 0, .int 0, .ref ((q 45)), .ref ((q 46)), .ref ((q 47)), .ref ((q 48)), .ref ((q 49)), .ref ((q 50)), .ref ((q 51))]))] := hD
  generalize H1 = H at hP hS ⊢
  refine lv_aload_n hx hb dL_law_638 rfl (lv_at hl 2 rfl) ?_
  refine lv_aload_n hx hb dL_law_639 rfl (lv_at hl 4 rfl) ?_
  refine lv_iload hx hb dL_law_640 (lv_at hl 0 rfl) ?_
  refine lv_iconst (v := 1) hx hb dL_law_642 (by decide) ?_
  refine lv_iadd hx hb dL_law_643 ?_
  rw [show ((0 : Int32) + 1) = 1 from by decide]
  refine va_sld hx hb hX hbl hbA hS (by unfold vp_in; decide) dL_law_644 ?_
  refine lv_aload_n hx hb dL_law_645 rfl (lv_at hl 4 rfl) ?_
  refine lv_iload hx hb dL_law_646 (lv_at hl 0 rfl) ?_
  refine lv_iconst (v := 2) hx hb dL_law_648 (by decide) ?_
  refine lv_iadd hx hb dL_law_649 ?_
  rw [show ((0 : Int32) + 2) = 2 from by decide]
  refine va_sld hx hb hX hbl hbA hS (by unfold vp_in; decide) dL_law_650 ?_
  refine lv_aload_n hx hb dL_law_651 rfl (lv_at hl 4 rfl) ?_
  refine lv_iload hx hb dL_law_652 (lv_at hl 0 rfl) ?_
  refine lv_iconst (v := 3) hx hb dL_law_654 (by decide) ?_
  refine lv_iadd hx hb dL_law_655 ?_
  rw [show ((0 : Int32) + 3) = 3 from by decide]
  refine va_sld hx hb hX hbl hbA hS (by unfold vp_in; decide) dL_law_656 ?_
  refine lv_aload_n hx hb dL_law_657 rfl (lv_at hl 4 rfl) ?_
  refine lv_iload hx hb dL_law_658 (lv_at hl 0 rfl) ?_
  refine lv_iconst (v := 4) hx hb dL_law_660 (by decide) ?_
  refine lv_iadd hx hb dL_law_661 ?_
  rw [show ((0 : Int32) + 4) = 4 from by decide]
  refine va_sld hx hb hX hbl hbA hS (by unfold vp_in; decide) dL_law_662 ?_
  have hPc := hP.sub (ws' := [(h6, .inr (6, [.ref ((q 0)), .int 0, .int 0, .int 0, .int 0, .ref ((q 5)), .ref ((q 6)), .ref ((q 7)), .ref ((q 8)), .ref ((q 9)), .ref ((q 10)), .ref ((q 11)), .ref ((q 12)), .int 0, .int ((-1)), .int 0, .ref ((q 16)), .int 0, .ref ((q 18)), .ref ((q 19)), .ref ((q 20)), .ref ((q 21)), .ref ((q 22)), .ref ((q 23)), .ref ((q 24)), .ref ((q 25)), .ref ((q 26)), .ref ((q 27)), .ref ((q 28)), .ref ((q 29)), .ref ((q 30)), .int 0, .ref ((q 32)), .ref ((q 33)), .ref ((q 34)), .ref ((q 35)), .ref ((q 36)), .ref ((q 37)), .ref ((q 38)), .int 0, .int 0, .int 0, .int 0, .int 0, .int 0, .ref ((q 45)), .ref ((q 46)), .ref ((q 47)), .ref ((q 48)), .ref ((q 49)), .ref ((q 50)), .ref ((q 51))]))]) [0] rfl
  have hDc := hD.sub (ws' := [(h6, .inr (6, [.ref ((q 0)), .int 0, .int 0, .int 0, .int 0, .ref ((q 5)), .ref ((q 6)), .ref ((q 7)), .ref ((q 8)), .ref ((q 9)), .ref ((q 10)), .ref ((q 11)), .ref ((q 12)), .int 0, .int ((-1)), .int 0, .ref ((q 16)), .int 0, .ref ((q 18)), .ref ((q 19)), .ref ((q 20)), .ref ((q 21)), .ref ((q 22)), .ref ((q 23)), .ref ((q 24)), .ref ((q 25)), .ref ((q 26)), .ref ((q 27)), .ref ((q 28)), .ref ((q 29)), .ref ((q 30)), .int 0, .ref ((q 32)), .ref ((q 33)), .ref ((q 34)), .ref ((q 35)), .ref ((q 36)), .ref ((q 37)), .ref ((q 38)), .int 0, .int 0, .int 0, .int 0, .int 0, .int 0, .ref ((q 45)), .ref ((q 46)), .ref ((q 47)), .ref ((q 48)), .ref ((q 49)), .ref ((q 50)), .ref ((q 51))]))]) [0] (by decide) rfl
  have hKk := hKm.sub (tys' := []) [] rfl
  have hFc := va_free (wc := [(h6, .inr (6, [.ref ((q 0)), .int 0, .int 0, .int 0, .int 0, .ref ((q 5)), .ref ((q 6)), .ref ((q 7)), .ref ((q 8)), .ref ((q 9)), .ref ((q 10)), .ref ((q 11)), .ref ((q 12)), .int 0, .int ((-1)), .int 0, .ref ((q 16)), .int 0, .ref ((q 18)), .ref ((q 19)), .ref ((q 20)), .ref ((q 21)), .ref ((q 22)), .ref ((q 23)), .ref ((q 24)), .ref ((q 25)), .ref ((q 26)), .ref ((q 27)), .ref ((q 28)), .ref ((q 29)), .ref ((q 30)), .int 0, .ref ((q 32)), .ref ((q 33)), .ref ((q 34)), .ref ((q 35)), .ref ((q 36)), .ref ((q 37)), .ref ((q 38)), .int 0, .int 0, .int 0, .int 0, .int 0, .int 0, .ref ((q 45)), .ref ((q 46)), .ref ((q 47)), .ref ((q 48)), .ref ((q 49)), .ref ((q 50)), .ref ((q 51))]))]) hD hS hA [0] rfl
  refine va_calli (va_runV (As := [.int (xs (Int32.toNatClampNeg 1)), .int (xs (Int32.toNatClampNeg 2)), .int (xs (Int32.toNatClampNeg 3)), .int (xs (Int32.toNatClampNeg 4))]) (rest := [.int r_1]) ⟨hx, hb, hml, hown, hts⟩ (c_X6_split l dC dI h6 q (xs (Int32.toNatClampNeg 1)) (xs (Int32.toNatClampNeg 2)) (xs (Int32.toNatClampNeg 3)) (xs (Int32.toNatClampNeg 4)) H.size) (cwV 4 hts gl_X6_split rfl rfl rfl (by decide +kernel) ⟨Nat.le_of_ble_eq_true rfl, Nat.le_of_ble_eq_true rfl⟩) ⟨fun a U g mk q => by obtain ⟨q0, q1, qP, qK, qD⟩ := q; exact ⟨q0, q1, qP, va_K.moved (u := U) (U := U.calling g mk a) (Vm.Alike.refl U.vm) qK, qD⟩, va_recv hKk hPc (ci := 6) (q0 := 0) rfl rfl, fun U hU hW => ⟨rfl, by rw [hU], by rw [hU]; exact hPc, va_K.moved hW.alike hKk, hDc.weaken (fun _ _ _ _ => trivial)⟩⟩ rfl rfl hl.1 rfl (lv_room (Nat.le_of_ble_eq_true rfl)) dL_law_663 ⟨show (45 + 0 : Nat) ≤ 600002 from by omega, show (5784 + 0 : Nat) ≤ 7302232 from by omega⟩) hS (fun q _ h => hFc q h) hFc (fun r_2 u t H1 locs ht hvm hw2 hB hz1 hk1 hS => ?_)
  refine W.widen (k := 45) (n := 5784) (by omega) (by omega) ?_
  try dsimp only at hw2
  refine lv_icmp_eq (tgt := 856) hx hb dL_law_666 (by decide) (fun _ => ?_) (fun c_9 => absurd (hw1.trans hw2.symm) c_9)
  exact law_tail l C0 (by omega) (by omega) hS hl rfl
set_option maxHeartbeats 4000000 in
set_option maxRecDepth 100000 in
theorem law_case_12 {p : Program} {e : Env} {s : State} {m : MethodId} {below : List Frame} {meth : Method} {c : Code} (l : Launch) {b : Nat} {xs : Nat → Int32} (C0 : lw_At p s m meth c b 6 xs)  {dC : Nat → ClassId} {dI : Nat → Nat → Nat} {h5 qT qF qN qR qC h6 qo : Nat} {cT cF cN cR cC : ClassId} {q : Nat → Nat} {cq : Nat → ClassId} {fw fe : Nat → Int32} (hKc : va_K (dC, dI) vwCl (cTy cT cF cN cR cC) s) (hKm : va_K (dC, dI) vwCl (mT cq) s) {H : Heap} {locs : List Loc} (hP : va_P (dC, dI) vwCl (cW h5 qT qF qN qR qC cT cF cN cR cC ++ mW h6 q cq fw fe) H) (hD : va_D (fun q : Nat => s.heap.size ≤ q) (cW h5 qT qF qN qR qC cT cF cN cR cC ++ mW h6 q cq fw fe)) (hS : va_S (fun q : Nat => s.heap.size ≤ q) s.heap H locs) {ls : Array Slot} (hl : lv_has ls 7 [(4, .int 0), (3, .ref qo), (2, .ref h6), (1, .ref h5), (0, .ref b)]) : W p l e room_1 s m #[Value.ref b] below meth c H locs 45 5784 (lw_Z below #[Value.ref b] s) (F0 m 671 ls []) := by
  obtain ⟨hx, hb, hr, hml, hown, hts, hX, hbl, hlocks, hgv⟩ := id C0
  have hts := fun w h => hts w (wl_in w h)
  have hA : ∀ q : Nat, s.heap.size ≤ q → (fun q : Nat => s.heap.size ≤ q) q := fun _ h => h
  have hbA : ¬ (fun q : Nat => s.heap.size ≤ q) b := Nat.not_le.mpr hbl
  refine lv_aload_n hx hb dL_law_671 rfl (lv_at hl 3 rfl) ?_
  refine lv_aload_n hx hb dL_law_672 rfl (lv_at hl 4 rfl) ?_
  refine lv_iload hx hb dL_law_673 (lv_at hl 0 rfl) ?_
  refine lv_iconst (v := 1) hx hb dL_law_675 (by decide) ?_
  refine lv_iadd hx hb dL_law_676 ?_
  rw [show ((0 : Int32) + 1) = 1 from by decide]
  refine va_sld hx hb hX hbl hbA hS (by unfold vp_in; decide) dL_law_677 ?_
  refine lv_aload_n hx hb dL_law_678 rfl (lv_at hl 4 rfl) ?_
  refine lv_iload hx hb dL_law_679 (lv_at hl 0 rfl) ?_
  refine lv_iconst (v := 2) hx hb dL_law_681 (by decide) ?_
  refine lv_iadd hx hb dL_law_682 ?_
  rw [show ((0 : Int32) + 2) = 2 from by decide]
  refine va_sld hx hb hX hbl hbA hS (by unfold vp_in; decide) dL_law_683 ?_
  refine lv_aload_n hx hb dL_law_684 rfl (lv_at hl 4 rfl) ?_
  refine lv_iload hx hb dL_law_685 (lv_at hl 0 rfl) ?_
  refine lv_iconst (v := 3) hx hb dL_law_687 (by decide) ?_
  refine lv_iadd hx hb dL_law_688 ?_
  rw [show ((0 : Int32) + 3) = 3 from by decide]
  refine va_sld hx hb hX hbl hbA hS (by unfold vp_in; decide) dL_law_689 ?_
  have hPc := hP.sub (ws' := [(h5, .inr (5, [.ref qT, .int 0, .ref qF, .int 0, .int 0, .int ((-1)), .int 0, .ref qN, .int 0, .ref qR, .int 0, .int 0, .ref qC]))]) [0] rfl
  have hDc := hD.sub (ws' := [(h5, .inr (5, [.ref qT, .int 0, .ref qF, .int 0, .int 0, .int ((-1)), .int 0, .ref qN, .int 0, .ref qR, .int 0, .int 0, .ref qC]))]) [0] (by decide) rfl
  have hKk := hKc.sub (tys' := []) [] rfl
  have hFc := va_free (wc := [(h5, .inr (5, [.ref qT, .int 0, .ref qF, .int 0, .int 0, .int ((-1)), .int 0, .ref qN, .int 0, .ref qR, .int 0, .int 0, .ref qC]))]) hD hS hA [0] rfl
  refine va_calli (va_runV (As := [.int (xs (Int32.toNatClampNeg 1)), .int (xs (Int32.toNatClampNeg 2)), .int (xs (Int32.toNatClampNeg 3))]) (rest := []) ⟨hx, hb, hml, hown, hts⟩ (c_X5_order l dC dI h5 qT qF qN qR qC (xs (Int32.toNatClampNeg 1)) (xs (Int32.toNatClampNeg 2)) (xs (Int32.toNatClampNeg 3)) H.size) (cwV 3 hts gl_X5_order rfl rfl rfl (by decide +kernel) ⟨Nat.le_of_ble_eq_true rfl, Nat.le_of_ble_eq_true rfl⟩) ⟨fun a U g mk q => by obtain ⟨q0, q1, qP, qK, qD⟩ := q; exact ⟨q0, q1, qP, va_K.moved (u := U) (U := U.calling g mk a) (Vm.Alike.refl U.vm) qK, qD⟩, va_recv hKk hPc (ci := 5) (q0 := 0) rfl rfl, fun U hU hW => ⟨rfl, by rw [hU], by rw [hU]; exact hPc, va_K.moved hW.alike hKk, hDc.weaken (fun _ _ _ _ => trivial)⟩⟩ rfl rfl hl.1 rfl (lv_room (Nat.le_of_ble_eq_true rfl)) dL_law_690 ⟨show (45 + 0 : Nat) ≤ 600002 from by omega, show (5784 + 0 : Nat) ≤ 7302232 from by omega⟩) hS (fun q _ h => hFc q h) hFc (fun r_1 u t H1 locs ht hvm hw1 hB hz1 hk1 hS => ?_)
  refine W.widen (k := 45) (n := 5784) (by omega) (by omega) ?_
  try dsimp only at hw1
  obtain ⟨hP, hD⟩ := va_join (wr := [(h6, .inr (6, [.ref ((q 0)), .int 0, .int 0, .int 0, .int 0, .ref ((q 5)), .ref ((q 6)), .ref ((q 7)), .ref ((q 8)), .ref ((q 9)), .ref ((q 10)), .ref ((q 11)), .ref ((q 12)), .int 0, .int ((-1)), .int 0, .ref ((q 16)), .int 0, .ref ((q 18)), .ref ((q 19)), .ref ((q 20)), .ref ((q 21)), .ref ((q 22)), .ref ((q 23)), .ref ((q 24)), .ref ((q 25)), .ref ((q 26)), .ref ((q 27)), .ref ((q 28)), .ref ((q 29)), .ref ((q 30)), .int 0, .ref ((q 32)), .ref ((q 33)), .ref ((q 34)), .ref ((q 35)), .ref ((q 36)), .ref ((q 37)), .ref ((q 38)), .int 0, .int 0, .int 0, .int 0, .int 0, .int 0, .ref ((q 45)), .ref ((q 46)), .ref ((q 47)), .ref ((q 48)), .ref ((q 49)), .ref ((q 50)), .ref ((q 51))]))]) (w1 := []) hP hD [0] [6] rfl rfl (by decide) (by decide) hk1 hFc lw_nilP lw_nilD
  have hP : va_P (dC, dI) vwCl [(h6, .inr (6, [.ref ((q 0)), .int 0, .int 0, .int 0, .int 0, .ref ((q 5)), .ref ((q 6)), .ref ((q 7)), .ref ((q 8)), .ref ((q 9)), .ref ((q 10)), .ref ((q 11)), .ref ((q 12)), .int 0, .int ((-1)), .int 0, .ref ((q 16)), .int 0, .ref ((q 18)), .ref ((q 19)), .ref ((q 20)), .ref ((q 21)), .ref ((q 22)), .ref ((q 23)), .ref ((q 24)), .ref ((q 25)), .ref ((q 26)), .ref ((q 27)), .ref ((q 28)), .ref ((q 29)), .ref ((q 30)), .int 0, .ref ((q 32)), .ref ((q 33)), .ref ((q 34)), .ref ((q 35)), .ref ((q 36)), .ref ((q 37)), .ref ((q 38)), .int 0, .int 0, .int 0, .int 0, .int 0, .int 0, .ref ((q 45)), .ref ((q 46)), .ref ((q 47)), .ref ((q 48)), .ref ((q 49)), .ref ((q 50)), .ref ((q 51))]))] H1 := hP
  have hD : va_D (fun q : Nat => s.heap.size ≤ q) [(h6, .inr (6, [.ref ((q 0)), .int 0, .int 0, .int 0, .int 0, .ref ((q 5)), .ref ((q 6)), .ref ((q 7)), .ref ((q 8)), .ref ((q 9)), .ref ((q 10)), .ref ((q 11)), .ref ((q 12)), .int 0, .int ((-1)), .int 0, .ref ((q 16)), .int 0, .ref ((q 18)), .ref ((q 19)), .ref ((q 20)), .ref ((q 21)), .ref ((q 22)), .ref ((q 23)), .ref ((q 24)), .ref ((q 25)), .ref ((q 26)), .ref ((q 27)), .ref ((q 28)), .ref ((q 29)), .ref ((q 30)), .int 0, .ref ((q 32)), .ref ((q 33)), .ref ((q 34)), .ref ((q 35)), .ref ((q 36)), .ref ((q 37)), .ref ((q 38)), .int 0, .int 0, .int 0, .int 0, .int 0, .int 0, .ref ((q 45)), .ref ((q 46)), .ref ((q 47)), .ref ((q 48)), .ref ((q 49)), .ref ((q 50)), .ref ((q 51))]))] := hD
  generalize H1 = H at hP hS ⊢
  refine lv_aload_n hx hb dL_law_693 rfl (lv_at hl 2 rfl) ?_
  refine lv_aload_n hx hb dL_law_694 rfl (lv_at hl 4 rfl) ?_
  refine lv_iload hx hb dL_law_695 (lv_at hl 0 rfl) ?_
  refine lv_iconst (v := 1) hx hb dL_law_697 (by decide) ?_
  refine lv_iadd hx hb dL_law_698 ?_
  rw [show ((0 : Int32) + 1) = 1 from by decide]
  refine va_sld hx hb hX hbl hbA hS (by unfold vp_in; decide) dL_law_699 ?_
  refine lv_aload_n hx hb dL_law_700 rfl (lv_at hl 4 rfl) ?_
  refine lv_iload hx hb dL_law_701 (lv_at hl 0 rfl) ?_
  refine lv_iconst (v := 2) hx hb dL_law_703 (by decide) ?_
  refine lv_iadd hx hb dL_law_704 ?_
  rw [show ((0 : Int32) + 2) = 2 from by decide]
  refine va_sld hx hb hX hbl hbA hS (by unfold vp_in; decide) dL_law_705 ?_
  refine lv_aload_n hx hb dL_law_706 rfl (lv_at hl 4 rfl) ?_
  refine lv_iload hx hb dL_law_707 (lv_at hl 0 rfl) ?_
  refine lv_iconst (v := 3) hx hb dL_law_709 (by decide) ?_
  refine lv_iadd hx hb dL_law_710 ?_
  rw [show ((0 : Int32) + 3) = 3 from by decide]
  refine va_sld hx hb hX hbl hbA hS (by unfold vp_in; decide) dL_law_711 ?_
  have hPc := hP.sub (ws' := [(h6, .inr (6, [.ref ((q 0)), .int 0, .int 0, .int 0, .int 0, .ref ((q 5)), .ref ((q 6)), .ref ((q 7)), .ref ((q 8)), .ref ((q 9)), .ref ((q 10)), .ref ((q 11)), .ref ((q 12)), .int 0, .int ((-1)), .int 0, .ref ((q 16)), .int 0, .ref ((q 18)), .ref ((q 19)), .ref ((q 20)), .ref ((q 21)), .ref ((q 22)), .ref ((q 23)), .ref ((q 24)), .ref ((q 25)), .ref ((q 26)), .ref ((q 27)), .ref ((q 28)), .ref ((q 29)), .ref ((q 30)), .int 0, .ref ((q 32)), .ref ((q 33)), .ref ((q 34)), .ref ((q 35)), .ref ((q 36)), .ref ((q 37)), .ref ((q 38)), .int 0, .int 0, .int 0, .int 0, .int 0, .int 0, .ref ((q 45)), .ref ((q 46)), .ref ((q 47)), .ref ((q 48)), .ref ((q 49)), .ref ((q 50)), .ref ((q 51))]))]) [0] rfl
  have hDc := hD.sub (ws' := [(h6, .inr (6, [.ref ((q 0)), .int 0, .int 0, .int 0, .int 0, .ref ((q 5)), .ref ((q 6)), .ref ((q 7)), .ref ((q 8)), .ref ((q 9)), .ref ((q 10)), .ref ((q 11)), .ref ((q 12)), .int 0, .int ((-1)), .int 0, .ref ((q 16)), .int 0, .ref ((q 18)), .ref ((q 19)), .ref ((q 20)), .ref ((q 21)), .ref ((q 22)), .ref ((q 23)), .ref ((q 24)), .ref ((q 25)), .ref ((q 26)), .ref ((q 27)), .ref ((q 28)), .ref ((q 29)), .ref ((q 30)), .int 0, .ref ((q 32)), .ref ((q 33)), .ref ((q 34)), .ref ((q 35)), .ref ((q 36)), .ref ((q 37)), .ref ((q 38)), .int 0, .int 0, .int 0, .int 0, .int 0, .int 0, .ref ((q 45)), .ref ((q 46)), .ref ((q 47)), .ref ((q 48)), .ref ((q 49)), .ref ((q 50)), .ref ((q 51))]))]) [0] (by decide) rfl
  have hKk := hKm.sub (tys' := []) [] rfl
  have hFc := va_free (wc := [(h6, .inr (6, [.ref ((q 0)), .int 0, .int 0, .int 0, .int 0, .ref ((q 5)), .ref ((q 6)), .ref ((q 7)), .ref ((q 8)), .ref ((q 9)), .ref ((q 10)), .ref ((q 11)), .ref ((q 12)), .int 0, .int ((-1)), .int 0, .ref ((q 16)), .int 0, .ref ((q 18)), .ref ((q 19)), .ref ((q 20)), .ref ((q 21)), .ref ((q 22)), .ref ((q 23)), .ref ((q 24)), .ref ((q 25)), .ref ((q 26)), .ref ((q 27)), .ref ((q 28)), .ref ((q 29)), .ref ((q 30)), .int 0, .ref ((q 32)), .ref ((q 33)), .ref ((q 34)), .ref ((q 35)), .ref ((q 36)), .ref ((q 37)), .ref ((q 38)), .int 0, .int 0, .int 0, .int 0, .int 0, .int 0, .ref ((q 45)), .ref ((q 46)), .ref ((q 47)), .ref ((q 48)), .ref ((q 49)), .ref ((q 50)), .ref ((q 51))]))]) hD hS hA [0] rfl
  refine va_calli (va_runV (As := [.int (xs (Int32.toNatClampNeg 1)), .int (xs (Int32.toNatClampNeg 2)), .int (xs (Int32.toNatClampNeg 3))]) (rest := [.int r_1]) ⟨hx, hb, hml, hown, hts⟩ (c_X6_order l dC dI h6 q (xs (Int32.toNatClampNeg 1)) (xs (Int32.toNatClampNeg 2)) (xs (Int32.toNatClampNeg 3)) H.size) (cwV 3 hts gl_X6_order rfl rfl rfl (by decide +kernel) ⟨Nat.le_of_ble_eq_true rfl, Nat.le_of_ble_eq_true rfl⟩) ⟨fun a U g mk q => by obtain ⟨q0, q1, qP, qK, qD⟩ := q; exact ⟨q0, q1, qP, va_K.moved (u := U) (U := U.calling g mk a) (Vm.Alike.refl U.vm) qK, qD⟩, va_recv hKk hPc (ci := 6) (q0 := 0) rfl rfl, fun U hU hW => ⟨rfl, by rw [hU], by rw [hU]; exact hPc, va_K.moved hW.alike hKk, hDc.weaken (fun _ _ _ _ => trivial)⟩⟩ rfl rfl hl.1 rfl (lv_room (Nat.le_of_ble_eq_true rfl)) dL_law_712 ⟨show (45 + 0 : Nat) ≤ 600002 from by omega, show (5784 + 0 : Nat) ≤ 7302232 from by omega⟩) hS (fun q _ h => hFc q h) hFc (fun r_2 u t H1 locs ht hvm hw2 hB hz1 hk1 hS => ?_)
  refine W.widen (k := 45) (n := 5784) (by omega) (by omega) ?_
  try dsimp only at hw2
  refine lv_icmp_eq (tgt := 856) hx hb dL_law_715 (by decide) (fun _ => ?_) (fun c_9 => absurd (hw1.trans hw2.symm) c_9)
  exact law_tail l C0 (by omega) (by omega) hS hl rfl
set_option maxHeartbeats 4000000 in
set_option maxRecDepth 100000 in
theorem law_case_13 {p : Program} {e : Env} {s : State} {m : MethodId} {below : List Frame} {meth : Method} {c : Code} (l : Launch) {b : Nat} {xs : Nat → Int32} (C0 : lw_At p s m meth c b 6 xs)  {dC : Nat → ClassId} {dI : Nat → Nat → Nat} {h5 qT qF qN qR qC h6 qo : Nat} {cT cF cN cR cC : ClassId} {q : Nat → Nat} {cq : Nat → ClassId} {fw fe : Nat → Int32} (hKc : va_K (dC, dI) vwCl (cTy cT cF cN cR cC) s) (hKm : va_K (dC, dI) vwCl (mT cq) s) {H : Heap} {locs : List Loc} (hP : va_P (dC, dI) vwCl (cW h5 qT qF qN qR qC cT cF cN cR cC ++ mW h6 q cq fw fe) H) (hD : va_D (fun q : Nat => s.heap.size ≤ q) (cW h5 qT qF qN qR qC cT cF cN cR cC ++ mW h6 q cq fw fe)) (hS : va_S (fun q : Nat => s.heap.size ≤ q) s.heap H locs) {ls : Array Slot} (hl : lv_has ls 7 [(4, .int 0), (3, .ref qo), (2, .ref h6), (1, .ref h5), (0, .ref b)]) : W p l e room_1 s m #[Value.ref b] below meth c H locs 45 5784 (lw_Z below #[Value.ref b] s) (F0 m 720 ls []) := by
  obtain ⟨hx, hb, hr, hml, hown, hts, hX, hbl, hlocks, hgv⟩ := id C0
  have hts := fun w h => hts w (wl_in w h)
  have hA : ∀ q : Nat, s.heap.size ≤ q → (fun q : Nat => s.heap.size ≤ q) q := fun _ h => h
  have hbA : ¬ (fun q : Nat => s.heap.size ≤ q) b := Nat.not_le.mpr hbl
  refine lv_aload_n hx hb dL_law_720 rfl (lv_at hl 3 rfl) ?_
  refine lv_aload_n hx hb dL_law_721 rfl (lv_at hl 4 rfl) ?_
  refine lv_iload hx hb dL_law_722 (lv_at hl 0 rfl) ?_
  refine lv_iconst (v := 1) hx hb dL_law_724 (by decide) ?_
  refine lv_iadd hx hb dL_law_725 ?_
  rw [show ((0 : Int32) + 1) = 1 from by decide]
  refine va_sld hx hb hX hbl hbA hS (by unfold vp_in; decide) dL_law_726 ?_
  refine lv_aload_n hx hb dL_law_727 rfl (lv_at hl 4 rfl) ?_
  refine lv_iload hx hb dL_law_728 (lv_at hl 0 rfl) ?_
  refine lv_iconst (v := 2) hx hb dL_law_730 (by decide) ?_
  refine lv_iadd hx hb dL_law_731 ?_
  rw [show ((0 : Int32) + 2) = 2 from by decide]
  refine va_sld hx hb hX hbl hbA hS (by unfold vp_in; decide) dL_law_732 ?_
  have hPc := hP.sub (ws' := [(h5, .inr (5, [.ref qT, .int 0, .ref qF, .int 0, .int 0, .int ((-1)), .int 0, .ref qN, .int 0, .ref qR, .int 0, .int 0, .ref qC]))]) [0] rfl
  have hDc := hD.sub (ws' := [(h5, .inr (5, [.ref qT, .int 0, .ref qF, .int 0, .int 0, .int ((-1)), .int 0, .ref qN, .int 0, .ref qR, .int 0, .int 0, .ref qC]))]) [0] (by decide) rfl
  have hKk := hKc.sub (tys' := []) [] rfl
  have hFc := va_free (wc := [(h5, .inr (5, [.ref qT, .int 0, .ref qF, .int 0, .int 0, .int ((-1)), .int 0, .ref qN, .int 0, .ref qR, .int 0, .int 0, .ref qC]))]) hD hS hA [0] rfl
  refine va_calli (va_runV (As := [.int (xs (Int32.toNatClampNeg 1)), .int (xs (Int32.toNatClampNeg 2))]) (rest := []) ⟨hx, hb, hml, hown, hts⟩ (c_X5_points l dC dI h5 qT qF qN qR qC (xs (Int32.toNatClampNeg 1)) (xs (Int32.toNatClampNeg 2)) H.size) (cwV 2 hts gl_X5_points rfl rfl rfl (by decide +kernel) ⟨Nat.le_of_ble_eq_true rfl, Nat.le_of_ble_eq_true rfl⟩) ⟨fun a U g mk q => by obtain ⟨q0, q1, qP, qK, qD⟩ := q; exact ⟨q0, q1, qP, va_K.moved (u := U) (U := U.calling g mk a) (Vm.Alike.refl U.vm) qK, qD⟩, va_recv hKk hPc (ci := 5) (q0 := 0) rfl rfl, fun U hU hW => ⟨rfl, by rw [hU], by rw [hU]; exact hPc, va_K.moved hW.alike hKk, hDc.weaken (fun _ _ _ _ => trivial)⟩⟩ rfl rfl hl.1 rfl (lv_room (Nat.le_of_ble_eq_true rfl)) dL_law_733 ⟨show (45 + 0 : Nat) ≤ 600002 from by omega, show (5784 + 0 : Nat) ≤ 7302232 from by omega⟩) hS (fun q _ h => hFc q h) hFc (fun r_1 u t H1 locs ht hvm hw1 hB hz1 hk1 hS => ?_)
  refine W.widen (k := 45) (n := 5784) (by omega) (by omega) ?_
  try dsimp only at hw1
  obtain ⟨hP, hD⟩ := va_join (wr := [(h6, .inr (6, [.ref ((q 0)), .int 0, .int 0, .int 0, .int 0, .ref ((q 5)), .ref ((q 6)), .ref ((q 7)), .ref ((q 8)), .ref ((q 9)), .ref ((q 10)), .ref ((q 11)), .ref ((q 12)), .int 0, .int ((-1)), .int 0, .ref ((q 16)), .int 0, .ref ((q 18)), .ref ((q 19)), .ref ((q 20)), .ref ((q 21)), .ref ((q 22)), .ref ((q 23)), .ref ((q 24)), .ref ((q 25)), .ref ((q 26)), .ref ((q 27)), .ref ((q 28)), .ref ((q 29)), .ref ((q 30)), .int 0, .ref ((q 32)), .ref ((q 33)), .ref ((q 34)), .ref ((q 35)), .ref ((q 36)), .ref ((q 37)), .ref ((q 38)), .int 0, .int 0, .int 0, .int 0, .int 0, .int 0, .ref ((q 45)), .ref ((q 46)), .ref ((q 47)), .ref ((q 48)), .ref ((q 49)), .ref ((q 50)), .ref ((q 51))]))]) (w1 := []) hP hD [0] [6] rfl rfl (by decide) (by decide) hk1 hFc lw_nilP lw_nilD
  have hP : va_P (dC, dI) vwCl [(h6, .inr (6, [.ref ((q 0)), .int 0, .int 0, .int 0, .int 0, .ref ((q 5)), .ref ((q 6)), .ref ((q 7)), .ref ((q 8)), .ref ((q 9)), .ref ((q 10)), .ref ((q 11)), .ref ((q 12)), .int 0, .int ((-1)), .int 0, .ref ((q 16)), .int 0, .ref ((q 18)), .ref ((q 19)), .ref ((q 20)), .ref ((q 21)), .ref ((q 22)), .ref ((q 23)), .ref ((q 24)), .ref ((q 25)), .ref ((q 26)), .ref ((q 27)), .ref ((q 28)), .ref ((q 29)), .ref ((q 30)), .int 0, .ref ((q 32)), .ref ((q 33)), .ref ((q 34)), .ref ((q 35)), .ref ((q 36)), .ref ((q 37)), .ref ((q 38)), .int 0, .int 0, .int 0, .int 0, .int 0, .int 0, .ref ((q 45)), .ref ((q 46)), .ref ((q 47)), .ref ((q 48)), .ref ((q 49)), .ref ((q 50)), .ref ((q 51))]))] H1 := hP
  have hD : va_D (fun q : Nat => s.heap.size ≤ q) [(h6, .inr (6, [.ref ((q 0)), .int 0, .int 0, .int 0, .int 0, .ref ((q 5)), .ref ((q 6)), .ref ((q 7)), .ref ((q 8)), .ref ((q 9)), .ref ((q 10)), .ref ((q 11)), .ref ((q 12)), .int 0, .int ((-1)), .int 0, .ref ((q 16)), .int 0, .ref ((q 18)), .ref ((q 19)), .ref ((q 20)), .ref ((q 21)), .ref ((q 22)), .ref ((q 23)), .ref ((q 24)), .ref ((q 25)), .ref ((q 26)), .ref ((q 27)), .ref ((q 28)), .ref ((q 29)), .ref ((q 30)), .int 0, .ref ((q 32)), .ref ((q 33)), .ref ((q 34)), .ref ((q 35)), .ref ((q 36)), .ref ((q 37)), .ref ((q 38)), .int 0, .int 0, .int 0, .int 0, .int 0, .int 0, .ref ((q 45)), .ref ((q 46)), .ref ((q 47)), .ref ((q 48)), .ref ((q 49)), .ref ((q 50)), .ref ((q 51))]))] := hD
  generalize H1 = H at hP hS ⊢
  refine lv_aload_n hx hb dL_law_736 rfl (lv_at hl 2 rfl) ?_
  refine lv_aload_n hx hb dL_law_737 rfl (lv_at hl 4 rfl) ?_
  refine lv_iload hx hb dL_law_738 (lv_at hl 0 rfl) ?_
  refine lv_iconst (v := 1) hx hb dL_law_740 (by decide) ?_
  refine lv_iadd hx hb dL_law_741 ?_
  rw [show ((0 : Int32) + 1) = 1 from by decide]
  refine va_sld hx hb hX hbl hbA hS (by unfold vp_in; decide) dL_law_742 ?_
  refine lv_aload_n hx hb dL_law_743 rfl (lv_at hl 4 rfl) ?_
  refine lv_iload hx hb dL_law_744 (lv_at hl 0 rfl) ?_
  refine lv_iconst (v := 2) hx hb dL_law_746 (by decide) ?_
  refine lv_iadd hx hb dL_law_747 ?_
  rw [show ((0 : Int32) + 2) = 2 from by decide]
  refine va_sld hx hb hX hbl hbA hS (by unfold vp_in; decide) dL_law_748 ?_
  have hPc := hP.sub (ws' := [(h6, .inr (6, [.ref ((q 0)), .int 0, .int 0, .int 0, .int 0, .ref ((q 5)), .ref ((q 6)), .ref ((q 7)), .ref ((q 8)), .ref ((q 9)), .ref ((q 10)), .ref ((q 11)), .ref ((q 12)), .int 0, .int ((-1)), .int 0, .ref ((q 16)), .int 0, .ref ((q 18)), .ref ((q 19)), .ref ((q 20)), .ref ((q 21)), .ref ((q 22)), .ref ((q 23)), .ref ((q 24)), .ref ((q 25)), .ref ((q 26)), .ref ((q 27)), .ref ((q 28)), .ref ((q 29)), .ref ((q 30)), .int 0, .ref ((q 32)), .ref ((q 33)), .ref ((q 34)), .ref ((q 35)), .ref ((q 36)), .ref ((q 37)), .ref ((q 38)), .int 0, .int 0, .int 0, .int 0, .int 0, .int 0, .ref ((q 45)), .ref ((q 46)), .ref ((q 47)), .ref ((q 48)), .ref ((q 49)), .ref ((q 50)), .ref ((q 51))]))]) [0] rfl
  have hDc := hD.sub (ws' := [(h6, .inr (6, [.ref ((q 0)), .int 0, .int 0, .int 0, .int 0, .ref ((q 5)), .ref ((q 6)), .ref ((q 7)), .ref ((q 8)), .ref ((q 9)), .ref ((q 10)), .ref ((q 11)), .ref ((q 12)), .int 0, .int ((-1)), .int 0, .ref ((q 16)), .int 0, .ref ((q 18)), .ref ((q 19)), .ref ((q 20)), .ref ((q 21)), .ref ((q 22)), .ref ((q 23)), .ref ((q 24)), .ref ((q 25)), .ref ((q 26)), .ref ((q 27)), .ref ((q 28)), .ref ((q 29)), .ref ((q 30)), .int 0, .ref ((q 32)), .ref ((q 33)), .ref ((q 34)), .ref ((q 35)), .ref ((q 36)), .ref ((q 37)), .ref ((q 38)), .int 0, .int 0, .int 0, .int 0, .int 0, .int 0, .ref ((q 45)), .ref ((q 46)), .ref ((q 47)), .ref ((q 48)), .ref ((q 49)), .ref ((q 50)), .ref ((q 51))]))]) [0] (by decide) rfl
  have hKk := hKm.sub (tys' := []) [] rfl
  have hFc := va_free (wc := [(h6, .inr (6, [.ref ((q 0)), .int 0, .int 0, .int 0, .int 0, .ref ((q 5)), .ref ((q 6)), .ref ((q 7)), .ref ((q 8)), .ref ((q 9)), .ref ((q 10)), .ref ((q 11)), .ref ((q 12)), .int 0, .int ((-1)), .int 0, .ref ((q 16)), .int 0, .ref ((q 18)), .ref ((q 19)), .ref ((q 20)), .ref ((q 21)), .ref ((q 22)), .ref ((q 23)), .ref ((q 24)), .ref ((q 25)), .ref ((q 26)), .ref ((q 27)), .ref ((q 28)), .ref ((q 29)), .ref ((q 30)), .int 0, .ref ((q 32)), .ref ((q 33)), .ref ((q 34)), .ref ((q 35)), .ref ((q 36)), .ref ((q 37)), .ref ((q 38)), .int 0, .int 0, .int 0, .int 0, .int 0, .int 0, .ref ((q 45)), .ref ((q 46)), .ref ((q 47)), .ref ((q 48)), .ref ((q 49)), .ref ((q 50)), .ref ((q 51))]))]) hD hS hA [0] rfl
  refine va_calli (va_runV (As := [.int (xs (Int32.toNatClampNeg 1)), .int (xs (Int32.toNatClampNeg 2))]) (rest := [.int r_1]) ⟨hx, hb, hml, hown, hts⟩ (c_X6_points l dC dI h6 q (xs (Int32.toNatClampNeg 1)) (xs (Int32.toNatClampNeg 2)) H.size) (cwV 2 hts gl_X6_points rfl rfl rfl (by decide +kernel) ⟨Nat.le_of_ble_eq_true rfl, Nat.le_of_ble_eq_true rfl⟩) ⟨fun a U g mk q => by obtain ⟨q0, q1, qP, qK, qD⟩ := q; exact ⟨q0, q1, qP, va_K.moved (u := U) (U := U.calling g mk a) (Vm.Alike.refl U.vm) qK, qD⟩, va_recv hKk hPc (ci := 6) (q0 := 0) rfl rfl, fun U hU hW => ⟨rfl, by rw [hU], by rw [hU]; exact hPc, va_K.moved hW.alike hKk, hDc.weaken (fun _ _ _ _ => trivial)⟩⟩ rfl rfl hl.1 rfl (lv_room (Nat.le_of_ble_eq_true rfl)) dL_law_749 ⟨show (45 + 0 : Nat) ≤ 600002 from by omega, show (5784 + 0 : Nat) ≤ 7302232 from by omega⟩) hS (fun q _ h => hFc q h) hFc (fun r_2 u t H1 locs ht hvm hw2 hB hz1 hk1 hS => ?_)
  refine W.widen (k := 45) (n := 5784) (by omega) (by omega) ?_
  try dsimp only at hw2
  refine lv_icmp_eq (tgt := 856) hx hb dL_law_752 (by decide) (fun _ => ?_) (fun c_9 => absurd (hw1.trans hw2.symm) c_9)
  exact law_tail l C0 (by omega) (by omega) hS hl rfl
set_option maxHeartbeats 4000000 in
set_option maxRecDepth 100000 in
theorem law_case_14 {p : Program} {e : Env} {s : State} {m : MethodId} {below : List Frame} {meth : Method} {c : Code} (l : Launch) {b : Nat} {xs : Nat → Int32} (C0 : lw_At p s m meth c b 6 xs)  {dC : Nat → ClassId} {dI : Nat → Nat → Nat} {h5 qT qF qN qR qC h6 qo : Nat} {cT cF cN cR cC : ClassId} {q : Nat → Nat} {cq : Nat → ClassId} {fw fe : Nat → Int32} (hKc : va_K (dC, dI) vwCl (cTy cT cF cN cR cC) s) (hKm : va_K (dC, dI) vwCl (mT cq) s) {H : Heap} {locs : List Loc} (hP : va_P (dC, dI) vwCl (cW h5 qT qF qN qR qC cT cF cN cR cC ++ mW h6 q cq fw fe) H) (hD : va_D (fun q : Nat => s.heap.size ≤ q) (cW h5 qT qF qN qR qC cT cF cN cR cC ++ mW h6 q cq fw fe)) (hS : va_S (fun q : Nat => s.heap.size ≤ q) s.heap H locs) {ls : Array Slot} (hl : lv_has ls 7 [(4, .int 0), (3, .ref qo), (2, .ref h6), (1, .ref h5), (0, .ref b)]) : W p l e room_1 s m #[Value.ref b] below meth c H locs 45 5784 (lw_Z below #[Value.ref b] s) (F0 m 757 ls []) := by
  obtain ⟨hx, hb, hr, hml, hown, hts, hX, hbl, hlocks, hgv⟩ := id C0
  have hts := fun w h => hts w (wl_in w h)
  have hA : ∀ q : Nat, s.heap.size ≤ q → (fun q : Nat => s.heap.size ≤ q) q := fun _ h => h
  have hbA : ¬ (fun q : Nat => s.heap.size ≤ q) b := Nat.not_le.mpr hbl
  refine lv_aload_n hx hb dL_law_757 rfl (lv_at hl 3 rfl) ?_
  refine lv_aload_n hx hb dL_law_758 rfl (lv_at hl 4 rfl) ?_
  refine lv_iload hx hb dL_law_759 (lv_at hl 0 rfl) ?_
  refine lv_iconst (v := 1) hx hb dL_law_761 (by decide) ?_
  refine lv_iadd hx hb dL_law_762 ?_
  rw [show ((0 : Int32) + 1) = 1 from by decide]
  refine va_sld hx hb hX hbl hbA hS (by unfold vp_in; decide) dL_law_763 ?_
  refine lv_aload_n hx hb dL_law_764 rfl (lv_at hl 4 rfl) ?_
  refine lv_iload hx hb dL_law_765 (lv_at hl 0 rfl) ?_
  refine lv_iconst (v := 2) hx hb dL_law_767 (by decide) ?_
  refine lv_iadd hx hb dL_law_768 ?_
  rw [show ((0 : Int32) + 2) = 2 from by decide]
  refine va_sld hx hb hX hbl hbA hS (by unfold vp_in; decide) dL_law_769 ?_
  have hPc := hP.sub (ws' := [(h5, .inr (5, [.ref qT, .int 0, .ref qF, .int 0, .int 0, .int ((-1)), .int 0, .ref qN, .int 0, .ref qR, .int 0, .int 0, .ref qC]))]) [0] rfl
  have hDc := hD.sub (ws' := [(h5, .inr (5, [.ref qT, .int 0, .ref qF, .int 0, .int 0, .int ((-1)), .int 0, .ref qN, .int 0, .ref qR, .int 0, .int 0, .ref qC]))]) [0] (by decide) rfl
  have hKk := hKc.sub (tys' := []) [] rfl
  have hFc := va_free (wc := [(h5, .inr (5, [.ref qT, .int 0, .ref qF, .int 0, .int 0, .int ((-1)), .int 0, .ref qN, .int 0, .ref qR, .int 0, .int 0, .ref qC]))]) hD hS hA [0] rfl
  refine va_calli (va_runV (As := [.int (xs (Int32.toNatClampNeg 1)), .int (xs (Int32.toNatClampNeg 2))]) (rest := []) ⟨hx, hb, hml, hown, hts⟩ (c_X5_standing l dC dI h5 qT qF qN qR qC (xs (Int32.toNatClampNeg 1)) (xs (Int32.toNatClampNeg 2)) H.size) (cwV 2 hts gl_X5_standing rfl rfl rfl (by decide +kernel) ⟨Nat.le_of_ble_eq_true rfl, Nat.le_of_ble_eq_true rfl⟩) ⟨fun a U g mk q => by obtain ⟨q0, q1, qP, qK, qD⟩ := q; exact ⟨q0, q1, qP, va_K.moved (u := U) (U := U.calling g mk a) (Vm.Alike.refl U.vm) qK, qD⟩, va_recv hKk hPc (ci := 5) (q0 := 0) rfl rfl, fun U hU hW => ⟨rfl, by rw [hU], by rw [hU]; exact hPc, va_K.moved hW.alike hKk, hDc.weaken (fun _ _ _ _ => trivial)⟩⟩ rfl rfl hl.1 rfl (lv_room (Nat.le_of_ble_eq_true rfl)) dL_law_770 ⟨show (45 + 0 : Nat) ≤ 600002 from by omega, show (5784 + 0 : Nat) ≤ 7302232 from by omega⟩) hS (fun q _ h => hFc q h) hFc (fun r_1 u t H1 locs ht hvm hw1 hB hz1 hk1 hS => ?_)
  refine W.widen (k := 45) (n := 5784) (by omega) (by omega) ?_
  try dsimp only at hw1
  obtain ⟨hP, hD⟩ := va_join (wr := [(h6, .inr (6, [.ref ((q 0)), .int 0, .int 0, .int 0, .int 0, .ref ((q 5)), .ref ((q 6)), .ref ((q 7)), .ref ((q 8)), .ref ((q 9)), .ref ((q 10)), .ref ((q 11)), .ref ((q 12)), .int 0, .int ((-1)), .int 0, .ref ((q 16)), .int 0, .ref ((q 18)), .ref ((q 19)), .ref ((q 20)), .ref ((q 21)), .ref ((q 22)), .ref ((q 23)), .ref ((q 24)), .ref ((q 25)), .ref ((q 26)), .ref ((q 27)), .ref ((q 28)), .ref ((q 29)), .ref ((q 30)), .int 0, .ref ((q 32)), .ref ((q 33)), .ref ((q 34)), .ref ((q 35)), .ref ((q 36)), .ref ((q 37)), .ref ((q 38)), .int 0, .int 0, .int 0, .int 0, .int 0, .int 0, .ref ((q 45)), .ref ((q 46)), .ref ((q 47)), .ref ((q 48)), .ref ((q 49)), .ref ((q 50)), .ref ((q 51))]))]) (w1 := []) hP hD [0] [6] rfl rfl (by decide) (by decide) hk1 hFc lw_nilP lw_nilD
  have hP : va_P (dC, dI) vwCl [(h6, .inr (6, [.ref ((q 0)), .int 0, .int 0, .int 0, .int 0, .ref ((q 5)), .ref ((q 6)), .ref ((q 7)), .ref ((q 8)), .ref ((q 9)), .ref ((q 10)), .ref ((q 11)), .ref ((q 12)), .int 0, .int ((-1)), .int 0, .ref ((q 16)), .int 0, .ref ((q 18)), .ref ((q 19)), .ref ((q 20)), .ref ((q 21)), .ref ((q 22)), .ref ((q 23)), .ref ((q 24)), .ref ((q 25)), .ref ((q 26)), .ref ((q 27)), .ref ((q 28)), .ref ((q 29)), .ref ((q 30)), .int 0, .ref ((q 32)), .ref ((q 33)), .ref ((q 34)), .ref ((q 35)), .ref ((q 36)), .ref ((q 37)), .ref ((q 38)), .int 0, .int 0, .int 0, .int 0, .int 0, .int 0, .ref ((q 45)), .ref ((q 46)), .ref ((q 47)), .ref ((q 48)), .ref ((q 49)), .ref ((q 50)), .ref ((q 51))]))] H1 := hP
  have hD : va_D (fun q : Nat => s.heap.size ≤ q) [(h6, .inr (6, [.ref ((q 0)), .int 0, .int 0, .int 0, .int 0, .ref ((q 5)), .ref ((q 6)), .ref ((q 7)), .ref ((q 8)), .ref ((q 9)), .ref ((q 10)), .ref ((q 11)), .ref ((q 12)), .int 0, .int ((-1)), .int 0, .ref ((q 16)), .int 0, .ref ((q 18)), .ref ((q 19)), .ref ((q 20)), .ref ((q 21)), .ref ((q 22)), .ref ((q 23)), .ref ((q 24)), .ref ((q 25)), .ref ((q 26)), .ref ((q 27)), .ref ((q 28)), .ref ((q 29)), .ref ((q 30)), .int 0, .ref ((q 32)), .ref ((q 33)), .ref ((q 34)), .ref ((q 35)), .ref ((q 36)), .ref ((q 37)), .ref ((q 38)), .int 0, .int 0, .int 0, .int 0, .int 0, .int 0, .ref ((q 45)), .ref ((q 46)), .ref ((q 47)), .ref ((q 48)), .ref ((q 49)), .ref ((q 50)), .ref ((q 51))]))] := hD
  generalize H1 = H at hP hS ⊢
  refine lv_aload_n hx hb dL_law_773 rfl (lv_at hl 2 rfl) ?_
  refine lv_aload_n hx hb dL_law_774 rfl (lv_at hl 4 rfl) ?_
  refine lv_iload hx hb dL_law_775 (lv_at hl 0 rfl) ?_
  refine lv_iconst (v := 1) hx hb dL_law_777 (by decide) ?_
  refine lv_iadd hx hb dL_law_778 ?_
  rw [show ((0 : Int32) + 1) = 1 from by decide]
  refine va_sld hx hb hX hbl hbA hS (by unfold vp_in; decide) dL_law_779 ?_
  refine lv_aload_n hx hb dL_law_780 rfl (lv_at hl 4 rfl) ?_
  refine lv_iload hx hb dL_law_781 (lv_at hl 0 rfl) ?_
  refine lv_iconst (v := 2) hx hb dL_law_783 (by decide) ?_
  refine lv_iadd hx hb dL_law_784 ?_
  rw [show ((0 : Int32) + 2) = 2 from by decide]
  refine va_sld hx hb hX hbl hbA hS (by unfold vp_in; decide) dL_law_785 ?_
  have hPc := hP.sub (ws' := [(h6, .inr (6, [.ref ((q 0)), .int 0, .int 0, .int 0, .int 0, .ref ((q 5)), .ref ((q 6)), .ref ((q 7)), .ref ((q 8)), .ref ((q 9)), .ref ((q 10)), .ref ((q 11)), .ref ((q 12)), .int 0, .int ((-1)), .int 0, .ref ((q 16)), .int 0, .ref ((q 18)), .ref ((q 19)), .ref ((q 20)), .ref ((q 21)), .ref ((q 22)), .ref ((q 23)), .ref ((q 24)), .ref ((q 25)), .ref ((q 26)), .ref ((q 27)), .ref ((q 28)), .ref ((q 29)), .ref ((q 30)), .int 0, .ref ((q 32)), .ref ((q 33)), .ref ((q 34)), .ref ((q 35)), .ref ((q 36)), .ref ((q 37)), .ref ((q 38)), .int 0, .int 0, .int 0, .int 0, .int 0, .int 0, .ref ((q 45)), .ref ((q 46)), .ref ((q 47)), .ref ((q 48)), .ref ((q 49)), .ref ((q 50)), .ref ((q 51))]))]) [0] rfl
  have hDc := hD.sub (ws' := [(h6, .inr (6, [.ref ((q 0)), .int 0, .int 0, .int 0, .int 0, .ref ((q 5)), .ref ((q 6)), .ref ((q 7)), .ref ((q 8)), .ref ((q 9)), .ref ((q 10)), .ref ((q 11)), .ref ((q 12)), .int 0, .int ((-1)), .int 0, .ref ((q 16)), .int 0, .ref ((q 18)), .ref ((q 19)), .ref ((q 20)), .ref ((q 21)), .ref ((q 22)), .ref ((q 23)), .ref ((q 24)), .ref ((q 25)), .ref ((q 26)), .ref ((q 27)), .ref ((q 28)), .ref ((q 29)), .ref ((q 30)), .int 0, .ref ((q 32)), .ref ((q 33)), .ref ((q 34)), .ref ((q 35)), .ref ((q 36)), .ref ((q 37)), .ref ((q 38)), .int 0, .int 0, .int 0, .int 0, .int 0, .int 0, .ref ((q 45)), .ref ((q 46)), .ref ((q 47)), .ref ((q 48)), .ref ((q 49)), .ref ((q 50)), .ref ((q 51))]))]) [0] (by decide) rfl
  have hKk := hKm.sub (tys' := []) [] rfl
  have hFc := va_free (wc := [(h6, .inr (6, [.ref ((q 0)), .int 0, .int 0, .int 0, .int 0, .ref ((q 5)), .ref ((q 6)), .ref ((q 7)), .ref ((q 8)), .ref ((q 9)), .ref ((q 10)), .ref ((q 11)), .ref ((q 12)), .int 0, .int ((-1)), .int 0, .ref ((q 16)), .int 0, .ref ((q 18)), .ref ((q 19)), .ref ((q 20)), .ref ((q 21)), .ref ((q 22)), .ref ((q 23)), .ref ((q 24)), .ref ((q 25)), .ref ((q 26)), .ref ((q 27)), .ref ((q 28)), .ref ((q 29)), .ref ((q 30)), .int 0, .ref ((q 32)), .ref ((q 33)), .ref ((q 34)), .ref ((q 35)), .ref ((q 36)), .ref ((q 37)), .ref ((q 38)), .int 0, .int 0, .int 0, .int 0, .int 0, .int 0, .ref ((q 45)), .ref ((q 46)), .ref ((q 47)), .ref ((q 48)), .ref ((q 49)), .ref ((q 50)), .ref ((q 51))]))]) hD hS hA [0] rfl
  refine va_calli (va_runV (As := [.int (xs (Int32.toNatClampNeg 1)), .int (xs (Int32.toNatClampNeg 2))]) (rest := [.int r_1]) ⟨hx, hb, hml, hown, hts⟩ (c_X6_standing l dC dI h6 q (xs (Int32.toNatClampNeg 1)) (xs (Int32.toNatClampNeg 2)) H.size) (cwV 2 hts gl_X6_standing rfl rfl rfl (by decide +kernel) ⟨Nat.le_of_ble_eq_true rfl, Nat.le_of_ble_eq_true rfl⟩) ⟨fun a U g mk q => by obtain ⟨q0, q1, qP, qK, qD⟩ := q; exact ⟨q0, q1, qP, va_K.moved (u := U) (U := U.calling g mk a) (Vm.Alike.refl U.vm) qK, qD⟩, va_recv hKk hPc (ci := 6) (q0 := 0) rfl rfl, fun U hU hW => ⟨rfl, by rw [hU], by rw [hU]; exact hPc, va_K.moved hW.alike hKk, hDc.weaken (fun _ _ _ _ => trivial)⟩⟩ rfl rfl hl.1 rfl (lv_room (Nat.le_of_ble_eq_true rfl)) dL_law_786 ⟨show (45 + 0 : Nat) ≤ 600002 from by omega, show (5784 + 0 : Nat) ≤ 7302232 from by omega⟩) hS (fun q _ h => hFc q h) hFc (fun r_2 u t H1 locs ht hvm hw2 hB hz1 hk1 hS => ?_)
  refine W.widen (k := 45) (n := 5784) (by omega) (by omega) ?_
  try dsimp only at hw2
  refine lv_icmp_eq (tgt := 856) hx hb dL_law_789 (by decide) (fun _ => ?_) (fun c_9 => absurd (hw1.trans hw2.symm) c_9)
  exact law_tail l C0 (by omega) (by omega) hS hl rfl
set_option maxHeartbeats 4000000 in
set_option maxRecDepth 100000 in
theorem law_case_15 {p : Program} {e : Env} {s : State} {m : MethodId} {below : List Frame} {meth : Method} {c : Code} (l : Launch) {b : Nat} {xs : Nat → Int32} (C0 : lw_At p s m meth c b 6 xs)  {dC : Nat → ClassId} {dI : Nat → Nat → Nat} {h5 qT qF qN qR qC h6 qo : Nat} {cT cF cN cR cC : ClassId} {q : Nat → Nat} {cq : Nat → ClassId} {fw fe : Nat → Int32} (hKc : va_K (dC, dI) vwCl (cTy cT cF cN cR cC) s) (hKm : va_K (dC, dI) vwCl (mT cq) s) {H : Heap} {locs : List Loc} (hP : va_P (dC, dI) vwCl (cW h5 qT qF qN qR qC cT cF cN cR cC ++ mW h6 q cq fw fe) H) (hD : va_D (fun q : Nat => s.heap.size ≤ q) (cW h5 qT qF qN qR qC cT cF cN cR cC ++ mW h6 q cq fw fe)) (hS : va_S (fun q : Nat => s.heap.size ≤ q) s.heap H locs) {ls : Array Slot} (hl : lv_has ls 7 [(4, .int 0), (3, .ref qo), (2, .ref h6), (1, .ref h5), (0, .ref b)]) : W p l e room_1 s m #[Value.ref b] below meth c H locs 45 5784 (lw_Z below #[Value.ref b] s) (F0 m 794 ls []) := by
  obtain ⟨hx, hb, hr, hml, hown, hts, hX, hbl, hlocks, hgv⟩ := id C0
  have hts := fun w h => hts w (wl_in w h)
  have hA : ∀ q : Nat, s.heap.size ≤ q → (fun q : Nat => s.heap.size ≤ q) q := fun _ h => h
  have hbA : ¬ (fun q : Nat => s.heap.size ≤ q) b := Nat.not_le.mpr hbl
  refine lv_aload_n hx hb dL_law_794 rfl (lv_at hl 3 rfl) ?_
  refine lv_aload_n hx hb dL_law_795 rfl (lv_at hl 4 rfl) ?_
  refine lv_iload hx hb dL_law_796 (lv_at hl 0 rfl) ?_
  refine lv_iconst (v := 1) hx hb dL_law_798 (by decide) ?_
  refine lv_iadd hx hb dL_law_799 ?_
  rw [show ((0 : Int32) + 1) = 1 from by decide]
  refine va_sld hx hb hX hbl hbA hS (by unfold vp_in; decide) dL_law_800 ?_
  refine lv_aload_n hx hb dL_law_801 rfl (lv_at hl 4 rfl) ?_
  refine lv_iload hx hb dL_law_802 (lv_at hl 0 rfl) ?_
  refine lv_iconst (v := 2) hx hb dL_law_804 (by decide) ?_
  refine lv_iadd hx hb dL_law_805 ?_
  rw [show ((0 : Int32) + 2) = 2 from by decide]
  refine va_sld hx hb hX hbl hbA hS (by unfold vp_in; decide) dL_law_806 ?_
  have hPc := hP.sub (ws' := [(h5, .inr (5, [.ref qT, .int 0, .ref qF, .int 0, .int 0, .int ((-1)), .int 0, .ref qN, .int 0, .ref qR, .int 0, .int 0, .ref qC]))]) [0] rfl
  have hDc := hD.sub (ws' := [(h5, .inr (5, [.ref qT, .int 0, .ref qF, .int 0, .int 0, .int ((-1)), .int 0, .ref qN, .int 0, .ref qR, .int 0, .int 0, .ref qC]))]) [0] (by decide) rfl
  have hKk := hKc.sub (tys' := []) [] rfl
  have hFc := va_free (wc := [(h5, .inr (5, [.ref qT, .int 0, .ref qF, .int 0, .int 0, .int ((-1)), .int 0, .ref qN, .int 0, .ref qR, .int 0, .int 0, .ref qC]))]) hD hS hA [0] rfl
  refine va_calli (va_runV (As := [.int (xs (Int32.toNatClampNeg 1)), .int (xs (Int32.toNatClampNeg 2))]) (rest := []) ⟨hx, hb, hml, hown, hts⟩ (c_X5_starters l dC dI h5 qT qF qN qR qC (xs (Int32.toNatClampNeg 1)) (xs (Int32.toNatClampNeg 2)) H.size) (cwV 2 hts gl_X5_starters rfl rfl rfl (by decide +kernel) ⟨Nat.le_of_ble_eq_true rfl, Nat.le_of_ble_eq_true rfl⟩) ⟨fun a U g mk q => by obtain ⟨q0, q1, qP, qK, qD⟩ := q; exact ⟨q0, q1, qP, va_K.moved (u := U) (U := U.calling g mk a) (Vm.Alike.refl U.vm) qK, qD⟩, va_recv hKk hPc (ci := 5) (q0 := 0) rfl rfl, fun U hU hW => ⟨rfl, by rw [hU], by rw [hU]; exact hPc, va_K.moved hW.alike hKk, hDc.weaken (fun _ _ _ _ => trivial)⟩⟩ rfl rfl hl.1 rfl (lv_room (Nat.le_of_ble_eq_true rfl)) dL_law_807 ⟨show (45 + 0 : Nat) ≤ 600002 from by omega, show (5784 + 0 : Nat) ≤ 7302232 from by omega⟩) hS (fun q _ h => hFc q h) hFc (fun r_1 u t H1 locs ht hvm hw1 hB hz1 hk1 hS => ?_)
  refine W.widen (k := 45) (n := 5784) (by omega) (by omega) ?_
  try dsimp only at hw1
  obtain ⟨hP, hD⟩ := va_join (wr := [(h6, .inr (6, [.ref ((q 0)), .int 0, .int 0, .int 0, .int 0, .ref ((q 5)), .ref ((q 6)), .ref ((q 7)), .ref ((q 8)), .ref ((q 9)), .ref ((q 10)), .ref ((q 11)), .ref ((q 12)), .int 0, .int ((-1)), .int 0, .ref ((q 16)), .int 0, .ref ((q 18)), .ref ((q 19)), .ref ((q 20)), .ref ((q 21)), .ref ((q 22)), .ref ((q 23)), .ref ((q 24)), .ref ((q 25)), .ref ((q 26)), .ref ((q 27)), .ref ((q 28)), .ref ((q 29)), .ref ((q 30)), .int 0, .ref ((q 32)), .ref ((q 33)), .ref ((q 34)), .ref ((q 35)), .ref ((q 36)), .ref ((q 37)), .ref ((q 38)), .int 0, .int 0, .int 0, .int 0, .int 0, .int 0, .ref ((q 45)), .ref ((q 46)), .ref ((q 47)), .ref ((q 48)), .ref ((q 49)), .ref ((q 50)), .ref ((q 51))])), ((q 51), .inl ((cq 51), 16, .inl (fun _ => 0)))]) (w1 := []) hP hD [0] [6, 43] rfl rfl (by decide) (by decide) hk1 hFc lw_nilP lw_nilD
  have hP : va_P (dC, dI) vwCl [(h6, .inr (6, [.ref ((q 0)), .int 0, .int 0, .int 0, .int 0, .ref ((q 5)), .ref ((q 6)), .ref ((q 7)), .ref ((q 8)), .ref ((q 9)), .ref ((q 10)), .ref ((q 11)), .ref ((q 12)), .int 0, .int ((-1)), .int 0, .ref ((q 16)), .int 0, .ref ((q 18)), .ref ((q 19)), .ref ((q 20)), .ref ((q 21)), .ref ((q 22)), .ref ((q 23)), .ref ((q 24)), .ref ((q 25)), .ref ((q 26)), .ref ((q 27)), .ref ((q 28)), .ref ((q 29)), .ref ((q 30)), .int 0, .ref ((q 32)), .ref ((q 33)), .ref ((q 34)), .ref ((q 35)), .ref ((q 36)), .ref ((q 37)), .ref ((q 38)), .int 0, .int 0, .int 0, .int 0, .int 0, .int 0, .ref ((q 45)), .ref ((q 46)), .ref ((q 47)), .ref ((q 48)), .ref ((q 49)), .ref ((q 50)), .ref ((q 51))])), ((q 51), .inl ((cq 51), 16, .inl (fun _ => 0)))] H1 := hP
  have hD : va_D (fun q : Nat => s.heap.size ≤ q) [(h6, .inr (6, [.ref ((q 0)), .int 0, .int 0, .int 0, .int 0, .ref ((q 5)), .ref ((q 6)), .ref ((q 7)), .ref ((q 8)), .ref ((q 9)), .ref ((q 10)), .ref ((q 11)), .ref ((q 12)), .int 0, .int ((-1)), .int 0, .ref ((q 16)), .int 0, .ref ((q 18)), .ref ((q 19)), .ref ((q 20)), .ref ((q 21)), .ref ((q 22)), .ref ((q 23)), .ref ((q 24)), .ref ((q 25)), .ref ((q 26)), .ref ((q 27)), .ref ((q 28)), .ref ((q 29)), .ref ((q 30)), .int 0, .ref ((q 32)), .ref ((q 33)), .ref ((q 34)), .ref ((q 35)), .ref ((q 36)), .ref ((q 37)), .ref ((q 38)), .int 0, .int 0, .int 0, .int 0, .int 0, .int 0, .ref ((q 45)), .ref ((q 46)), .ref ((q 47)), .ref ((q 48)), .ref ((q 49)), .ref ((q 50)), .ref ((q 51))])), ((q 51), .inl ((cq 51), 16, .inl (fun _ => 0)))] := hD
  generalize H1 = H at hP hS ⊢
  refine lv_aload_n hx hb dL_law_810 rfl (lv_at hl 2 rfl) ?_
  refine lv_aload_n hx hb dL_law_811 rfl (lv_at hl 4 rfl) ?_
  refine lv_iload hx hb dL_law_812 (lv_at hl 0 rfl) ?_
  refine lv_iconst (v := 1) hx hb dL_law_814 (by decide) ?_
  refine lv_iadd hx hb dL_law_815 ?_
  rw [show ((0 : Int32) + 1) = 1 from by decide]
  refine va_sld hx hb hX hbl hbA hS (by unfold vp_in; decide) dL_law_816 ?_
  refine lv_aload_n hx hb dL_law_817 rfl (lv_at hl 4 rfl) ?_
  refine lv_iload hx hb dL_law_818 (lv_at hl 0 rfl) ?_
  refine lv_iconst (v := 2) hx hb dL_law_820 (by decide) ?_
  refine lv_iadd hx hb dL_law_821 ?_
  rw [show ((0 : Int32) + 2) = 2 from by decide]
  refine va_sld hx hb hX hbl hbA hS (by unfold vp_in; decide) dL_law_822 ?_
  have hPc := hP.sub (ws' := [(h6, .inr (6, [.ref ((q 0)), .int 0, .int 0, .int 0, .int 0, .ref ((q 5)), .ref ((q 6)), .ref ((q 7)), .ref ((q 8)), .ref ((q 9)), .ref ((q 10)), .ref ((q 11)), .ref ((q 12)), .int 0, .int ((-1)), .int 0, .ref ((q 16)), .int 0, .ref ((q 18)), .ref ((q 19)), .ref ((q 20)), .ref ((q 21)), .ref ((q 22)), .ref ((q 23)), .ref ((q 24)), .ref ((q 25)), .ref ((q 26)), .ref ((q 27)), .ref ((q 28)), .ref ((q 29)), .ref ((q 30)), .int 0, .ref ((q 32)), .ref ((q 33)), .ref ((q 34)), .ref ((q 35)), .ref ((q 36)), .ref ((q 37)), .ref ((q 38)), .int 0, .int 0, .int 0, .int 0, .int 0, .int 0, .ref ((q 45)), .ref ((q 46)), .ref ((q 47)), .ref ((q 48)), .ref ((q 49)), .ref ((q 50)), .ref ((q 51))])), ((q 51), .inl ((cq 51), 16, .inl (fun _ => 0)))]) [0, 1] rfl
  have hDc := hD.sub (ws' := [(h6, .inr (6, [.ref ((q 0)), .int 0, .int 0, .int 0, .int 0, .ref ((q 5)), .ref ((q 6)), .ref ((q 7)), .ref ((q 8)), .ref ((q 9)), .ref ((q 10)), .ref ((q 11)), .ref ((q 12)), .int 0, .int ((-1)), .int 0, .ref ((q 16)), .int 0, .ref ((q 18)), .ref ((q 19)), .ref ((q 20)), .ref ((q 21)), .ref ((q 22)), .ref ((q 23)), .ref ((q 24)), .ref ((q 25)), .ref ((q 26)), .ref ((q 27)), .ref ((q 28)), .ref ((q 29)), .ref ((q 30)), .int 0, .ref ((q 32)), .ref ((q 33)), .ref ((q 34)), .ref ((q 35)), .ref ((q 36)), .ref ((q 37)), .ref ((q 38)), .int 0, .int 0, .int 0, .int 0, .int 0, .int 0, .ref ((q 45)), .ref ((q 46)), .ref ((q 47)), .ref ((q 48)), .ref ((q 49)), .ref ((q 50)), .ref ((q 51))])), ((q 51), .inl ((cq 51), 16, .inl (fun _ => 0)))]) [0, 1] (by decide) rfl
  have hKk := hKm.sub (tys' := [((cq 51), .int)]) [36] rfl
  have hFc := va_free (wc := [(h6, .inr (6, [.ref ((q 0)), .int 0, .int 0, .int 0, .int 0, .ref ((q 5)), .ref ((q 6)), .ref ((q 7)), .ref ((q 8)), .ref ((q 9)), .ref ((q 10)), .ref ((q 11)), .ref ((q 12)), .int 0, .int ((-1)), .int 0, .ref ((q 16)), .int 0, .ref ((q 18)), .ref ((q 19)), .ref ((q 20)), .ref ((q 21)), .ref ((q 22)), .ref ((q 23)), .ref ((q 24)), .ref ((q 25)), .ref ((q 26)), .ref ((q 27)), .ref ((q 28)), .ref ((q 29)), .ref ((q 30)), .int 0, .ref ((q 32)), .ref ((q 33)), .ref ((q 34)), .ref ((q 35)), .ref ((q 36)), .ref ((q 37)), .ref ((q 38)), .int 0, .int 0, .int 0, .int 0, .int 0, .int 0, .ref ((q 45)), .ref ((q 46)), .ref ((q 47)), .ref ((q 48)), .ref ((q 49)), .ref ((q 50)), .ref ((q 51))])), ((q 51), .inl ((cq 51), 16, .inl (fun _ => 0)))]) hD hS hA [0, 1] rfl
  refine va_calli (va_runV (As := [.int (xs (Int32.toNatClampNeg 1)), .int (xs (Int32.toNatClampNeg 2))]) (rest := [.int r_1]) ⟨hx, hb, hml, hown, hts⟩ (c_X6_starters l dC dI h6 q cq (xs (Int32.toNatClampNeg 1)) (xs (Int32.toNatClampNeg 2)) H.size) (cwV 2 hts gl_X6_starters rfl rfl rfl (by decide +kernel) ⟨Nat.le_of_ble_eq_true rfl, Nat.le_of_ble_eq_true rfl⟩) ⟨fun a U g mk q => by obtain ⟨q0, q1, qP, qK, qD⟩ := q; exact ⟨q0, q1, qP, va_K.moved (u := U) (U := U.calling g mk a) (Vm.Alike.refl U.vm) qK, qD⟩, va_recv hKk hPc (ci := 6) (q0 := 0) rfl rfl, fun U hU hW => ⟨rfl, by rw [hU], by rw [hU]; exact hPc, va_K.moved hW.alike hKk, hDc.weaken (fun _ _ _ _ => trivial)⟩⟩ rfl rfl hl.1 rfl (lv_room (Nat.le_of_ble_eq_true rfl)) dL_law_823 ⟨show (45 + 0 : Nat) ≤ 600002 from by omega, show (5784 + 0 : Nat) ≤ 7302232 from by omega⟩) hS (fun q _ h => hFc q h) hFc (fun r_2 u t H1 locs ht hvm hw2 hB hz1 hk1 hS => ?_)
  refine W.widen (k := 45) (n := 5784) (by omega) (by omega) ?_
  try dsimp only at hw2
  refine lv_icmp_eq (tgt := 856) hx hb dL_law_826 (by decide) (fun _ => ?_) (fun c_9 => absurd (by (simp only [and_true, true_and, and_false, false_and, or_true, true_or, or_false, false_or, not_true_eq_false, not_false_eq_true, num_lt, num_le, num_eq, Int32.zero_add, Int32.sub_zero, Int32.add_zero, num_m2, num_m1, num_0, num_1, num_2, num_3, num_4, num_5, num_6, num_7, num_8, num_16, num_20, num_31, num_200, num_1000] at hw1 hw2 ⊢); omega) c_9)
  exact law_tail l C0 (by omega) (by omega) hS hl rfl
set_option maxHeartbeats 4000000 in
set_option maxRecDepth 100000 in
theorem law_case_16 {p : Program} {e : Env} {s : State} {m : MethodId} {below : List Frame} {meth : Method} {c : Code} (l : Launch) {b : Nat} {xs : Nat → Int32} (C0 : lw_At p s m meth c b 6 xs)  {dC : Nat → ClassId} {dI : Nat → Nat → Nat} {h5 qT qF qN qR qC h6 qo : Nat} {cT cF cN cR cC : ClassId} {q : Nat → Nat} {cq : Nat → ClassId} {fw fe : Nat → Int32} (hKc : va_K (dC, dI) vwCl (cTy cT cF cN cR cC) s) (hKm : va_K (dC, dI) vwCl (mT cq) s) {H : Heap} {locs : List Loc} (hP : va_P (dC, dI) vwCl (cW h5 qT qF qN qR qC cT cF cN cR cC ++ mW h6 q cq fw fe) H) (hD : va_D (fun q : Nat => s.heap.size ≤ q) (cW h5 qT qF qN qR qC cT cF cN cR cC ++ mW h6 q cq fw fe)) (hS : va_S (fun q : Nat => s.heap.size ≤ q) s.heap H locs) {ls : Array Slot} (hl : lv_has ls 7 [(4, .int 0), (3, .ref qo), (2, .ref h6), (1, .ref h5), (0, .ref b)]) : W p l e room_1 s m #[Value.ref b] below meth c H locs 45 5784 (lw_Z below #[Value.ref b] s) (F0 m 831 ls []) := by
  obtain ⟨hx, hb, hr, hml, hown, hts, hX, hbl, hlocks, hgv⟩ := id C0
  have hts := fun w h => hts w (wl_in w h)
  have hA : ∀ q : Nat, s.heap.size ≤ q → (fun q : Nat => s.heap.size ≤ q) q := fun _ h => h
  have hbA : ¬ (fun q : Nat => s.heap.size ≤ q) b := Nat.not_le.mpr hbl
  refine lv_aload_n hx hb dL_law_831 rfl (lv_at hl 3 rfl) ?_
  refine lv_aload_n hx hb dL_law_832 rfl (lv_at hl 4 rfl) ?_
  refine lv_iload hx hb dL_law_833 (lv_at hl 0 rfl) ?_
  refine lv_iconst (v := 1) hx hb dL_law_835 (by decide) ?_
  refine lv_iadd hx hb dL_law_836 ?_
  rw [show ((0 : Int32) + 1) = 1 from by decide]
  refine va_sld hx hb hX hbl hbA hS (by unfold vp_in; decide) dL_law_837 ?_
  have hPc := hP.sub (ws' := [(h5, .inr (5, [.ref qT, .int 0, .ref qF, .int 0, .int 0, .int ((-1)), .int 0, .ref qN, .int 0, .ref qR, .int 0, .int 0, .ref qC]))]) [0] rfl
  have hDc := hD.sub (ws' := [(h5, .inr (5, [.ref qT, .int 0, .ref qF, .int 0, .int 0, .int ((-1)), .int 0, .ref qN, .int 0, .ref qR, .int 0, .int 0, .ref qC]))]) [0] (by decide) rfl
  have hKk := hKc.sub (tys' := []) [] rfl
  have hFc := va_free (wc := [(h5, .inr (5, [.ref qT, .int 0, .ref qF, .int 0, .int 0, .int ((-1)), .int 0, .ref qN, .int 0, .ref qR, .int 0, .int 0, .ref qC]))]) hD hS hA [0] rfl
  refine va_calli (va_runV (As := [.int (xs (Int32.toNatClampNeg 1))]) (rest := []) ⟨hx, hb, hml, hown, hts⟩ (c_X5_count l dC dI h5 qT qF qN qR qC (xs (Int32.toNatClampNeg 1)) H.size) (cwV 1 hts gl_X5_count rfl rfl rfl (by decide +kernel) ⟨Nat.le_of_ble_eq_true rfl, Nat.le_of_ble_eq_true rfl⟩) ⟨fun a U g mk q => by obtain ⟨q0, q1, qP, qK, qD⟩ := q; exact ⟨q0, q1, qP, va_K.moved (u := U) (U := U.calling g mk a) (Vm.Alike.refl U.vm) qK, qD⟩, va_recv hKk hPc (ci := 5) (q0 := 0) rfl rfl, fun U hU hW => ⟨rfl, by rw [hU], by rw [hU]; exact hPc, va_K.moved hW.alike hKk, hDc.weaken (fun _ _ _ _ => trivial)⟩⟩ rfl rfl hl.1 rfl (lv_room (Nat.le_of_ble_eq_true rfl)) dL_law_838 ⟨show (45 + 0 : Nat) ≤ 600002 from by omega, show (5784 + 0 : Nat) ≤ 7302232 from by omega⟩) hS (fun q _ h => hFc q h) hFc (fun r_1 u t H1 locs ht hvm hw1 hB hz1 hk1 hS => ?_)
  refine W.widen (k := 45) (n := 5784) (by omega) (by omega) ?_
  try dsimp only at hw1
  obtain ⟨hP, hD⟩ := va_join (wr := [(h6, .inr (6, [.ref ((q 0)), .int 0, .int 0, .int 0, .int 0, .ref ((q 5)), .ref ((q 6)), .ref ((q 7)), .ref ((q 8)), .ref ((q 9)), .ref ((q 10)), .ref ((q 11)), .ref ((q 12)), .int 0, .int ((-1)), .int 0, .ref ((q 16)), .int 0, .ref ((q 18)), .ref ((q 19)), .ref ((q 20)), .ref ((q 21)), .ref ((q 22)), .ref ((q 23)), .ref ((q 24)), .ref ((q 25)), .ref ((q 26)), .ref ((q 27)), .ref ((q 28)), .ref ((q 29)), .ref ((q 30)), .int 0, .ref ((q 32)), .ref ((q 33)), .ref ((q 34)), .ref ((q 35)), .ref ((q 36)), .ref ((q 37)), .ref ((q 38)), .int 0, .int 0, .int 0, .int 0, .int 0, .int 0, .ref ((q 45)), .ref ((q 46)), .ref ((q 47)), .ref ((q 48)), .ref ((q 49)), .ref ((q 50)), .ref ((q 51))]))]) (w1 := []) hP hD [0] [6] rfl rfl (by decide) (by decide) hk1 hFc lw_nilP lw_nilD
  have hP : va_P (dC, dI) vwCl [(h6, .inr (6, [.ref ((q 0)), .int 0, .int 0, .int 0, .int 0, .ref ((q 5)), .ref ((q 6)), .ref ((q 7)), .ref ((q 8)), .ref ((q 9)), .ref ((q 10)), .ref ((q 11)), .ref ((q 12)), .int 0, .int ((-1)), .int 0, .ref ((q 16)), .int 0, .ref ((q 18)), .ref ((q 19)), .ref ((q 20)), .ref ((q 21)), .ref ((q 22)), .ref ((q 23)), .ref ((q 24)), .ref ((q 25)), .ref ((q 26)), .ref ((q 27)), .ref ((q 28)), .ref ((q 29)), .ref ((q 30)), .int 0, .ref ((q 32)), .ref ((q 33)), .ref ((q 34)), .ref ((q 35)), .ref ((q 36)), .ref ((q 37)), .ref ((q 38)), .int 0, .int 0, .int 0, .int 0, .int 0, .int 0, .ref ((q 45)), .ref ((q 46)), .ref ((q 47)), .ref ((q 48)), .ref ((q 49)), .ref ((q 50)), .ref ((q 51))]))] H1 := hP
  have hD : va_D (fun q : Nat => s.heap.size ≤ q) [(h6, .inr (6, [.ref ((q 0)), .int 0, .int 0, .int 0, .int 0, .ref ((q 5)), .ref ((q 6)), .ref ((q 7)), .ref ((q 8)), .ref ((q 9)), .ref ((q 10)), .ref ((q 11)), .ref ((q 12)), .int 0, .int ((-1)), .int 0, .ref ((q 16)), .int 0, .ref ((q 18)), .ref ((q 19)), .ref ((q 20)), .ref ((q 21)), .ref ((q 22)), .ref ((q 23)), .ref ((q 24)), .ref ((q 25)), .ref ((q 26)), .ref ((q 27)), .ref ((q 28)), .ref ((q 29)), .ref ((q 30)), .int 0, .ref ((q 32)), .ref ((q 33)), .ref ((q 34)), .ref ((q 35)), .ref ((q 36)), .ref ((q 37)), .ref ((q 38)), .int 0, .int 0, .int 0, .int 0, .int 0, .int 0, .ref ((q 45)), .ref ((q 46)), .ref ((q 47)), .ref ((q 48)), .ref ((q 49)), .ref ((q 50)), .ref ((q 51))]))] := hD
  generalize H1 = H at hP hS ⊢
  refine lv_aload_n hx hb dL_law_841 rfl (lv_at hl 2 rfl) ?_
  refine lv_aload_n hx hb dL_law_842 rfl (lv_at hl 4 rfl) ?_
  refine lv_iload hx hb dL_law_843 (lv_at hl 0 rfl) ?_
  refine lv_iconst (v := 1) hx hb dL_law_845 (by decide) ?_
  refine lv_iadd hx hb dL_law_846 ?_
  rw [show ((0 : Int32) + 1) = 1 from by decide]
  refine va_sld hx hb hX hbl hbA hS (by unfold vp_in; decide) dL_law_847 ?_
  have hPc := hP.sub (ws' := [(h6, .inr (6, [.ref ((q 0)), .int 0, .int 0, .int 0, .int 0, .ref ((q 5)), .ref ((q 6)), .ref ((q 7)), .ref ((q 8)), .ref ((q 9)), .ref ((q 10)), .ref ((q 11)), .ref ((q 12)), .int 0, .int ((-1)), .int 0, .ref ((q 16)), .int 0, .ref ((q 18)), .ref ((q 19)), .ref ((q 20)), .ref ((q 21)), .ref ((q 22)), .ref ((q 23)), .ref ((q 24)), .ref ((q 25)), .ref ((q 26)), .ref ((q 27)), .ref ((q 28)), .ref ((q 29)), .ref ((q 30)), .int 0, .ref ((q 32)), .ref ((q 33)), .ref ((q 34)), .ref ((q 35)), .ref ((q 36)), .ref ((q 37)), .ref ((q 38)), .int 0, .int 0, .int 0, .int 0, .int 0, .int 0, .ref ((q 45)), .ref ((q 46)), .ref ((q 47)), .ref ((q 48)), .ref ((q 49)), .ref ((q 50)), .ref ((q 51))]))]) [0] rfl
  have hDc := hD.sub (ws' := [(h6, .inr (6, [.ref ((q 0)), .int 0, .int 0, .int 0, .int 0, .ref ((q 5)), .ref ((q 6)), .ref ((q 7)), .ref ((q 8)), .ref ((q 9)), .ref ((q 10)), .ref ((q 11)), .ref ((q 12)), .int 0, .int ((-1)), .int 0, .ref ((q 16)), .int 0, .ref ((q 18)), .ref ((q 19)), .ref ((q 20)), .ref ((q 21)), .ref ((q 22)), .ref ((q 23)), .ref ((q 24)), .ref ((q 25)), .ref ((q 26)), .ref ((q 27)), .ref ((q 28)), .ref ((q 29)), .ref ((q 30)), .int 0, .ref ((q 32)), .ref ((q 33)), .ref ((q 34)), .ref ((q 35)), .ref ((q 36)), .ref ((q 37)), .ref ((q 38)), .int 0, .int 0, .int 0, .int 0, .int 0, .int 0, .ref ((q 45)), .ref ((q 46)), .ref ((q 47)), .ref ((q 48)), .ref ((q 49)), .ref ((q 50)), .ref ((q 51))]))]) [0] (by decide) rfl
  have hKk := hKm.sub (tys' := []) [] rfl
  have hFc := va_free (wc := [(h6, .inr (6, [.ref ((q 0)), .int 0, .int 0, .int 0, .int 0, .ref ((q 5)), .ref ((q 6)), .ref ((q 7)), .ref ((q 8)), .ref ((q 9)), .ref ((q 10)), .ref ((q 11)), .ref ((q 12)), .int 0, .int ((-1)), .int 0, .ref ((q 16)), .int 0, .ref ((q 18)), .ref ((q 19)), .ref ((q 20)), .ref ((q 21)), .ref ((q 22)), .ref ((q 23)), .ref ((q 24)), .ref ((q 25)), .ref ((q 26)), .ref ((q 27)), .ref ((q 28)), .ref ((q 29)), .ref ((q 30)), .int 0, .ref ((q 32)), .ref ((q 33)), .ref ((q 34)), .ref ((q 35)), .ref ((q 36)), .ref ((q 37)), .ref ((q 38)), .int 0, .int 0, .int 0, .int 0, .int 0, .int 0, .ref ((q 45)), .ref ((q 46)), .ref ((q 47)), .ref ((q 48)), .ref ((q 49)), .ref ((q 50)), .ref ((q 51))]))]) hD hS hA [0] rfl
  refine va_calli (va_runV (As := [.int (xs (Int32.toNatClampNeg 1))]) (rest := [.int r_1]) ⟨hx, hb, hml, hown, hts⟩ (c_X6_count l dC dI h6 q (xs (Int32.toNatClampNeg 1)) H.size) (cwV 1 hts gl_X6_count rfl rfl rfl (by decide +kernel) ⟨Nat.le_of_ble_eq_true rfl, Nat.le_of_ble_eq_true rfl⟩) ⟨fun a U g mk q => by obtain ⟨q0, q1, qP, qK, qD⟩ := q; exact ⟨q0, q1, qP, va_K.moved (u := U) (U := U.calling g mk a) (Vm.Alike.refl U.vm) qK, qD⟩, va_recv hKk hPc (ci := 6) (q0 := 0) rfl rfl, fun U hU hW => ⟨rfl, by rw [hU], by rw [hU]; exact hPc, va_K.moved hW.alike hKk, hDc.weaken (fun _ _ _ _ => trivial)⟩⟩ rfl rfl hl.1 rfl (lv_room (Nat.le_of_ble_eq_true rfl)) dL_law_848 ⟨show (45 + 0 : Nat) ≤ 600002 from by omega, show (5784 + 0 : Nat) ≤ 7302232 from by omega⟩) hS (fun q _ h => hFc q h) hFc (fun r_2 u t H1 locs ht hvm hw2 hB hz1 hk1 hS => ?_)
  refine W.widen (k := 45) (n := 5784) (by omega) (by omega) ?_
  try dsimp only at hw2
  refine lv_icmp_eq (tgt := 856) hx hb dL_law_851 (by decide) (fun _ => ?_) (fun c_9 => absurd (by (simp only [and_true, true_and, and_false, false_and, or_true, true_or, or_false, false_or, not_true_eq_false, not_false_eq_true, num_lt, num_le, num_eq, Int32.zero_add, Int32.sub_zero, Int32.add_zero, num_m2, num_m1, num_0, num_1, num_2, num_3, num_4, num_5, num_6, num_7, num_8, num_16, num_20, num_31, num_200, num_1000] at hw1 hw2 ⊢); omega) c_9)
  exact law_tail l C0 (by omega) (by omega) hS hl rfl
