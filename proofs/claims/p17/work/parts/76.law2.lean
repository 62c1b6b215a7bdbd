set_option maxHeartbeats 4000000 in
set_option maxRecDepth 100000 in
theorem law_case_8 {p : Program} {e : Env} {s : State} {m : MethodId} {below : List Frame} {meth : Method} {c : Code} (l : Launch) (hst : l.stackTraces = false) {b LL : Nat} {xs : Nat → Int32} {D : va_G} {cA cq : Nat → ClassId} {cO : ClassId} {ad av q : Nat → Nat} {sa sb x0 h6 qo : Nat} (E : lE p s m meth c b LL xs D cA cq cO ad av sa sb) {i : Int32} (hi : 0 ≤ i.toInt ∧ i.toInt + 6 ≤ (LL : Int)) {L : List Nat} {K : Nat → Nat} {I : Nat → Nat → Int32} {O : Nat → Nat → Option Nat} {F : Nat → Int32} {G : Nat → Nat → Int32} {f : Nat → Int64} {H : Heap} {locs : List Loc} {ls : Array Slot} (hM : lI s D cA cq cO q x0 h6 qo L K I O F G f H locs) (hl : lv_has ls 7 [(4, .int i), (3, .ref qo), (2, .ref h6), (1, .ref x0), (0, .ref b)]) {cells slots : Nat} (hc : cells + 10 ≤ 601024) (hs : slots + 82 ≤ 7293034)
    (kk : ∀ (L : List Nat) (K : Nat → Nat) (I : Nat → Nat → Int32) (O : Nat → Nat → Option Nat) (F : Nat → Int32) (G : Nat → Nat → Int32) (f : Nat → Int64) (H : Heap) (locs : List Loc) (ls : Array Slot), lI s D cA cq cO q x0 h6 qo L K I O F G f H locs → lv_has ls 7 [(4, .int i), (3, .ref qo), (2, .ref h6), (1, .ref x0), (0, .ref b)] → W p l e room_1 s m #[Value.ref b] below meth c H locs (cells + 10) (slots + 82) (lw_Z below #[Value.ref b] s) (F0 m 828 ls [])) : W p l e room_1 s m #[Value.ref b] below meth c H locs cells slots (lw_Z below #[Value.ref b] s) (F0 m 444 ls []) := by
  obtain ⟨⟨hx, hb, hr, hml, hown, hts0, hX, hbl, hlocks, hgv⟩, hLL, hKc, hKm, hKo, hV, hE, hN⟩ := id E
  have hts := fun w h => hts0 w (wl_in w h)
  have hA : ∀ x : Nat, s.heap.size ≤ x → lA s x := fun _ h => h
  have hbA : ¬ lA s b := Nat.not_le.mpr hbl
  obtain ⟨hP, hD, hS, hI, mx0, kx0, hm, r1, r2, r3, q1, q6, q8, hT, q10, hFm, q3, hRc, hXt, hFb, hNa⟩ := id hM
  obtain ⟨nn, hnn, mnn, knn, hna⟩ := id hNa
  obtain ⟨tp, fm_, htp, hmt, hkt, -, hz⟩ := id hT
  clear fm_
  obtain ⟨fm, rr, hfm, hrr, mfm, kfm, hgf⟩ := id hFm
  have q11 : (I x0 11).toInt = (F 31).toInt := by
    obtain ⟨_, _, _, _, _, _, q11, _⟩ := id hRc
    exact q11
  have a1 : vp_in (i + 1) LL := lw_in hi hLL 1 (by decide) (by omega)
  have a2 : vp_in (i + 2) LL := lw_in hi hLL 2 (by decide) (by omega)
  refine lv_aload_n hx hb dL_law_444 rfl (lv_at hl 3 rfl) ?_
  refine lv_aload_n hx hb dL_law_445 rfl (lv_at hl 4 rfl) ?_
  refine lv_iload hx hb dL_law_446 (lv_at hl 0 rfl) ?_
  refine lv_iconst (v := 1) hx hb dL_law_448 (by decide) ?_
  refine lv_iadd hx hb dL_law_449 ?_
  refine va_sld hx hb hX hbl hbA hS a1 dL_law_450 ?_
  refine lv_aload_n hx hb dL_law_451 rfl (lv_at hl 4 rfl) ?_
  refine lv_iload hx hb dL_law_452 (lv_at hl 0 rfl) ?_
  refine lv_iconst (v := 2) hx hb dL_law_454 (by decide) ?_
  refine lv_iadd hx hb dL_law_455 ?_
  refine va_sld hx hb hX hbl hbA hS a2 dL_law_456 ?_
  refine lv_aload_n hx hb dL_law_457 rfl (lv_at hl 1 rfl) ?_
  refine lx_look (nL := 7) hst ⟨hx, hb, hml, hown, hts⟩ hKc hKo hV hE hN hI mx0 kx0 hP hD hS (vx_cwSW 4 hts gl_L_look rfl rfl rfl (by decide +kernel) ⟨Nat.le_of_ble_eq_true rfl, Nat.le_of_ble_eq_true rfl⟩) hl.1 dL_law_458 ⟨show cells + 1 ≤ 601024 from by omega, show slots + 6 ≤ 7293034 from by omega⟩ (fun r_1 f1 H locs hP hD hS => ?_)
  refine lv_istore (lv' := [(5, .int r_1), (4, .int i), (3, .ref qo), (2, .ref h6), (1, .ref x0), (0, .ref b)]) hx hb dL_law_461 hl (by decide) rfl (fun ls hl5 => ?_)
  have hl : lv_has ls 7 [(4, .int i), (3, .ref qo), (2, .ref h6), (1, .ref x0), (0, .ref b)] := lv_sub hl5 [1, 2, 3, 4, 5] rfl
  refine lv_aload_n hx hb dL_law_463 rfl (lv_at hl 2 rfl) ?_
  refine lv_aload_n hx hb dL_law_464 rfl (lv_at hl 4 rfl) ?_
  refine lv_iload hx hb dL_law_465 (lv_at hl 0 rfl) ?_
  refine lv_iconst (v := 1) hx hb dL_law_467 (by decide) ?_
  refine lv_iadd hx hb dL_law_468 ?_
  refine va_sld hx hb hX hbl hbA hS a1 dL_law_469 ?_
  refine lv_aload_n hx hb dL_law_470 rfl (lv_at hl 4 rfl) ?_
  refine lv_iload hx hb dL_law_471 (lv_at hl 0 rfl) ?_
  refine lv_iconst (v := 2) hx hb dL_law_473 (by decide) ?_
  refine lv_iadd hx hb dL_law_474 ?_
  refine va_sld hx hb hX hbl hbA hS a2 dL_law_475 ?_
  refine lm_Vi (nL := 7) (vs := [.int (xs (i + 1).toNatClampNeg), .int (xs (i + 2).toNatClampNeg)]) (rest := []) ⟨hx, hb, hml, hown, hts⟩ hKm hA hP hD hS (g3_X6_look l D h6 q cq F G _ (xs (i + 1).toNatClampNeg) (xs (i + 2).toNatClampNeg) hm ) (cwV 2 hts gl_X6_look rfl rfl rfl (by decide +kernel) ⟨Nat.le_of_ble_eq_true rfl, Nat.le_of_ble_eq_true rfl⟩) rfl hl.1 rfl (Nat.le_of_ble_eq_true rfl) dL_law_476 ⟨show cells + 1 ≤ 601024 from by omega, show slots + 6 ≤ 7293034 from by omega⟩ (fun r_2 F1 G1 H locs hm1 hf1 hp2 hP hD hS => ?_)
  try dsimp only at hp2
  have hM1 : lI s D cA cq cO q x0 h6 qo L K I O F1 G1 f1 H locs := ⟨hP, hD, hS, hI, mx0, kx0, hm1, (r1.fr hf1 (by decide) (by decide)), (r2.fr hf1 (by decide) (by decide)), (r3.fr hf1 (by decide) (by decide) (by decide)), (by rw [hf1.1 1 (by decide)]; exact q1), (by rw [hf1.1 3 (by decide)]; exact q6), (by rw [hf1.1 15 (by decide)]; exact q8), (lTp.fr hT mx0 kx0 (cFr.rf (WI := []) (WO := [])) hf1 rfl rfl rfl rfl (by decide)), (by rw [hf1.1 17 (by decide)]; exact q10), (lFm.fr hFm mx0 kx0 (cFr.rf (WI := []) (WO := [])) hf1 (fun _ => rfl) rfl rfl rfl (by decide)), (by rw [hf1.1 4 (by decide)]; exact q3), (lRc.fr hRc mx0 kx0 (cFr.rf (WI := []) (WO := [])) hf1 (fun _ _ _ _ => rfl) (by decide) (by decide) (by decide) (by decide) (by decide) (by decide) (by decide) (by decide) (by decide) (by rw [hf1.1 15 (by decide)]; exact Int.le_refl _) (by decide)), (lXt.fr hRc hXt mx0 kx0 (cFr.rf (WI := []) (WO := [])) hf1 (fun _ _ _ _ => rfl) (by decide) (by decide) (by decide) (by decide) (by decide) (fun _ => rfl) (fun _ => rfl) (by decide) (by decide) (by decide)), (hFb.fr hf1 (by decide)), (lNa.fr hNa mx0 kx0 (cFr.rf (WI := []) (WO := [])) hf1 (by decide) (by decide) (by decide) (by decide))⟩
  refine W.widen (k := cells + 10) (n := slots + 82) (by omega) (by omega) ?_
  refine lv_istore (lv' := [(6, .int r_2), (4, .int i), (3, .ref qo), (2, .ref h6), (1, .ref x0), (0, .ref b)]) hx hb dL_law_479 hl (by decide) rfl (fun ls hl6 => ?_)
  have hl : lv_has ls 7 [(4, .int i), (3, .ref qo), (2, .ref h6), (1, .ref x0), (0, .ref b)] := lv_sub hl6 [1, 2, 3, 4, 5] rfl
  refine lv_goto (tgt := 828) hx hb dL_law_481 (by decide) ?_
  exact kk _ _ _ _ _ _ _ _ _ _ hM1 hl
set_option maxHeartbeats 4000000 in
set_option maxRecDepth 100000 in
theorem law_case_9 {p : Program} {e : Env} {s : State} {m : MethodId} {below : List Frame} {meth : Method} {c : Code} (l : Launch) (hst : l.stackTraces = false) {b LL : Nat} {xs : Nat → Int32} {D : va_G} {cA cq : Nat → ClassId} {cO : ClassId} {ad av q : Nat → Nat} {sa sb x0 h6 qo : Nat} (E : lE p s m meth c b LL xs D cA cq cO ad av sa sb) {i : Int32} (hi : 0 ≤ i.toInt ∧ i.toInt + 6 ≤ (LL : Int)) {L : List Nat} {K : Nat → Nat} {I : Nat → Nat → Int32} {O : Nat → Nat → Option Nat} {F : Nat → Int32} {G : Nat → Nat → Int32} {f : Nat → Int64} {H : Heap} {locs : List Loc} {ls : Array Slot} (hM : lI s D cA cq cO q x0 h6 qo L K I O F G f H locs) (hl : lv_has ls 7 [(4, .int i), (3, .ref qo), (2, .ref h6), (1, .ref x0), (0, .ref b)]) {cells slots : Nat} (hc : cells + 10 ≤ 601024) (hs : slots + 82 ≤ 7293034)
    (kk : ∀ (L : List Nat) (K : Nat → Nat) (I : Nat → Nat → Int32) (O : Nat → Nat → Option Nat) (F : Nat → Int32) (G : Nat → Nat → Int32) (f : Nat → Int64) (H : Heap) (locs : List Loc) (ls : Array Slot), lI s D cA cq cO q x0 h6 qo L K I O F G f H locs → lv_has ls 7 [(4, .int i), (3, .ref qo), (2, .ref h6), (1, .ref x0), (0, .ref b)] → W p l e room_1 s m #[Value.ref b] below meth c H locs (cells + 10) (slots + 82) (lw_Z below #[Value.ref b] s) (F0 m 828 ls [])) : W p l e room_1 s m #[Value.ref b] below meth c H locs cells slots (lw_Z below #[Value.ref b] s) (F0 m 484 ls []) := by
  obtain ⟨⟨hx, hb, hr, hml, hown, hts0, hX, hbl, hlocks, hgv⟩, hLL, hKc, hKm, hKo, hV, hE, hN⟩ := id E
  have hts := fun w h => hts0 w (wl_in w h)
  have hA : ∀ x : Nat, s.heap.size ≤ x → lA s x := fun _ h => h
  have hbA : ¬ lA s b := Nat.not_le.mpr hbl
  obtain ⟨hP, hD, hS, hI, mx0, kx0, hm, r1, r2, r3, q1, q6, q8, hT, q10, hFm, q3, hRc, hXt, hFb, hNa⟩ := id hM
  obtain ⟨nn, hnn, mnn, knn, hna⟩ := id hNa
  obtain ⟨tp, fm_, htp, hmt, hkt, -, hz⟩ := id hT
  clear fm_
  obtain ⟨fm, rr, hfm, hrr, mfm, kfm, hgf⟩ := id hFm
  have q11 : (I x0 11).toInt = (F 31).toInt := by
    obtain ⟨_, _, _, _, _, _, q11, _⟩ := id hRc
    exact q11
  have a1 : vp_in (i + 1) LL := lw_in hi hLL 1 (by decide) (by omega)
  have a2 : vp_in (i + 2) LL := lw_in hi hLL 2 (by decide) (by omega)
  refine lv_aload_n hx hb dL_law_484 rfl (lv_at hl 3 rfl) ?_
  refine lv_aload_n hx hb dL_law_485 rfl (lv_at hl 4 rfl) ?_
  refine lv_iload hx hb dL_law_486 (lv_at hl 0 rfl) ?_
  refine lv_iconst (v := 1) hx hb dL_law_488 (by decide) ?_
  refine lv_iadd hx hb dL_law_489 ?_
  refine va_sld hx hb hX hbl hbA hS a1 dL_law_490 ?_
  refine lv_aload_n hx hb dL_law_491 rfl (lv_at hl 4 rfl) ?_
  refine lv_iload hx hb dL_law_492 (lv_at hl 0 rfl) ?_
  refine lv_iconst (v := 2) hx hb dL_law_494 (by decide) ?_
  refine lv_iadd hx hb dL_law_495 ?_
  refine va_sld hx hb hX hbl hbA hS a2 dL_law_496 ?_
  refine lx_Vi (nL := 7) (vs := [.int (xs (i + 1).toNatClampNeg), .int (xs (i + 2).toNatClampNeg)]) (rest := []) ⟨hx, hb, hml, hown, hts⟩ hKc hV hA hP hD hS mx0 kx0 (h5_X5_entry l D cA ad av L K I O _ x0 (xs (i + 1).toNatClampNeg) (xs (i + 2).toNatClampNeg) hI mx0 kx0 rr hrr) (cwV 2 hts gl_X5_entry rfl rfl rfl (by decide +kernel) ⟨Nat.le_of_ble_eq_true rfl, Nat.le_of_ble_eq_true rfl⟩) rfl hl.1 rfl (Nat.le_of_ble_eq_true rfl) dL_law_497 ⟨show cells + 0 ≤ 601024 from by omega, show slots + 0 ≤ 7293034 from by omega⟩ (fun r_1 L1 K1 I1 O1 H locs hI1 hF1 hp1 hP hD hS => ?_)
  try dsimp only at hp1
  refine lv_pop hx hb dL_law_500 rfl ?_
  refine lv_aload_n hx hb dL_law_501 rfl (lv_at hl 2 rfl) ?_
  refine lv_aload_n hx hb dL_law_502 rfl (lv_at hl 4 rfl) ?_
  refine lv_iload hx hb dL_law_503 (lv_at hl 0 rfl) ?_
  refine lv_iconst (v := 1) hx hb dL_law_505 (by decide) ?_
  refine lv_iadd hx hb dL_law_506 ?_
  refine va_sld hx hb hX hbl hbA hS a1 dL_law_507 ?_
  refine lv_aload_n hx hb dL_law_508 rfl (lv_at hl 4 rfl) ?_
  refine lv_iload hx hb dL_law_509 (lv_at hl 0 rfl) ?_
  refine lv_iconst (v := 2) hx hb dL_law_511 (by decide) ?_
  refine lv_iadd hx hb dL_law_512 ?_
  refine va_sld hx hb hX hbl hbA hS a2 dL_law_513 ?_
  refine lm_Vi (nL := 7) (vs := [.int (xs (i + 1).toNatClampNeg), .int (xs (i + 2).toNatClampNeg)]) (rest := []) ⟨hx, hb, hml, hown, hts⟩ hKm hA hP hD hS (g7_X6_entry l D h6 q cq F G _ (xs (i + 1).toNatClampNeg) (xs (i + 2).toNatClampNeg) hm ) (cwV 2 hts gl_X6_entry rfl rfl rfl (by decide +kernel) ⟨Nat.le_of_ble_eq_true rfl, Nat.le_of_ble_eq_true rfl⟩) rfl hl.1 rfl (Nat.le_of_ble_eq_true rfl) dL_law_514 ⟨show cells + 0 ≤ 601024 from by omega, show slots + 0 ≤ 7293034 from by omega⟩ (fun r_2 F1 G1 H locs hm1 hf1 hp2 hP hD hS => ?_)
  try dsimp only at hp2
  obtain ⟨m1, k1, fi, fo⟩ := hF1 x0 mx0 List.not_mem_nil
  rw [kx0] at fi fo
  have hr12 := lEntry hRc hm mx0 kx0 hrr q10 hF1 hf1 hp1 hp2
  clear hp1 hp2
  have hM1 : lI s D cA cq cO q x0 h6 qo L1 K1 I1 O1 F1 G1 f H locs := ⟨hP, hD, hS, hI1, m1, (k1.trans kx0), hm1, (r1.fr hf1 (by decide) (by decide)), (r2.fr hf1 (by decide) (by decide)), (r3.fr hf1 (by decide) (by decide) (by decide)), (by rw [fi 1 (by decide), hf1.1 1 (by decide)]; exact q1), (by rw [fi 6 (by decide), hf1.1 3 (by decide)]; exact q6), (by rw [fi 8 (by decide), hf1.1 15 (by decide)]; exact q8), (lTp.fr hT mx0 kx0 hF1 hf1 (by decide) (by decide) (by decide) (by decide) (by decide)), (by rw [fi 10 (by decide), hf1.1 17 (by decide)]; exact q10), (lFm.fr hFm mx0 kx0 hF1 hf1 (fun _ => rfl) (by decide) (by decide) (by decide) (by decide)), (by rw [fi 3 (by decide), hf1.1 4 (by decide)]; exact q3), (lRc.fr hRc mx0 kx0 hF1 hf1 (lRf2 hF1 (fun _ => rfl)) (by decide) (by decide) (by decide) (by decide) (by decide) (by decide) (by decide) (by decide) (by decide) (by rw [hf1.1 15 (by decide)]; exact Int.le_refl _) (by decide)), (lXt.fr hRc hXt mx0 kx0 hF1 hf1 (lRf2 hF1 (fun _ => rfl)) (by decide) (by decide) (by decide) (by decide) (by decide) (fun _ => rfl) (fun _ => rfl) (by decide) (by decide) (by decide)), (hFb.fr hf1 (by decide)), (lNa.fr hNa mx0 kx0 hF1 hf1 (by decide) (by decide) (by decide) (by decide))⟩
  refine W.widen (k := cells + 10) (n := slots + 82) (by omega) (by omega) ?_
  refine lv_pop hx hb dL_law_517 rfl ?_
  refine lv_goto (tgt := 828) hx hb dL_law_518 (by decide) ?_
  exact kk _ _ _ _ _ _ _ _ _ _ hM1 hl
set_option maxHeartbeats 4000000 in
set_option maxRecDepth 100000 in
theorem law_case_10 {p : Program} {e : Env} {s : State} {m : MethodId} {below : List Frame} {meth : Method} {c : Code} (l : Launch) (hst : l.stackTraces = false) {b LL : Nat} {xs : Nat → Int32} {D : va_G} {cA cq : Nat → ClassId} {cO : ClassId} {ad av q : Nat → Nat} {sa sb x0 h6 qo : Nat} (E : lE p s m meth c b LL xs D cA cq cO ad av sa sb) {i : Int32} (hi : 0 ≤ i.toInt ∧ i.toInt + 6 ≤ (LL : Int)) {L : List Nat} {K : Nat → Nat} {I : Nat → Nat → Int32} {O : Nat → Nat → Option Nat} {F : Nat → Int32} {G : Nat → Nat → Int32} {f : Nat → Int64} {H : Heap} {locs : List Loc} {ls : Array Slot} (hM : lI s D cA cq cO q x0 h6 qo L K I O F G f H locs) (hl : lv_has ls 7 [(4, .int i), (3, .ref qo), (2, .ref h6), (1, .ref x0), (0, .ref b)]) {cells slots : Nat} (hc : cells + 10 ≤ 601024) (hs : slots + 82 ≤ 7293034)
    (kk : ∀ (L : List Nat) (K : Nat → Nat) (I : Nat → Nat → Int32) (O : Nat → Nat → Option Nat) (F : Nat → Int32) (G : Nat → Nat → Int32) (f : Nat → Int64) (H : Heap) (locs : List Loc) (ls : Array Slot), lI s D cA cq cO q x0 h6 qo L K I O F G f H locs → lv_has ls 7 [(4, .int i), (3, .ref qo), (2, .ref h6), (1, .ref x0), (0, .ref b)] → W p l e room_1 s m #[Value.ref b] below meth c H locs (cells + 10) (slots + 82) (lw_Z below #[Value.ref b] s) (F0 m 828 ls [])) : W p l e room_1 s m #[Value.ref b] below meth c H locs cells slots (lw_Z below #[Value.ref b] s) (F0 m 521 ls []) := by
  obtain ⟨⟨hx, hb, hr, hml, hown, hts0, hX, hbl, hlocks, hgv⟩, hLL, hKc, hKm, hKo, hV, hE, hN⟩ := id E
  have hts := fun w h => hts0 w (wl_in w h)
  have hA : ∀ x : Nat, s.heap.size ≤ x → lA s x := fun _ h => h
  have hbA : ¬ lA s b := Nat.not_le.mpr hbl
  obtain ⟨hP, hD, hS, hI, mx0, kx0, hm, r1, r2, r3, q1, q6, q8, hT, q10, hFm, q3, hRc, hXt, hFb, hNa⟩ := id hM
  obtain ⟨nn, hnn, mnn, knn, hna⟩ := id hNa
  obtain ⟨tp, fm_, htp, hmt, hkt, -, hz⟩ := id hT
  clear fm_
  obtain ⟨fm, rr, hfm, hrr, mfm, kfm, hgf⟩ := id hFm
  have q11 : (I x0 11).toInt = (F 31).toInt := by
    obtain ⟨_, _, _, _, _, _, q11, _⟩ := id hRc
    exact q11
  have a1 : vp_in (i + 1) LL := lw_in hi hLL 1 (by decide) (by omega)
  have a2 : vp_in (i + 2) LL := lw_in hi hLL 2 (by decide) (by omega)
  have a3 : vp_in (i + 3) LL := lw_in hi hLL 3 (by decide) (by omega)
  have a4 : vp_in (i + 4) LL := lw_in hi hLL 4 (by decide) (by omega)
  refine lv_aload_n hx hb dL_law_521 rfl (lv_at hl 3 rfl) ?_
  refine lv_aload_n hx hb dL_law_522 rfl (lv_at hl 4 rfl) ?_
  refine lv_iload hx hb dL_law_523 (lv_at hl 0 rfl) ?_
  refine lv_iconst (v := 1) hx hb dL_law_525 (by decide) ?_
  refine lv_iadd hx hb dL_law_526 ?_
  refine va_sld hx hb hX hbl hbA hS a1 dL_law_527 ?_
  refine lv_aload_n hx hb dL_law_528 rfl (lv_at hl 4 rfl) ?_
  refine lv_iload hx hb dL_law_529 (lv_at hl 0 rfl) ?_
  refine lv_iconst (v := 2) hx hb dL_law_531 (by decide) ?_
  refine lv_iadd hx hb dL_law_532 ?_
  refine va_sld hx hb hX hbl hbA hS a2 dL_law_533 ?_
  refine lv_aload_n hx hb dL_law_534 rfl (lv_at hl 4 rfl) ?_
  refine lv_iload hx hb dL_law_535 (lv_at hl 0 rfl) ?_
  refine lv_iconst (v := 3) hx hb dL_law_537 (by decide) ?_
  refine lv_iadd hx hb dL_law_538 ?_
  refine va_sld hx hb hX hbl hbA hS a3 dL_law_539 ?_
  refine lv_aload_n hx hb dL_law_540 rfl (lv_at hl 4 rfl) ?_
  refine lv_iload hx hb dL_law_541 (lv_at hl 0 rfl) ?_
  refine lv_iconst (v := 4) hx hb dL_law_543 (by decide) ?_
  refine lv_iadd hx hb dL_law_544 ?_
  refine va_sld hx hb hX hbl hbA hS a4 dL_law_545 ?_
  refine lx_Vi (nL := 7) (vs := [.int (xs (i + 1).toNatClampNeg), .int (xs (i + 2).toNatClampNeg), .int (xs (i + 3).toNatClampNeg), .int (xs (i + 4).toNatClampNeg)]) (rest := []) ⟨hx, hb, hml, hown, hts⟩ hKc hV hA hP hD hS mx0 kx0 (h4_X5_time l D cA ad av L K I O _ x0 (xs (i + 1).toNatClampNeg) (xs (i + 2).toNatClampNeg) (xs (i + 3).toNatClampNeg) (xs (i + 4).toNatClampNeg) hI mx0 kx0) (cwV 4 hts gl_X5_time rfl rfl rfl (by decide +kernel) ⟨Nat.le_of_ble_eq_true rfl, Nat.le_of_ble_eq_true rfl⟩) rfl hl.1 rfl (Nat.le_of_ble_eq_true rfl) dL_law_546 ⟨show cells + 0 ≤ 601024 from by omega, show slots + 0 ≤ 7293034 from by omega⟩ (fun r_1 L1 K1 I1 O1 H locs hI1 hF1 hp1 hP hD hS => ?_)
  try dsimp only at hp1
  refine lv_pop hx hb dL_law_549 rfl ?_
  refine lv_aload_n hx hb dL_law_550 rfl (lv_at hl 2 rfl) ?_
  refine lv_aload_n hx hb dL_law_551 rfl (lv_at hl 4 rfl) ?_
  refine lv_iload hx hb dL_law_552 (lv_at hl 0 rfl) ?_
  refine lv_iconst (v := 1) hx hb dL_law_554 (by decide) ?_
  refine lv_iadd hx hb dL_law_555 ?_
  refine va_sld hx hb hX hbl hbA hS a1 dL_law_556 ?_
  refine lv_aload_n hx hb dL_law_557 rfl (lv_at hl 4 rfl) ?_
  refine lv_iload hx hb dL_law_558 (lv_at hl 0 rfl) ?_
  refine lv_iconst (v := 2) hx hb dL_law_560 (by decide) ?_
  refine lv_iadd hx hb dL_law_561 ?_
  refine va_sld hx hb hX hbl hbA hS a2 dL_law_562 ?_
  refine lv_aload_n hx hb dL_law_563 rfl (lv_at hl 4 rfl) ?_
  refine lv_iload hx hb dL_law_564 (lv_at hl 0 rfl) ?_
  refine lv_iconst (v := 3) hx hb dL_law_566 (by decide) ?_
  refine lv_iadd hx hb dL_law_567 ?_
  refine va_sld hx hb hX hbl hbA hS a3 dL_law_568 ?_
  refine lv_aload_n hx hb dL_law_569 rfl (lv_at hl 4 rfl) ?_
  refine lv_iload hx hb dL_law_570 (lv_at hl 0 rfl) ?_
  refine lv_iconst (v := 4) hx hb dL_law_572 (by decide) ?_
  refine lv_iadd hx hb dL_law_573 ?_
  refine va_sld hx hb hX hbl hbA hS a4 dL_law_574 ?_
  refine lm_Vi (nL := 7) (vs := [.int (xs (i + 1).toNatClampNeg), .int (xs (i + 2).toNatClampNeg), .int (xs (i + 3).toNatClampNeg), .int (xs (i + 4).toNatClampNeg)]) (rest := []) ⟨hx, hb, hml, hown, hts⟩ hKm hA hP hD hS (g3_X6_time l D h6 q cq F G _ (xs (i + 1).toNatClampNeg) (xs (i + 2).toNatClampNeg) (xs (i + 3).toNatClampNeg) (xs (i + 4).toNatClampNeg) hm r3) (cwV 4 hts gl_X6_time rfl rfl rfl (by decide +kernel) ⟨Nat.le_of_ble_eq_true rfl, Nat.le_of_ble_eq_true rfl⟩) rfl hl.1 rfl (Nat.le_of_ble_eq_true rfl) dL_law_575 ⟨show cells + 0 ≤ 601024 from by omega, show slots + 0 ≤ 7293034 from by omega⟩ (fun r_2 F1 G1 H locs hm1 hf1 hp2 hP hD hS => ?_)
  try dsimp only at hp2
  obtain ⟨m1, k1, fi, fo⟩ := hF1 x0 mx0 List.not_mem_nil
  rw [kx0] at fi fo
  have hM1 : lI s D cA cq cO q x0 h6 qo L1 K1 I1 O1 F1 G1 f H locs := ⟨hP, hD, hS, hI1, m1, (k1.trans kx0), hm1, (r1.fr hf1 (by decide) (by decide)), (r2.fr hf1 (by decide) (by decide)), (r3.fr hf1 (by decide) (by decide) (by decide)), (by rw [fi 1 (by decide), hf1.1 1 (by decide)]; exact q1), (by rw [fi 6 (by decide), hf1.1 3 (by decide)]; exact q6), (by rw [fi 8 (by decide), hf1.1 15 (by decide)]; exact q8), (lTp.fr hT mx0 kx0 hF1 hf1 (by decide) (by decide) (by decide) (by decide) (by decide)), (by rw [fi 10 (by decide), hf1.1 17 (by decide)]; exact q10), (lFm.fr hFm mx0 kx0 hF1 hf1 (fun _ => rfl) (by decide) (by decide) (by decide) (by decide)), (by rw [fi 3 (by decide), hf1.1 4 (by decide)]; exact q3), (lRc.fr hRc mx0 kx0 hF1 hf1 (lRf2 hF1 (fun _ => rfl)) (by decide) (by decide) (by decide) (by decide) (by decide) (by decide) (by decide) (by decide) (by decide) (by rw [hf1.1 15 (by decide)]; exact Int.le_refl _) (by decide)), (lXt.fr hRc hXt mx0 kx0 hF1 hf1 (lRf2 hF1 (fun _ => rfl)) (by decide) (by decide) (by decide) (by decide) (by decide) (fun _ => rfl) (fun _ => rfl) (by decide) (by decide) (by decide)), (hFb.fr hf1 (by decide)), (lNa.fr hNa mx0 kx0 hF1 hf1 (by decide) (by decide) (by decide) (by decide))⟩
  refine W.widen (k := cells + 10) (n := slots + 82) (by omega) (by omega) ?_
  refine lv_pop hx hb dL_law_578 rfl ?_
  refine lv_goto (tgt := 828) hx hb dL_law_579 (by decide) ?_
  exact kk _ _ _ _ _ _ _ _ _ _ hM1 hl
set_option maxHeartbeats 4000000 in
set_option maxRecDepth 100000 in
theorem law_case_11 {p : Program} {e : Env} {s : State} {m : MethodId} {below : List Frame} {meth : Method} {c : Code} (l : Launch) (hst : l.stackTraces = false) {b LL : Nat} {xs : Nat → Int32} {D : va_G} {cA cq : Nat → ClassId} {cO : ClassId} {ad av q : Nat → Nat} {sa sb x0 h6 qo : Nat} (E : lE p s m meth c b LL xs D cA cq cO ad av sa sb) {i : Int32} (hi : 0 ≤ i.toInt ∧ i.toInt + 6 ≤ (LL : Int)) {L : List Nat} {K : Nat → Nat} {I : Nat → Nat → Int32} {O : Nat → Nat → Option Nat} {F : Nat → Int32} {G : Nat → Nat → Int32} {f : Nat → Int64} {H : Heap} {locs : List Loc} {ls : Array Slot} (hM : lI s D cA cq cO q x0 h6 qo L K I O F G f H locs) (hl : lv_has ls 7 [(4, .int i), (3, .ref qo), (2, .ref h6), (1, .ref x0), (0, .ref b)]) {cells slots : Nat} (hc : cells + 10 ≤ 601024) (hs : slots + 82 ≤ 7293034)
    (kk : ∀ (L : List Nat) (K : Nat → Nat) (I : Nat → Nat → Int32) (O : Nat → Nat → Option Nat) (F : Nat → Int32) (G : Nat → Nat → Int32) (f : Nat → Int64) (H : Heap) (locs : List Loc) (ls : Array Slot), lI s D cA cq cO q x0 h6 qo L K I O F G f H locs → lv_has ls 7 [(4, .int i), (3, .ref qo), (2, .ref h6), (1, .ref x0), (0, .ref b)] → W p l e room_1 s m #[Value.ref b] below meth c H locs (cells + 10) (slots + 82) (lw_Z below #[Value.ref b] s) (F0 m 828 ls [])) : W p l e room_1 s m #[Value.ref b] below meth c H locs cells slots (lw_Z below #[Value.ref b] s) (F0 m 582 ls []) := by
  obtain ⟨⟨hx, hb, hr, hml, hown, hts0, hX, hbl, hlocks, hgv⟩, hLL, hKc, hKm, hKo, hV, hE, hN⟩ := id E
  have hts := fun w h => hts0 w (wl_in w h)
  have hA : ∀ x : Nat, s.heap.size ≤ x → lA s x := fun _ h => h
  have hbA : ¬ lA s b := Nat.not_le.mpr hbl
  obtain ⟨hP, hD, hS, hI, mx0, kx0, hm, r1, r2, r3, q1, q6, q8, hT, q10, hFm, q3, hRc, hXt, hFb, hNa⟩ := id hM
  obtain ⟨nn, hnn, mnn, knn, hna⟩ := id hNa
  obtain ⟨tp, fm_, htp, hmt, hkt, -, hz⟩ := id hT
  clear fm_
  obtain ⟨fm, rr, hfm, hrr, mfm, kfm, hgf⟩ := id hFm
  have q11 : (I x0 11).toInt = (F 31).toInt := by
    obtain ⟨_, _, _, _, _, _, q11, _⟩ := id hRc
    exact q11
  have a1 : vp_in (i + 1) LL := lw_in hi hLL 1 (by decide) (by omega)
  have a2 : vp_in (i + 2) LL := lw_in hi hLL 2 (by decide) (by omega)
  have a3 : vp_in (i + 3) LL := lw_in hi hLL 3 (by decide) (by omega)
  have a4 : vp_in (i + 4) LL := lw_in hi hLL 4 (by decide) (by omega)
  refine lv_aload_n hx hb dL_law_582 rfl (lv_at hl 3 rfl) ?_
  refine lv_aload_n hx hb dL_law_583 rfl (lv_at hl 4 rfl) ?_
  refine lv_iload hx hb dL_law_584 (lv_at hl 0 rfl) ?_
  refine lv_iconst (v := 1) hx hb dL_law_586 (by decide) ?_
  refine lv_iadd hx hb dL_law_587 ?_
  refine va_sld hx hb hX hbl hbA hS a1 dL_law_588 ?_
  refine lv_aload_n hx hb dL_law_589 rfl (lv_at hl 4 rfl) ?_
  refine lv_iload hx hb dL_law_590 (lv_at hl 0 rfl) ?_
  refine lv_iconst (v := 2) hx hb dL_law_592 (by decide) ?_
  refine lv_iadd hx hb dL_law_593 ?_
  refine va_sld hx hb hX hbl hbA hS a2 dL_law_594 ?_
  refine lv_aload_n hx hb dL_law_595 rfl (lv_at hl 4 rfl) ?_
  refine lv_iload hx hb dL_law_596 (lv_at hl 0 rfl) ?_
  refine lv_iconst (v := 3) hx hb dL_law_598 (by decide) ?_
  refine lv_iadd hx hb dL_law_599 ?_
  refine va_sld hx hb hX hbl hbA hS a3 dL_law_600 ?_
  refine lv_aload_n hx hb dL_law_601 rfl (lv_at hl 4 rfl) ?_
  refine lv_iload hx hb dL_law_602 (lv_at hl 0 rfl) ?_
  refine lv_iconst (v := 4) hx hb dL_law_604 (by decide) ?_
  refine lv_iadd hx hb dL_law_605 ?_
  refine va_sld hx hb hX hbl hbA hS a4 dL_law_606 ?_
  refine lx_Vi (nL := 7) (vs := [.int (xs (i + 1).toNatClampNeg), .int (xs (i + 2).toNatClampNeg), .int (xs (i + 3).toNatClampNeg), .int (xs (i + 4).toNatClampNeg)]) (rest := []) ⟨hx, hb, hml, hown, hts⟩ hKc hV hA hP hD hS mx0 kx0 (h4_X5_split l D cA ad av L K I O _ x0 (xs (i + 1).toNatClampNeg) (xs (i + 2).toNatClampNeg) (xs (i + 3).toNatClampNeg) (xs (i + 4).toNatClampNeg) hI mx0 kx0) (cwV 4 hts gl_X5_split rfl rfl rfl (by decide +kernel) ⟨Nat.le_of_ble_eq_true rfl, Nat.le_of_ble_eq_true rfl⟩) rfl hl.1 rfl (Nat.le_of_ble_eq_true rfl) dL_law_607 ⟨show cells + 0 ≤ 601024 from by omega, show slots + 0 ≤ 7293034 from by omega⟩ (fun r_1 L1 K1 I1 O1 H locs hI1 hF1 hp1 hP hD hS => ?_)
  try dsimp only at hp1
  refine lv_pop hx hb dL_law_610 rfl ?_
  refine lv_aload_n hx hb dL_law_611 rfl (lv_at hl 2 rfl) ?_
  refine lv_aload_n hx hb dL_law_612 rfl (lv_at hl 4 rfl) ?_
  refine lv_iload hx hb dL_law_613 (lv_at hl 0 rfl) ?_
  refine lv_iconst (v := 1) hx hb dL_law_615 (by decide) ?_
  refine lv_iadd hx hb dL_law_616 ?_
  refine va_sld hx hb hX hbl hbA hS a1 dL_law_617 ?_
  refine lv_aload_n hx hb dL_law_618 rfl (lv_at hl 4 rfl) ?_
  refine lv_iload hx hb dL_law_619 (lv_at hl 0 rfl) ?_
  refine lv_iconst (v := 2) hx hb dL_law_621 (by decide) ?_
  refine lv_iadd hx hb dL_law_622 ?_
  refine va_sld hx hb hX hbl hbA hS a2 dL_law_623 ?_
  refine lv_aload_n hx hb dL_law_624 rfl (lv_at hl 4 rfl) ?_
  refine lv_iload hx hb dL_law_625 (lv_at hl 0 rfl) ?_
  refine lv_iconst (v := 3) hx hb dL_law_627 (by decide) ?_
  refine lv_iadd hx hb dL_law_628 ?_
  refine va_sld hx hb hX hbl hbA hS a3 dL_law_629 ?_
  refine lv_aload_n hx hb dL_law_630 rfl (lv_at hl 4 rfl) ?_
  refine lv_iload hx hb dL_law_631 (lv_at hl 0 rfl) ?_
  refine lv_iconst (v := 4) hx hb dL_law_633 (by decide) ?_
  refine lv_iadd hx hb dL_law_634 ?_
  refine va_sld hx hb hX hbl hbA hS a4 dL_law_635 ?_
  refine lm_Vi (nL := 7) (vs := [.int (xs (i + 1).toNatClampNeg), .int (xs (i + 2).toNatClampNeg), .int (xs (i + 3).toNatClampNeg), .int (xs (i + 4).toNatClampNeg)]) (rest := []) ⟨hx, hb, hml, hown, hts⟩ hKm hA hP hD hS (g3_X6_split l D h6 q cq F G _ (xs (i + 1).toNatClampNeg) (xs (i + 2).toNatClampNeg) (xs (i + 3).toNatClampNeg) (xs (i + 4).toNatClampNeg) hm r3) (cwV 4 hts gl_X6_split rfl rfl rfl (by decide +kernel) ⟨Nat.le_of_ble_eq_true rfl, Nat.le_of_ble_eq_true rfl⟩) rfl hl.1 rfl (Nat.le_of_ble_eq_true rfl) dL_law_636 ⟨show cells + 0 ≤ 601024 from by omega, show slots + 0 ≤ 7293034 from by omega⟩ (fun r_2 F1 G1 H locs hm1 hf1 hp2 hP hD hS => ?_)
  try dsimp only at hp2
  obtain ⟨m1, k1, fi, fo⟩ := hF1 x0 mx0 List.not_mem_nil
  rw [kx0] at fi fo
  have hM1 : lI s D cA cq cO q x0 h6 qo L1 K1 I1 O1 F1 G1 f H locs := ⟨hP, hD, hS, hI1, m1, (k1.trans kx0), hm1, (r1.fr hf1 (by decide) (by decide)), (r2.fr hf1 (by decide) (by decide)), (r3.fr hf1 (by decide) (by decide) (by decide)), (by rw [fi 1 (by decide), hf1.1 1 (by decide)]; exact q1), (by rw [fi 6 (by decide), hf1.1 3 (by decide)]; exact q6), (by rw [fi 8 (by decide), hf1.1 15 (by decide)]; exact q8), (lTp.fr hT mx0 kx0 hF1 hf1 (by decide) (by decide) (by decide) (by decide) (by decide)), (by rw [fi 10 (by decide), hf1.1 17 (by decide)]; exact q10), (lFm.fr hFm mx0 kx0 hF1 hf1 (fun _ => rfl) (by decide) (by decide) (by decide) (by decide)), (by rw [fi 3 (by decide), hf1.1 4 (by decide)]; exact q3), (lRc.fr hRc mx0 kx0 hF1 hf1 (lRf2 hF1 (fun _ => rfl)) (by decide) (by decide) (by decide) (by decide) (by decide) (by decide) (by decide) (by decide) (by decide) (by rw [hf1.1 15 (by decide)]; exact Int.le_refl _) (by decide)), (lXt.fr hRc hXt mx0 kx0 hF1 hf1 (lRf2 hF1 (fun _ => rfl)) (by decide) (by decide) (by decide) (by decide) (by decide) (fun _ => rfl) (fun _ => rfl) (by decide) (by decide) (by decide)), (hFb.fr hf1 (by decide)), (lNa.fr hNa mx0 kx0 hF1 hf1 (by decide) (by decide) (by decide) (by decide))⟩
  refine W.widen (k := cells + 10) (n := slots + 82) (by omega) (by omega) ?_
  refine lv_pop hx hb dL_law_639 rfl ?_
  refine lv_goto (tgt := 828) hx hb dL_law_640 (by decide) ?_
  exact kk _ _ _ _ _ _ _ _ _ _ hM1 hl
set_option maxHeartbeats 4000000 in
set_option maxRecDepth 100000 in
theorem law_case_12 {p : Program} {e : Env} {s : State} {m : MethodId} {below : List Frame} {meth : Method} {c : Code} (l : Launch) (hst : l.stackTraces = false) {b LL : Nat} {xs : Nat → Int32} {D : va_G} {cA cq : Nat → ClassId} {cO : ClassId} {ad av q : Nat → Nat} {sa sb x0 h6 qo : Nat} (E : lE p s m meth c b LL xs D cA cq cO ad av sa sb) {i : Int32} (hi : 0 ≤ i.toInt ∧ i.toInt + 6 ≤ (LL : Int)) {L : List Nat} {K : Nat → Nat} {I : Nat → Nat → Int32} {O : Nat → Nat → Option Nat} {F : Nat → Int32} {G : Nat → Nat → Int32} {f : Nat → Int64} {H : Heap} {locs : List Loc} {ls : Array Slot} (hM : lI s D cA cq cO q x0 h6 qo L K I O F G f H locs) (hl : lv_has ls 7 [(4, .int i), (3, .ref qo), (2, .ref h6), (1, .ref x0), (0, .ref b)]) {cells slots : Nat} (hc : cells + 10 ≤ 601024) (hs : slots + 82 ≤ 7293034)
    (kk : ∀ (L : List Nat) (K : Nat → Nat) (I : Nat → Nat → Int32) (O : Nat → Nat → Option Nat) (F : Nat → Int32) (G : Nat → Nat → Int32) (f : Nat → Int64) (H : Heap) (locs : List Loc) (ls : Array Slot), lI s D cA cq cO q x0 h6 qo L K I O F G f H locs → lv_has ls 7 [(4, .int i), (3, .ref qo), (2, .ref h6), (1, .ref x0), (0, .ref b)] → W p l e room_1 s m #[Value.ref b] below meth c H locs (cells + 10) (slots + 82) (lw_Z below #[Value.ref b] s) (F0 m 828 ls [])) : W p l e room_1 s m #[Value.ref b] below meth c H locs cells slots (lw_Z below #[Value.ref b] s) (F0 m 643 ls []) := by
  obtain ⟨⟨hx, hb, hr, hml, hown, hts0, hX, hbl, hlocks, hgv⟩, hLL, hKc, hKm, hKo, hV, hE, hN⟩ := id E
  have hts := fun w h => hts0 w (wl_in w h)
  have hA : ∀ x : Nat, s.heap.size ≤ x → lA s x := fun _ h => h
  have hbA : ¬ lA s b := Nat.not_le.mpr hbl
  obtain ⟨hP, hD, hS, hI, mx0, kx0, hm, r1, r2, r3, q1, q6, q8, hT, q10, hFm, q3, hRc, hXt, hFb, hNa⟩ := id hM
  obtain ⟨nn, hnn, mnn, knn, hna⟩ := id hNa
  obtain ⟨tp, fm_, htp, hmt, hkt, -, hz⟩ := id hT
  clear fm_
  obtain ⟨fm, rr, hfm, hrr, mfm, kfm, hgf⟩ := id hFm
  have q11 : (I x0 11).toInt = (F 31).toInt := by
    obtain ⟨_, _, _, _, _, _, q11, _⟩ := id hRc
    exact q11
  have a1 : vp_in (i + 1) LL := lw_in hi hLL 1 (by decide) (by omega)
  have a2 : vp_in (i + 2) LL := lw_in hi hLL 2 (by decide) (by omega)
  have a3 : vp_in (i + 3) LL := lw_in hi hLL 3 (by decide) (by omega)
  refine lv_aload_n hx hb dL_law_643 rfl (lv_at hl 3 rfl) ?_
  refine lv_aload_n hx hb dL_law_644 rfl (lv_at hl 4 rfl) ?_
  refine lv_iload hx hb dL_law_645 (lv_at hl 0 rfl) ?_
  refine lv_iconst (v := 1) hx hb dL_law_647 (by decide) ?_
  refine lv_iadd hx hb dL_law_648 ?_
  refine va_sld hx hb hX hbl hbA hS a1 dL_law_649 ?_
  refine lv_aload_n hx hb dL_law_650 rfl (lv_at hl 4 rfl) ?_
  refine lv_iload hx hb dL_law_651 (lv_at hl 0 rfl) ?_
  refine lv_iconst (v := 2) hx hb dL_law_653 (by decide) ?_
  refine lv_iadd hx hb dL_law_654 ?_
  refine va_sld hx hb hX hbl hbA hS a2 dL_law_655 ?_
  refine lv_aload_n hx hb dL_law_656 rfl (lv_at hl 4 rfl) ?_
  refine lv_iload hx hb dL_law_657 (lv_at hl 0 rfl) ?_
  refine lv_iconst (v := 3) hx hb dL_law_659 (by decide) ?_
  refine lv_iadd hx hb dL_law_660 ?_
  refine va_sld hx hb hX hbl hbA hS a3 dL_law_661 ?_
  refine lx_Vi (nL := 7) (vs := [.int (xs (i + 1).toNatClampNeg), .int (xs (i + 2).toNatClampNeg), .int (xs (i + 3).toNatClampNeg)]) (rest := []) ⟨hx, hb, hml, hown, hts⟩ hKc hV hA hP hD hS mx0 kx0 (h4_X5_order l D cA ad av L K I O _ x0 (xs (i + 1).toNatClampNeg) (xs (i + 2).toNatClampNeg) (xs (i + 3).toNatClampNeg) hI mx0 kx0) (cwV 3 hts gl_X5_order rfl rfl rfl (by decide +kernel) ⟨Nat.le_of_ble_eq_true rfl, Nat.le_of_ble_eq_true rfl⟩) rfl hl.1 rfl (Nat.le_of_ble_eq_true rfl) dL_law_662 ⟨show cells + 0 ≤ 601024 from by omega, show slots + 0 ≤ 7293034 from by omega⟩ (fun r_1 L1 K1 I1 O1 H locs hI1 hF1 hp1 hP hD hS => ?_)
  try dsimp only at hp1
  refine lv_pop hx hb dL_law_665 rfl ?_
  refine lv_aload_n hx hb dL_law_666 rfl (lv_at hl 2 rfl) ?_
  refine lv_aload_n hx hb dL_law_667 rfl (lv_at hl 4 rfl) ?_
  refine lv_iload hx hb dL_law_668 (lv_at hl 0 rfl) ?_
  refine lv_iconst (v := 1) hx hb dL_law_670 (by decide) ?_
  refine lv_iadd hx hb dL_law_671 ?_
  refine va_sld hx hb hX hbl hbA hS a1 dL_law_672 ?_
  refine lv_aload_n hx hb dL_law_673 rfl (lv_at hl 4 rfl) ?_
  refine lv_iload hx hb dL_law_674 (lv_at hl 0 rfl) ?_
  refine lv_iconst (v := 2) hx hb dL_law_676 (by decide) ?_
  refine lv_iadd hx hb dL_law_677 ?_
  refine va_sld hx hb hX hbl hbA hS a2 dL_law_678 ?_
  refine lv_aload_n hx hb dL_law_679 rfl (lv_at hl 4 rfl) ?_
  refine lv_iload hx hb dL_law_680 (lv_at hl 0 rfl) ?_
  refine lv_iconst (v := 3) hx hb dL_law_682 (by decide) ?_
  refine lv_iadd hx hb dL_law_683 ?_
  refine va_sld hx hb hX hbl hbA hS a3 dL_law_684 ?_
  refine lm_Vi (nL := 7) (vs := [.int (xs (i + 1).toNatClampNeg), .int (xs (i + 2).toNatClampNeg), .int (xs (i + 3).toNatClampNeg)]) (rest := []) ⟨hx, hb, hml, hown, hts⟩ hKm hA hP hD hS (g3_X6_order l D h6 q cq F G _ (xs (i + 1).toNatClampNeg) (xs (i + 2).toNatClampNeg) (xs (i + 3).toNatClampNeg) hm r3) (cwV 3 hts gl_X6_order rfl rfl rfl (by decide +kernel) ⟨Nat.le_of_ble_eq_true rfl, Nat.le_of_ble_eq_true rfl⟩) rfl hl.1 rfl (Nat.le_of_ble_eq_true rfl) dL_law_685 ⟨show cells + 0 ≤ 601024 from by omega, show slots + 0 ≤ 7293034 from by omega⟩ (fun r_2 F1 G1 H locs hm1 hf1 hp2 hP hD hS => ?_)
  try dsimp only at hp2
  obtain ⟨m1, k1, fi, fo⟩ := hF1 x0 mx0 List.not_mem_nil
  rw [kx0] at fi fo
  have hM1 : lI s D cA cq cO q x0 h6 qo L1 K1 I1 O1 F1 G1 f H locs := ⟨hP, hD, hS, hI1, m1, (k1.trans kx0), hm1, (r1.fr hf1 (by decide) (by decide)), (r2.fr hf1 (by decide) (by decide)), (r3.fr hf1 (by decide) (by decide) (by decide)), (by rw [fi 1 (by decide), hf1.1 1 (by decide)]; exact q1), (by rw [fi 6 (by decide), hf1.1 3 (by decide)]; exact q6), (by rw [fi 8 (by decide), hf1.1 15 (by decide)]; exact q8), (lTp.fr hT mx0 kx0 hF1 hf1 (by decide) (by decide) (by decide) (by decide) (by decide)), (by rw [fi 10 (by decide), hf1.1 17 (by decide)]; exact q10), (lFm.fr hFm mx0 kx0 hF1 hf1 (fun _ => rfl) (by decide) (by decide) (by decide) (by decide)), (by rw [fi 3 (by decide), hf1.1 4 (by decide)]; exact q3), (lRc.fr hRc mx0 kx0 hF1 hf1 (lRf2 hF1 (fun _ => rfl)) (by decide) (by decide) (by decide) (by decide) (by decide) (by decide) (by decide) (by decide) (by decide) (by rw [hf1.1 15 (by decide)]; exact Int.le_refl _) (by decide)), (lXt.fr hRc hXt mx0 kx0 hF1 hf1 (lRf2 hF1 (fun _ => rfl)) (by decide) (by decide) (by decide) (by decide) (by decide) (fun _ => rfl) (fun _ => rfl) (by decide) (by decide) (by decide)), (hFb.fr hf1 (by decide)), (lNa.fr hNa mx0 kx0 hF1 hf1 (by decide) (by decide) (by decide) (by decide))⟩
  refine W.widen (k := cells + 10) (n := slots + 82) (by omega) (by omega) ?_
  refine lv_pop hx hb dL_law_688 rfl ?_
  refine lv_goto (tgt := 828) hx hb dL_law_689 (by decide) ?_
  exact kk _ _ _ _ _ _ _ _ _ _ hM1 hl
set_option maxHeartbeats 4000000 in
set_option maxRecDepth 100000 in
theorem law_case_13 {p : Program} {e : Env} {s : State} {m : MethodId} {below : List Frame} {meth : Method} {c : Code} (l : Launch) (hst : l.stackTraces = false) {b LL : Nat} {xs : Nat → Int32} {D : va_G} {cA cq : Nat → ClassId} {cO : ClassId} {ad av q : Nat → Nat} {sa sb x0 h6 qo : Nat} (E : lE p s m meth c b LL xs D cA cq cO ad av sa sb) {i : Int32} (hi : 0 ≤ i.toInt ∧ i.toInt + 6 ≤ (LL : Int)) {L : List Nat} {K : Nat → Nat} {I : Nat → Nat → Int32} {O : Nat → Nat → Option Nat} {F : Nat → Int32} {G : Nat → Nat → Int32} {f : Nat → Int64} {H : Heap} {locs : List Loc} {ls : Array Slot} (hM : lI s D cA cq cO q x0 h6 qo L K I O F G f H locs) (hl : lv_has ls 7 [(4, .int i), (3, .ref qo), (2, .ref h6), (1, .ref x0), (0, .ref b)]) {cells slots : Nat} (hc : cells + 10 ≤ 601024) (hs : slots + 82 ≤ 7293034)
    (kk : ∀ (L : List Nat) (K : Nat → Nat) (I : Nat → Nat → Int32) (O : Nat → Nat → Option Nat) (F : Nat → Int32) (G : Nat → Nat → Int32) (f : Nat → Int64) (H : Heap) (locs : List Loc) (ls : Array Slot), lI s D cA cq cO q x0 h6 qo L K I O F G f H locs → lv_has ls 7 [(4, .int i), (3, .ref qo), (2, .ref h6), (1, .ref x0), (0, .ref b)] → W p l e room_1 s m #[Value.ref b] below meth c H locs (cells + 10) (slots + 82) (lw_Z below #[Value.ref b] s) (F0 m 828 ls [])) : W p l e room_1 s m #[Value.ref b] below meth c H locs cells slots (lw_Z below #[Value.ref b] s) (F0 m 692 ls []) := by
  obtain ⟨⟨hx, hb, hr, hml, hown, hts0, hX, hbl, hlocks, hgv⟩, hLL, hKc, hKm, hKo, hV, hE, hN⟩ := id E
  have hts := fun w h => hts0 w (wl_in w h)
  have hA : ∀ x : Nat, s.heap.size ≤ x → lA s x := fun _ h => h
  have hbA : ¬ lA s b := Nat.not_le.mpr hbl
  obtain ⟨hP, hD, hS, hI, mx0, kx0, hm, r1, r2, r3, q1, q6, q8, hT, q10, hFm, q3, hRc, hXt, hFb, hNa⟩ := id hM
  obtain ⟨nn, hnn, mnn, knn, hna⟩ := id hNa
  obtain ⟨tp, fm_, htp, hmt, hkt, -, hz⟩ := id hT
  clear fm_
  obtain ⟨fm, rr, hfm, hrr, mfm, kfm, hgf⟩ := id hFm
  have q11 : (I x0 11).toInt = (F 31).toInt := by
    obtain ⟨_, _, _, _, _, _, q11, _⟩ := id hRc
    exact q11
  have a1 : vp_in (i + 1) LL := lw_in hi hLL 1 (by decide) (by omega)
  have a2 : vp_in (i + 2) LL := lw_in hi hLL 2 (by decide) (by omega)
  refine lv_aload_n hx hb dL_law_692 rfl (lv_at hl 3 rfl) ?_
  refine lv_aload_n hx hb dL_law_693 rfl (lv_at hl 4 rfl) ?_
  refine lv_iload hx hb dL_law_694 (lv_at hl 0 rfl) ?_
  refine lv_iconst (v := 1) hx hb dL_law_696 (by decide) ?_
  refine lv_iadd hx hb dL_law_697 ?_
  refine va_sld hx hb hX hbl hbA hS a1 dL_law_698 ?_
  refine lv_aload_n hx hb dL_law_699 rfl (lv_at hl 4 rfl) ?_
  refine lv_iload hx hb dL_law_700 (lv_at hl 0 rfl) ?_
  refine lv_iconst (v := 2) hx hb dL_law_702 (by decide) ?_
  refine lv_iadd hx hb dL_law_703 ?_
  refine va_sld hx hb hX hbl hbA hS a2 dL_law_704 ?_
  refine lx_Vi (nL := 7) (vs := [.int (xs (i + 1).toNatClampNeg), .int (xs (i + 2).toNatClampNeg)]) (rest := []) ⟨hx, hb, hml, hown, hts⟩ hKc hV hA hP hD hS mx0 kx0 (h4_X5_points l D cA ad av L K I O _ x0 (xs (i + 1).toNatClampNeg) (xs (i + 2).toNatClampNeg) hI mx0 kx0) (cwV 2 hts gl_X5_points rfl rfl rfl (by decide +kernel) ⟨Nat.le_of_ble_eq_true rfl, Nat.le_of_ble_eq_true rfl⟩) rfl hl.1 rfl (Nat.le_of_ble_eq_true rfl) dL_law_705 ⟨show cells + 0 ≤ 601024 from by omega, show slots + 0 ≤ 7293034 from by omega⟩ (fun r_1 L1 K1 I1 O1 H locs hI1 hF1 hp1 hP hD hS => ?_)
  try dsimp only at hp1
  refine lv_pop hx hb dL_law_708 rfl ?_
  refine lv_aload_n hx hb dL_law_709 rfl (lv_at hl 2 rfl) ?_
  refine lv_aload_n hx hb dL_law_710 rfl (lv_at hl 4 rfl) ?_
  refine lv_iload hx hb dL_law_711 (lv_at hl 0 rfl) ?_
  refine lv_iconst (v := 1) hx hb dL_law_713 (by decide) ?_
  refine lv_iadd hx hb dL_law_714 ?_
  refine va_sld hx hb hX hbl hbA hS a1 dL_law_715 ?_
  refine lv_aload_n hx hb dL_law_716 rfl (lv_at hl 4 rfl) ?_
  refine lv_iload hx hb dL_law_717 (lv_at hl 0 rfl) ?_
  refine lv_iconst (v := 2) hx hb dL_law_719 (by decide) ?_
  refine lv_iadd hx hb dL_law_720 ?_
  refine va_sld hx hb hX hbl hbA hS a2 dL_law_721 ?_
  refine lm_Vi (nL := 7) (vs := [.int (xs (i + 1).toNatClampNeg), .int (xs (i + 2).toNatClampNeg)]) (rest := []) ⟨hx, hb, hml, hown, hts⟩ hKm hA hP hD hS (g3_X6_points l D h6 q cq F G _ (xs (i + 1).toNatClampNeg) (xs (i + 2).toNatClampNeg) hm r3) (cwV 2 hts gl_X6_points rfl rfl rfl (by decide +kernel) ⟨Nat.le_of_ble_eq_true rfl, Nat.le_of_ble_eq_true rfl⟩) rfl hl.1 rfl (Nat.le_of_ble_eq_true rfl) dL_law_722 ⟨show cells + 0 ≤ 601024 from by omega, show slots + 0 ≤ 7293034 from by omega⟩ (fun r_2 F1 G1 H locs hm1 hf1 hp2 hP hD hS => ?_)
  try dsimp only at hp2
  obtain ⟨m1, k1, fi, fo⟩ := hF1 x0 mx0 List.not_mem_nil
  rw [kx0] at fi fo
  have hM1 : lI s D cA cq cO q x0 h6 qo L1 K1 I1 O1 F1 G1 f H locs := ⟨hP, hD, hS, hI1, m1, (k1.trans kx0), hm1, (r1.fr hf1 (by decide) (by decide)), (r2.fr hf1 (by decide) (by decide)), (r3.fr hf1 (by decide) (by decide) (by decide)), (by rw [fi 1 (by decide), hf1.1 1 (by decide)]; exact q1), (by rw [fi 6 (by decide), hf1.1 3 (by decide)]; exact q6), (by rw [fi 8 (by decide), hf1.1 15 (by decide)]; exact q8), (lTp.fr hT mx0 kx0 hF1 hf1 (by decide) (by decide) (by decide) (by decide) (by decide)), (by rw [fi 10 (by decide), hf1.1 17 (by decide)]; exact q10), (lFm.fr hFm mx0 kx0 hF1 hf1 (fun _ => rfl) (by decide) (by decide) (by decide) (by decide)), (by rw [fi 3 (by decide), hf1.1 4 (by decide)]; exact q3), (lRc.fr hRc mx0 kx0 hF1 hf1 (lRf2 hF1 (fun _ => rfl)) (by decide) (by decide) (by decide) (by decide) (by decide) (by decide) (by decide) (by decide) (by decide) (by rw [hf1.1 15 (by decide)]; exact Int.le_refl _) (by decide)), (lXt.fr hRc hXt mx0 kx0 hF1 hf1 (lRf2 hF1 (fun _ => rfl)) (by decide) (by decide) (by decide) (by decide) (by decide) (fun _ => rfl) (fun _ => rfl) (by decide) (by decide) (by decide)), (hFb.fr hf1 (by decide)), (lNa.fr hNa mx0 kx0 hF1 hf1 (by decide) (by decide) (by decide) (by decide))⟩
  refine W.widen (k := cells + 10) (n := slots + 82) (by omega) (by omega) ?_
  refine lv_pop hx hb dL_law_725 rfl ?_
  refine lv_goto (tgt := 828) hx hb dL_law_726 (by decide) ?_
  exact kk _ _ _ _ _ _ _ _ _ _ hM1 hl
set_option maxHeartbeats 4000000 in
set_option maxRecDepth 100000 in
theorem law_case_14 {p : Program} {e : Env} {s : State} {m : MethodId} {below : List Frame} {meth : Method} {c : Code} (l : Launch) (hst : l.stackTraces = false) {b LL : Nat} {xs : Nat → Int32} {D : va_G} {cA cq : Nat → ClassId} {cO : ClassId} {ad av q : Nat → Nat} {sa sb x0 h6 qo : Nat} (E : lE p s m meth c b LL xs D cA cq cO ad av sa sb) {i : Int32} (hi : 0 ≤ i.toInt ∧ i.toInt + 6 ≤ (LL : Int)) {L : List Nat} {K : Nat → Nat} {I : Nat → Nat → Int32} {O : Nat → Nat → Option Nat} {F : Nat → Int32} {G : Nat → Nat → Int32} {f : Nat → Int64} {H : Heap} {locs : List Loc} {ls : Array Slot} (hM : lI s D cA cq cO q x0 h6 qo L K I O F G f H locs) (hl : lv_has ls 7 [(4, .int i), (3, .ref qo), (2, .ref h6), (1, .ref x0), (0, .ref b)]) {cells slots : Nat} (hc : cells + 10 ≤ 601024) (hs : slots + 82 ≤ 7293034)
    (kk : ∀ (L : List Nat) (K : Nat → Nat) (I : Nat → Nat → Int32) (O : Nat → Nat → Option Nat) (F : Nat → Int32) (G : Nat → Nat → Int32) (f : Nat → Int64) (H : Heap) (locs : List Loc) (ls : Array Slot), lI s D cA cq cO q x0 h6 qo L K I O F G f H locs → lv_has ls 7 [(4, .int i), (3, .ref qo), (2, .ref h6), (1, .ref x0), (0, .ref b)] → W p l e room_1 s m #[Value.ref b] below meth c H locs (cells + 10) (slots + 82) (lw_Z below #[Value.ref b] s) (F0 m 828 ls [])) : W p l e room_1 s m #[Value.ref b] below meth c H locs cells slots (lw_Z below #[Value.ref b] s) (F0 m 729 ls []) := by
  obtain ⟨⟨hx, hb, hr, hml, hown, hts0, hX, hbl, hlocks, hgv⟩, hLL, hKc, hKm, hKo, hV, hE, hN⟩ := id E
  have hts := fun w h => hts0 w (wl_in w h)
  have hA : ∀ x : Nat, s.heap.size ≤ x → lA s x := fun _ h => h
  have hbA : ¬ lA s b := Nat.not_le.mpr hbl
  obtain ⟨hP, hD, hS, hI, mx0, kx0, hm, r1, r2, r3, q1, q6, q8, hT, q10, hFm, q3, hRc, hXt, hFb, hNa⟩ := id hM
  obtain ⟨nn, hnn, mnn, knn, hna⟩ := id hNa
  obtain ⟨tp, fm_, htp, hmt, hkt, -, hz⟩ := id hT
  clear fm_
  obtain ⟨fm, rr, hfm, hrr, mfm, kfm, hgf⟩ := id hFm
  have q11 : (I x0 11).toInt = (F 31).toInt := by
    obtain ⟨_, _, _, _, _, _, q11, _⟩ := id hRc
    exact q11
  have a1 : vp_in (i + 1) LL := lw_in hi hLL 1 (by decide) (by omega)
  have a2 : vp_in (i + 2) LL := lw_in hi hLL 2 (by decide) (by omega)
  refine lv_aload_n hx hb dL_law_729 rfl (lv_at hl 3 rfl) ?_
  refine lv_aload_n hx hb dL_law_730 rfl (lv_at hl 4 rfl) ?_
  refine lv_iload hx hb dL_law_731 (lv_at hl 0 rfl) ?_
  refine lv_iconst (v := 1) hx hb dL_law_733 (by decide) ?_
  refine lv_iadd hx hb dL_law_734 ?_
  refine va_sld hx hb hX hbl hbA hS a1 dL_law_735 ?_
  refine lv_aload_n hx hb dL_law_736 rfl (lv_at hl 4 rfl) ?_
  refine lv_iload hx hb dL_law_737 (lv_at hl 0 rfl) ?_
  refine lv_iconst (v := 2) hx hb dL_law_739 (by decide) ?_
  refine lv_iadd hx hb dL_law_740 ?_
  refine va_sld hx hb hX hbl hbA hS a2 dL_law_741 ?_
  refine lx_Vi (nL := 7) (vs := [.int (xs (i + 1).toNatClampNeg), .int (xs (i + 2).toNatClampNeg)]) (rest := []) ⟨hx, hb, hml, hown, hts⟩ hKc hV hA hP hD hS mx0 kx0 (h4_X5_standing l D cA ad av L K I O _ x0 (xs (i + 1).toNatClampNeg) (xs (i + 2).toNatClampNeg) hI mx0 kx0) (cwV 2 hts gl_X5_standing rfl rfl rfl (by decide +kernel) ⟨Nat.le_of_ble_eq_true rfl, Nat.le_of_ble_eq_true rfl⟩) rfl hl.1 rfl (Nat.le_of_ble_eq_true rfl) dL_law_742 ⟨show cells + 0 ≤ 601024 from by omega, show slots + 0 ≤ 7293034 from by omega⟩ (fun r_1 L1 K1 I1 O1 H locs hI1 hF1 hp1 hP hD hS => ?_)
  try dsimp only at hp1
  refine lv_pop hx hb dL_law_745 rfl ?_
  refine lv_aload_n hx hb dL_law_746 rfl (lv_at hl 2 rfl) ?_
  refine lv_aload_n hx hb dL_law_747 rfl (lv_at hl 4 rfl) ?_
  refine lv_iload hx hb dL_law_748 (lv_at hl 0 rfl) ?_
  refine lv_iconst (v := 1) hx hb dL_law_750 (by decide) ?_
  refine lv_iadd hx hb dL_law_751 ?_
  refine va_sld hx hb hX hbl hbA hS a1 dL_law_752 ?_
  refine lv_aload_n hx hb dL_law_753 rfl (lv_at hl 4 rfl) ?_
  refine lv_iload hx hb dL_law_754 (lv_at hl 0 rfl) ?_
  refine lv_iconst (v := 2) hx hb dL_law_756 (by decide) ?_
  refine lv_iadd hx hb dL_law_757 ?_
  refine va_sld hx hb hX hbl hbA hS a2 dL_law_758 ?_
  refine lm_Vi (nL := 7) (vs := [.int (xs (i + 1).toNatClampNeg), .int (xs (i + 2).toNatClampNeg)]) (rest := []) ⟨hx, hb, hml, hown, hts⟩ hKm hA hP hD hS (g3_X6_standing l D h6 q cq F G _ (xs (i + 1).toNatClampNeg) (xs (i + 2).toNatClampNeg) hm r3) (cwV 2 hts gl_X6_standing rfl rfl rfl (by decide +kernel) ⟨Nat.le_of_ble_eq_true rfl, Nat.le_of_ble_eq_true rfl⟩) rfl hl.1 rfl (Nat.le_of_ble_eq_true rfl) dL_law_759 ⟨show cells + 0 ≤ 601024 from by omega, show slots + 0 ≤ 7293034 from by omega⟩ (fun r_2 F1 G1 H locs hm1 hf1 hp2 hP hD hS => ?_)
  try dsimp only at hp2
  obtain ⟨m1, k1, fi, fo⟩ := hF1 x0 mx0 List.not_mem_nil
  rw [kx0] at fi fo
  have hM1 : lI s D cA cq cO q x0 h6 qo L1 K1 I1 O1 F1 G1 f H locs := ⟨hP, hD, hS, hI1, m1, (k1.trans kx0), hm1, (r1.fr hf1 (by decide) (by decide)), (r2.fr hf1 (by decide) (by decide)), (r3.fr hf1 (by decide) (by decide) (by decide)), (by rw [fi 1 (by decide), hf1.1 1 (by decide)]; exact q1), (by rw [fi 6 (by decide), hf1.1 3 (by decide)]; exact q6), (by rw [fi 8 (by decide), hf1.1 15 (by decide)]; exact q8), (lTp.fr hT mx0 kx0 hF1 hf1 (by decide) (by decide) (by decide) (by decide) (by decide)), (by rw [fi 10 (by decide), hf1.1 17 (by decide)]; exact q10), (lFm.fr hFm mx0 kx0 hF1 hf1 (fun _ => rfl) (by decide) (by decide) (by decide) (by decide)), (by rw [fi 3 (by decide), hf1.1 4 (by decide)]; exact q3), (lRc.fr hRc mx0 kx0 hF1 hf1 (lRf2 hF1 (fun _ => rfl)) (by decide) (by decide) (by decide) (by decide) (by decide) (by decide) (by decide) (by decide) (by decide) (by rw [hf1.1 15 (by decide)]; exact Int.le_refl _) (by decide)), (lXt.fr hRc hXt mx0 kx0 hF1 hf1 (lRf2 hF1 (fun _ => rfl)) (by decide) (by decide) (by decide) (by decide) (by decide) (fun _ => rfl) (fun _ => rfl) (by decide) (by decide) (by decide)), (hFb.fr hf1 (by decide)), (lNa.fr hNa mx0 kx0 hF1 hf1 (by decide) (by decide) (by decide) (by decide))⟩
  refine W.widen (k := cells + 10) (n := slots + 82) (by omega) (by omega) ?_
  refine lv_pop hx hb dL_law_762 rfl ?_
  refine lv_goto (tgt := 828) hx hb dL_law_763 (by decide) ?_
  exact kk _ _ _ _ _ _ _ _ _ _ hM1 hl
set_option maxHeartbeats 4000000 in
set_option maxRecDepth 100000 in
theorem law_case_15 {p : Program} {e : Env} {s : State} {m : MethodId} {below : List Frame} {meth : Method} {c : Code} (l : Launch) (hst : l.stackTraces = false) {b LL : Nat} {xs : Nat → Int32} {D : va_G} {cA cq : Nat → ClassId} {cO : ClassId} {ad av q : Nat → Nat} {sa sb x0 h6 qo : Nat} (E : lE p s m meth c b LL xs D cA cq cO ad av sa sb) {i : Int32} (hi : 0 ≤ i.toInt ∧ i.toInt + 6 ≤ (LL : Int)) {L : List Nat} {K : Nat → Nat} {I : Nat → Nat → Int32} {O : Nat → Nat → Option Nat} {F : Nat → Int32} {G : Nat → Nat → Int32} {f : Nat → Int64} {H : Heap} {locs : List Loc} {ls : Array Slot} (hM : lI s D cA cq cO q x0 h6 qo L K I O F G f H locs) (hl : lv_has ls 7 [(4, .int i), (3, .ref qo), (2, .ref h6), (1, .ref x0), (0, .ref b)]) {cells slots : Nat} (hc : cells + 10 ≤ 601024) (hs : slots + 82 ≤ 7293034)
    (kk : ∀ (L : List Nat) (K : Nat → Nat) (I : Nat → Nat → Int32) (O : Nat → Nat → Option Nat) (F : Nat → Int32) (G : Nat → Nat → Int32) (f : Nat → Int64) (H : Heap) (locs : List Loc) (ls : Array Slot), lI s D cA cq cO q x0 h6 qo L K I O F G f H locs → lv_has ls 7 [(4, .int i), (3, .ref qo), (2, .ref h6), (1, .ref x0), (0, .ref b)] → W p l e room_1 s m #[Value.ref b] below meth c H locs (cells + 10) (slots + 82) (lw_Z below #[Value.ref b] s) (F0 m 828 ls [])) : W p l e room_1 s m #[Value.ref b] below meth c H locs cells slots (lw_Z below #[Value.ref b] s) (F0 m 766 ls []) := by
  obtain ⟨⟨hx, hb, hr, hml, hown, hts0, hX, hbl, hlocks, hgv⟩, hLL, hKc, hKm, hKo, hV, hE, hN⟩ := id E
  have hts := fun w h => hts0 w (wl_in w h)
  have hA : ∀ x : Nat, s.heap.size ≤ x → lA s x := fun _ h => h
  have hbA : ¬ lA s b := Nat.not_le.mpr hbl
  obtain ⟨hP, hD, hS, hI, mx0, kx0, hm, r1, r2, r3, q1, q6, q8, hT, q10, hFm, q3, hRc, hXt, hFb, hNa⟩ := id hM
  obtain ⟨nn, hnn, mnn, knn, hna⟩ := id hNa
  obtain ⟨tp, fm_, htp, hmt, hkt, -, hz⟩ := id hT
  clear fm_
  obtain ⟨fm, rr, hfm, hrr, mfm, kfm, hgf⟩ := id hFm
  have q11 : (I x0 11).toInt = (F 31).toInt := by
    obtain ⟨_, _, _, _, _, _, q11, _⟩ := id hRc
    exact q11
  have a1 : vp_in (i + 1) LL := lw_in hi hLL 1 (by decide) (by omega)
  have a2 : vp_in (i + 2) LL := lw_in hi hLL 2 (by decide) (by omega)
  refine lv_aload_n hx hb dL_law_766 rfl (lv_at hl 3 rfl) ?_
  refine lv_aload_n hx hb dL_law_767 rfl (lv_at hl 4 rfl) ?_
  refine lv_iload hx hb dL_law_768 (lv_at hl 0 rfl) ?_
  refine lv_iconst (v := 1) hx hb dL_law_770 (by decide) ?_
  refine lv_iadd hx hb dL_law_771 ?_
  refine va_sld hx hb hX hbl hbA hS a1 dL_law_772 ?_
  refine lv_aload_n hx hb dL_law_773 rfl (lv_at hl 4 rfl) ?_
  refine lv_iload hx hb dL_law_774 (lv_at hl 0 rfl) ?_
  refine lv_iconst (v := 2) hx hb dL_law_776 (by decide) ?_
  refine lv_iadd hx hb dL_law_777 ?_
  refine va_sld hx hb hX hbl hbA hS a2 dL_law_778 ?_
  obtain ⟨rz, bz, fz, ez, wz, hRx⟩ := id hRc
  have hwx := lWx_of hRx hXt hm
  obtain ⟨cu, hcu⟩ : ∃ cu : Nat, O x0 12 = some cu := by
    rcases h9 : O x0 12 with _ | cu
    · exact absurd h9 ((hI x0 mx0).2.2.1 12 (by rw [kx0]; rfl))
    · exact ⟨cu, rfl⟩
  refine lx_Vi (nL := 7) (vs := [.int (xs (i + 1).toNatClampNeg), .int (xs (i + 2).toNatClampNeg)]) (rest := []) ⟨hx, hb, hml, hown, hts⟩ hKc hV hA hP hD hS mx0 kx0 (h5_X5_starters l D cA ad av L K I O _ x0 (xs (i + 1).toNatClampNeg) (xs (i + 2).toNatClampNeg) hI mx0 kx0 rz bz fz ez wz F G hwx q10 cu hcu q8 nn hnn ⟨mnn, knn⟩ hna) (cwV 2 hts gl_X5_starters rfl rfl rfl (by decide +kernel) ⟨Nat.le_of_ble_eq_true rfl, Nat.le_of_ble_eq_true rfl⟩) rfl hl.1 rfl (Nat.le_of_ble_eq_true rfl) dL_law_779 ⟨show cells + 0 ≤ 601024 from by omega, show slots + 0 ≤ 7293034 from by omega⟩ (fun r_1 L1 K1 I1 O1 H locs hI1 hF1 hp1 hP hD hS => ?_)
  try dsimp only at hp1
  refine lv_aload_n hx hb dL_law_782 rfl (lv_at hl 2 rfl) ?_
  refine lv_aload_n hx hb dL_law_783 rfl (lv_at hl 4 rfl) ?_
  refine lv_iload hx hb dL_law_784 (lv_at hl 0 rfl) ?_
  refine lv_iconst (v := 1) hx hb dL_law_786 (by decide) ?_
  refine lv_iadd hx hb dL_law_787 ?_
  refine va_sld hx hb hX hbl hbA hS a1 dL_law_788 ?_
  refine lv_aload_n hx hb dL_law_789 rfl (lv_at hl 4 rfl) ?_
  refine lv_iload hx hb dL_law_790 (lv_at hl 0 rfl) ?_
  refine lv_iconst (v := 2) hx hb dL_law_792 (by decide) ?_
  refine lv_iadd hx hb dL_law_793 ?_
  refine va_sld hx hb hX hbl hbA hS a2 dL_law_794 ?_
  refine lm_Vi (nL := 7) (vs := [.int (xs (i + 1).toNatClampNeg), .int (xs (i + 2).toNatClampNeg)]) (rest := [.int r_1]) ⟨hx, hb, hml, hown, hts⟩ hKm hA hP hD hS (g7_X6_starters l D h6 q cq F G _ (xs (i + 1).toNatClampNeg) (xs (i + 2).toNatClampNeg) hm  hwx.2.1) (cwV 2 hts gl_X6_starters rfl rfl rfl (by decide +kernel) ⟨Nat.le_of_ble_eq_true rfl, Nat.le_of_ble_eq_true rfl⟩) rfl hl.1 rfl (Nat.le_of_ble_eq_true rfl) dL_law_795 ⟨show cells + 0 ≤ 601024 from by omega, show slots + 0 ≤ 7293034 from by omega⟩ (fun r_2 F1 G1 H locs hm1 hf1 hp2 hP hD hS => ?_)
  try dsimp only at hp2
  obtain ⟨m1, k1, fi, fo⟩ := hF1 x0 mx0 List.not_mem_nil
  rw [kx0] at fi fo
  have hr12 : r_1.toInt = r_2.toInt := lStarters hwx q6 hf1 hp1 hp2
  clear hp1 hp2
  have hM1 : lI s D cA cq cO q x0 h6 qo L1 K1 I1 O1 F1 G1 f H locs := ⟨hP, hD, hS, hI1, m1, (k1.trans kx0), hm1, (r1.fr hf1 (by decide) (by decide)), (r2.fr hf1 (by decide) (by decide)), (r3.fr hf1 (by decide) (by decide) (by decide)), (by rw [fi 1 (by decide), hf1.1 1 (by decide)]; exact q1), (by rw [fi 6 (by decide), hf1.1 3 (by decide)]; exact q6), (by rw [fi 8 (by decide), hf1.1 15 (by decide)]; exact q8), (lTp.fr hT mx0 kx0 hF1 hf1 (by decide) (by decide) (by decide) (by decide) (by decide)), (by rw [fi 10 (by decide), hf1.1 17 (by decide)]; exact q10), (lFm.fr hFm mx0 kx0 hF1 hf1 (fun _ => rfl) (by decide) (by decide) (by decide) (by decide)), (by rw [fi 3 (by decide), hf1.1 4 (by decide)]; exact q3), (lRc.fr hRc mx0 kx0 hF1 hf1 (lRf2 hF1 (fun _ => rfl)) (by decide) (by decide) (by decide) (by decide) (by decide) (by decide) (by decide) (by decide) (by decide) (by rw [hf1.1 15 (by decide)]; exact Int.le_refl _) (by decide)), (lXt.fr hRc hXt mx0 kx0 hF1 hf1 (lRf2 hF1 (fun _ => rfl)) (by decide) (by decide) (by decide) (by decide) (by decide) (fun _ => rfl) (fun _ => rfl) (by decide) (by decide) (by decide)), (hFb.fr hf1 (by decide)), (lNa.fr hNa mx0 kx0 hF1 hf1 (by decide) (by decide) (by decide) (by decide))⟩
  refine W.widen (k := cells + 10) (n := slots + 82) (by omega) (by omega) ?_
  refine lv_icmp_eq (tgt := 828) hx hb dL_law_798 (by decide) (fun _ => ?_) (fun c_9 => absurd (Int32.toInt_inj.mp (by omega)) c_9)
  exact kk _ _ _ _ _ _ _ _ _ _ hM1 hl
set_option maxHeartbeats 4000000 in
set_option maxRecDepth 100000 in
theorem law_case_16 {p : Program} {e : Env} {s : State} {m : MethodId} {below : List Frame} {meth : Method} {c : Code} (l : Launch) (hst : l.stackTraces = false) {b LL : Nat} {xs : Nat → Int32} {D : va_G} {cA cq : Nat → ClassId} {cO : ClassId} {ad av q : Nat → Nat} {sa sb x0 h6 qo : Nat} (E : lE p s m meth c b LL xs D cA cq cO ad av sa sb) {i : Int32} (hi : 0 ≤ i.toInt ∧ i.toInt + 6 ≤ (LL : Int)) {L : List Nat} {K : Nat → Nat} {I : Nat → Nat → Int32} {O : Nat → Nat → Option Nat} {F : Nat → Int32} {G : Nat → Nat → Int32} {f : Nat → Int64} {H : Heap} {locs : List Loc} {ls : Array Slot} (hM : lI s D cA cq cO q x0 h6 qo L K I O F G f H locs) (hl : lv_has ls 7 [(4, .int i), (3, .ref qo), (2, .ref h6), (1, .ref x0), (0, .ref b)]) {cells slots : Nat} (hc : cells + 10 ≤ 601024) (hs : slots + 82 ≤ 7293034)
    (kk : ∀ (L : List Nat) (K : Nat → Nat) (I : Nat → Nat → Int32) (O : Nat → Nat → Option Nat) (F : Nat → Int32) (G : Nat → Nat → Int32) (f : Nat → Int64) (H : Heap) (locs : List Loc) (ls : Array Slot), lI s D cA cq cO q x0 h6 qo L K I O F G f H locs → lv_has ls 7 [(4, .int i), (3, .ref qo), (2, .ref h6), (1, .ref x0), (0, .ref b)] → W p l e room_1 s m #[Value.ref b] below meth c H locs (cells + 10) (slots + 82) (lw_Z below #[Value.ref b] s) (F0 m 828 ls [])) : W p l e room_1 s m #[Value.ref b] below meth c H locs cells slots (lw_Z below #[Value.ref b] s) (F0 m 803 ls []) := by
  obtain ⟨⟨hx, hb, hr, hml, hown, hts0, hX, hbl, hlocks, hgv⟩, hLL, hKc, hKm, hKo, hV, hE, hN⟩ := id E
  have hts := fun w h => hts0 w (wl_in w h)
  have hA : ∀ x : Nat, s.heap.size ≤ x → lA s x := fun _ h => h
  have hbA : ¬ lA s b := Nat.not_le.mpr hbl
  obtain ⟨hP, hD, hS, hI, mx0, kx0, hm, r1, r2, r3, q1, q6, q8, hT, q10, hFm, q3, hRc, hXt, hFb, hNa⟩ := id hM
  obtain ⟨nn, hnn, mnn, knn, hna⟩ := id hNa
  obtain ⟨tp, fm_, htp, hmt, hkt, -, hz⟩ := id hT
  clear fm_
  obtain ⟨fm, rr, hfm, hrr, mfm, kfm, hgf⟩ := id hFm
  have q11 : (I x0 11).toInt = (F 31).toInt := by
    obtain ⟨_, _, _, _, _, _, q11, _⟩ := id hRc
    exact q11
  have a1 : vp_in (i + 1) LL := lw_in hi hLL 1 (by decide) (by omega)
  refine lv_aload_n hx hb dL_law_803 rfl (lv_at hl 3 rfl) ?_
  refine lv_aload_n hx hb dL_law_804 rfl (lv_at hl 4 rfl) ?_
  refine lv_iload hx hb dL_law_805 (lv_at hl 0 rfl) ?_
  refine lv_iconst (v := 1) hx hb dL_law_807 (by decide) ?_
  refine lv_iadd hx hb dL_law_808 ?_
  refine va_sld hx hb hX hbl hbA hS a1 dL_law_809 ?_
  refine lx_Vi (nL := 7) (vs := [.int (xs (i + 1).toNatClampNeg)]) (rest := []) ⟨hx, hb, hml, hown, hts⟩ hKc hV hA hP hD hS mx0 kx0 (h5_X5_count l D cA ad av L K I O _ x0 (xs (i + 1).toNatClampNeg) hI mx0 kx0) (cwV 1 hts gl_X5_count rfl rfl rfl (by decide +kernel) ⟨Nat.le_of_ble_eq_true rfl, Nat.le_of_ble_eq_true rfl⟩) rfl hl.1 rfl (Nat.le_of_ble_eq_true rfl) dL_law_810 ⟨show cells + 0 ≤ 601024 from by omega, show slots + 0 ≤ 7293034 from by omega⟩ (fun r_1 L1 K1 I1 O1 H locs hI1 hF1 hp1 hP hD hS => ?_)
  try dsimp only at hp1
  refine lv_pop hx hb dL_law_813 rfl ?_
  refine lv_aload_n hx hb dL_law_814 rfl (lv_at hl 2 rfl) ?_
  refine lv_aload_n hx hb dL_law_815 rfl (lv_at hl 4 rfl) ?_
  refine lv_iload hx hb dL_law_816 (lv_at hl 0 rfl) ?_
  refine lv_iconst (v := 1) hx hb dL_law_818 (by decide) ?_
  refine lv_iadd hx hb dL_law_819 ?_
  refine va_sld hx hb hX hbl hbA hS a1 dL_law_820 ?_
  refine lm_Vi (nL := 7) (vs := [.int (xs (i + 1).toNatClampNeg)]) (rest := []) ⟨hx, hb, hml, hown, hts⟩ hKm hA hP hD hS (g7_X6_count l D h6 q cq F G _ (xs (i + 1).toNatClampNeg) hm ) (cwV 1 hts gl_X6_count rfl rfl rfl (by decide +kernel) ⟨Nat.le_of_ble_eq_true rfl, Nat.le_of_ble_eq_true rfl⟩) rfl hl.1 rfl (Nat.le_of_ble_eq_true rfl) dL_law_821 ⟨show cells + 0 ≤ 601024 from by omega, show slots + 0 ≤ 7293034 from by omega⟩ (fun r_2 F1 G1 H locs hm1 hf1 hp2 hP hD hS => ?_)
  try dsimp only at hp2
  obtain ⟨m1, k1, fi, fo⟩ := hF1 x0 mx0 List.not_mem_nil
  rw [kx0] at fi fo
  have hr12 : r_1.toInt = r_2.toInt := by
    obtain ⟨-, hp1⟩ := hp1
    omega
  clear hp1 hp2
  have hM1 : lI s D cA cq cO q x0 h6 qo L1 K1 I1 O1 F1 G1 f H locs := ⟨hP, hD, hS, hI1, m1, (k1.trans kx0), hm1, (r1.fr hf1 (by decide) (by decide)), (r2.fr hf1 (by decide) (by decide)), (r3.fr hf1 (by decide) (by decide) (by decide)), (by rw [fi 1 (by decide), hf1.1 1 (by decide)]; exact q1), (by rw [fi 6 (by decide), hf1.1 3 (by decide)]; exact q6), (by rw [fi 8 (by decide), hf1.1 15 (by decide)]; exact q8), (lTp.fr hT mx0 kx0 hF1 hf1 (by decide) (by decide) (by decide) (by decide) (by decide)), (by rw [fi 10 (by decide), hf1.1 17 (by decide)]; exact q10), (lFm.fr hFm mx0 kx0 hF1 hf1 (fun _ => rfl) (by decide) (by decide) (by decide) (by decide)), (by rw [fi 3 (by decide), hf1.1 4 (by decide)]; exact q3), (lRc.fr hRc mx0 kx0 hF1 hf1 (lRf2 hF1 (fun _ => rfl)) (by decide) (by decide) (by decide) (by decide) (by decide) (by decide) (by decide) (by decide) (by decide) (by rw [hf1.1 15 (by decide)]; exact Int.le_refl _) (by decide)), (lXt.fr hRc hXt mx0 kx0 hF1 hf1 (lRf2 hF1 (fun _ => rfl)) (by decide) (by decide) (by decide) (by decide) (by decide) (fun _ => rfl) (fun _ => rfl) (by decide) (by decide) (by decide)), (hFb.fr hf1 (by decide)), (lNa.fr hNa mx0 kx0 hF1 hf1 (by decide) (by decide) (by decide) (by decide))⟩
  refine W.widen (k := cells + 10) (n := slots + 82) (by omega) (by omega) ?_
  refine lv_pop hx hb dL_law_824 rfl ?_
  refine lv_goto (tgt := 828) hx hb dL_law_825 (by decide) ?_
  exact kk _ _ _ _ _ _ _ _ _ _ hM1 hl
set_option maxHeartbeats 4000000 in
set_option maxRecDepth 100000 in
theorem law_loop {p : Program} {e : Env} {s : State} {m : MethodId} {below : List Frame} {meth : Method} {c : Code} (l : Launch) (hst : l.stackTraces = false) {b LL : Nat} {xs : Nat → Int32} {D : va_G} {cA cq : Nat → ClassId} {cO : ClassId} {ad av q : Nat → Nat} {sa sb x0 h6 qo : Nat} (E : lE p s m meth c b LL xs D cA cq cO ad av sa sb) (n : Nat) : ∀ {i : Int32} {L : List Nat} {K : Nat → Nat} {I : Nat → Nat → Int32} {O : Nat → Nat → Option Nat} {F : Nat → Int32} {G : Nat → Nat → Int32} {f : Nat → Int64} {H : Heap} {locs : List Loc} {ls : Array Slot} {cells slots : Nat}, 0 ≤ i.toInt ∧ i.toInt ≤ (LL : Int) → (LL : Int) < i.toInt + 6 * (n : Int) → cells + 10 * n ≤ 601024 → slots + 82 * n ≤ 7293034 → lI s D cA cq cO q x0 h6 qo L K I O F G f H locs → lv_has ls 7 [(4, .int i), (3, .ref qo), (2, .ref h6), (1, .ref x0), (0, .ref b)] → W p l e room_1 s m #[Value.ref b] below meth c H locs cells slots (lw_Z below #[Value.ref b] s) (F0 m 23 ls []) := by
  induction n with
  | zero => intro i L K I O F G f H locs ls cells slots hi hn; omega
  | succ n ih =>
    intro i L K I O F G f H locs ls cells slots hi hn hc hs hM hl
    obtain ⟨⟨hx, hb, hr, hml, hown, hts0, hX, hbl, hlocks, hgv⟩, hLL, hKc, hKm, hKo, hV, hE, hN⟩ := id E
    have hts := fun w h => hts0 w (wl_in w h)
    have hA : ∀ x : Nat, s.heap.size ≤ x → lA s x := fun _ h => h
    have hbA : ¬ lA s b := Nat.not_le.mpr hbl
    obtain ⟨hP, hD, hS, hI, mx0, kx0, hm, r1, r2, r3, q1, q6, q8, hT, q10, hFm, q3, hRc, hXt, hFb, hNa⟩ := id hM
    obtain ⟨nn, hnn, mnn, knn, hna⟩ := id hNa
    obtain ⟨tp, fm_, htp, hmt, hkt, -, hz⟩ := id hT
    clear fm_
    obtain ⟨fm, rr, hfm, hrr, mfm, kfm, hgf⟩ := id hFm
    have q11 : (I x0 11).toInt = (F 31).toInt := by
      obtain ⟨_, _, _, _, _, _, q11, _⟩ := id hRc
      exact q11
    refine lv_iload hx hb dL_law_23 (lv_at hl 0 rfl) ?_
    refine lv_aload_n hx hb dL_law_25 rfl (lv_at hl 4 rfl) ?_
    refine va_slen hx hb hX hbl hbA hS dL_law_26 ?_
    refine lv_bipush (v := 6) hx hb dL_law_27 (by decide) ?_
    refine mm_isub (X := (LL : Int)) (Y := 6) hx hb dL_law_29 (nI_toInt (by omega)) (by decide) (by omega) (fun z_1 e_1 => ?_)
    refine mm_icmp_gt (X := i.toInt) (Y := (LL : Int) - 6) (tgt := 834) hx hb dL_law_30 (by decide) rfl e_1 (fun c_1 => ?_) (fun c_1 => ?_)
    · refine lv_iconst (v := 1) hx hb dL_law_834 (by decide) ?_
      refine va_forget (fun x hx9 => hS.2.2 x hx9) ?_
      refine W.widen (k := 601024) (n := 7293034) (by omega) (by omega) ?_
      exact lw_ret hx hb hr hlocks dL_law_835
    · have hi6 : 0 ≤ i.toInt ∧ i.toInt + 6 ≤ (LL : Int) := by omega
      have kk : ∀ (L : List Nat) (K : Nat → Nat) (I : Nat → Nat → Int32) (O : Nat → Nat → Option Nat) (F : Nat → Int32) (G : Nat → Nat → Int32) (f : Nat → Int64) (H : Heap) (locs : List Loc) (ls : Array Slot), lI s D cA cq cO q x0 h6 qo L K I O F G f H locs → lv_has ls 7 [(4, .int i), (3, .ref qo), (2, .ref h6), (1, .ref x0), (0, .ref b)] → W p l e room_1 s m #[Value.ref b] below meth c H locs (cells + 10) (slots + 82) (lw_Z below #[Value.ref b] s) (F0 m 828 ls []) := fun L K I O F G f H locs ls hM hl => by
        refine mm_iinc (X := i.toInt) (lv2 := fun z => [(4, .int z), (3, .ref qo), (2, .ref h6), (1, .ref x0), (0, .ref b)]) (k := 0) (v := 6) hx hb dL_law_828 hl rfl rfl (by decide) (by decide) (by omega) (by decide) (fun _ => rfl) (fun z ls ez hl => ?_)
        refine lv_goto (tgt := 23) hx hb dL_law_831 (by decide) ?_
        exact ih (by omega) (by omega) (by omega) (by omega) hM hl
      refine lv_aload_n hx hb dL_law_33 rfl (lv_at hl 4 rfl) ?_
      refine lv_iload hx hb dL_law_34 (lv_at hl 0 rfl) ?_
      refine va_sld hx hb hX hbl hbA hS (by rw [vp_in_iff]; omega) dL_law_36 ?_
      refine lv_bipush (v := 31) hx hb dL_law_37 (by decide) ?_
      refine lv_iand hx hb dL_law_39 ?_
      obtain ⟨j, hj, ej⟩ := pk_andE (xs i.toNatClampNeg) (m := 31) 5 (by decide)
      rw [ej]
      have hcs : j = 0 ∨ j = 1 ∨ j = 2 ∨ j = 3 ∨ j = 4 ∨ j = 5 ∨ j = 6 ∨ j = 7 ∨ j = 8 ∨ j = 9 ∨ j = 10 ∨ j = 11 ∨ j = 12 ∨ j = 13 ∨ j = 14 ∨ j = 15 ∨ j = 16 ∨ 17 ≤ j := by omega
      rcases hcs with rfl | rfl | rfl | rfl | rfl | rfl | rfl | rfl | rfl | rfl | rfl | rfl | rfl | rfl | rfl | rfl | rfl | h17
      · refine lv_tableIn (tgt := 124) (off := 84) hx hb dL_law_40 (by decide) (by decide) (by decide) (by decide) ?_
        exact law_case_0 l hst E hi6 hM hl (by omega) (by omega) kk
      · refine lv_tableIn (tgt := 197) (off := 157) hx hb dL_law_40 (by decide) (by decide) (by decide) (by decide) ?_
        exact law_case_1 l hst E hi6 hM hl (by omega) (by omega) kk
      · refine lv_tableIn (tgt := 222) (off := 182) hx hb dL_law_40 (by decide) (by decide) (by decide) (by decide) ?_
        exact law_case_2 l hst E hi6 hM hl (by omega) (by omega) kk
      · refine lv_tableIn (tgt := 247) (off := 207) hx hb dL_law_40 (by decide) (by decide) (by decide) (by decide) ?_
        exact law_case_3 l hst E hi6 hM hl (by omega) (by omega) kk
      · refine lv_tableIn (tgt := 272) (off := 232) hx hb dL_law_40 (by decide) (by decide) (by decide) (by decide) ?_
        exact law_case_4 l hst E hi6 hM hl (by omega) (by omega) kk
      · refine lv_tableIn (tgt := 297) (off := 257) hx hb dL_law_40 (by decide) (by decide) (by decide) (by decide) ?_
        exact law_case_5 l hst E hi6 hM hl (by omega) (by omega) kk
      · refine lv_tableIn (tgt := 334) (off := 294) hx hb dL_law_40 (by decide) (by decide) (by decide) (by decide) ?_
        exact law_case_6 l hst E hi6 hM hl (by omega) (by omega) kk
      · refine lv_tableIn (tgt := 371) (off := 331) hx hb dL_law_40 (by decide) (by decide) (by decide) (by decide) ?_
        exact law_case_7 l hst E hi6 hM hl (by omega) (by omega) kk
      · refine lv_tableIn (tgt := 444) (off := 404) hx hb dL_law_40 (by decide) (by decide) (by decide) (by decide) ?_
        exact law_case_8 l hst E hi6 hM hl (by omega) (by omega) kk
      · refine lv_tableIn (tgt := 484) (off := 444) hx hb dL_law_40 (by decide) (by decide) (by decide) (by decide) ?_
        exact law_case_9 l hst E hi6 hM hl (by omega) (by omega) kk
      · refine lv_tableIn (tgt := 521) (off := 481) hx hb dL_law_40 (by decide) (by decide) (by decide) (by decide) ?_
        exact law_case_10 l hst E hi6 hM hl (by omega) (by omega) kk
      · refine lv_tableIn (tgt := 582) (off := 542) hx hb dL_law_40 (by decide) (by decide) (by decide) (by decide) ?_
        exact law_case_11 l hst E hi6 hM hl (by omega) (by omega) kk
      · refine lv_tableIn (tgt := 643) (off := 603) hx hb dL_law_40 (by decide) (by decide) (by decide) (by decide) ?_
        exact law_case_12 l hst E hi6 hM hl (by omega) (by omega) kk
      · refine lv_tableIn (tgt := 692) (off := 652) hx hb dL_law_40 (by decide) (by decide) (by decide) (by decide) ?_
        exact law_case_13 l hst E hi6 hM hl (by omega) (by omega) kk
      · refine lv_tableIn (tgt := 729) (off := 689) hx hb dL_law_40 (by decide) (by decide) (by decide) (by decide) ?_
        exact law_case_14 l hst E hi6 hM hl (by omega) (by omega) kk
      · refine lv_tableIn (tgt := 766) (off := 726) hx hb dL_law_40 (by decide) (by decide) (by decide) (by decide) ?_
        exact law_case_15 l hst E hi6 hM hl (by omega) (by omega) kk
      · refine lv_tableIn (tgt := 803) (off := 763) hx hb dL_law_40 (by decide) (by decide) (by decide) (by decide) ?_
        exact law_case_16 l hst E hi6 hM hl (by omega) (by omega) kk
      · refine lv_tableOut (tgt := 828) hx hb dL_law_40 (Or.inr (by rw [nI_toInt (show j < 2 ^ 31 by omega)]; omega)) (by decide) ?_
        exact W.widen (k := cells + 10) (n := slots + 82) (by omega) (by omega) (kk _ _ _ _ _ _ _ _ _ _ hM hl)
