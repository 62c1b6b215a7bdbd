set_option maxHeartbeats 4000000 in
set_option maxRecDepth 100000 in
theorem law_case_8 {p : Program} {e : Env} {s : State} {m : MethodId} {below : List Frame} {meth : Method} {c : Code} (l : Launch) (hst : l.stackTraces = false) {b LL : Nat} {xs : Nat → Int32} {D : va_G} {cA cq : Nat → ClassId} {cO : ClassId} {ad av q : Nat → Nat} {sa sb x0 h6 qo : Nat} (E : lE p s m meth c b LL xs D cA cq cO ad av sa sb) {i : Int32} (hi : 0 ≤ i.toInt ∧ i.toInt + 6 ≤ (LL : Int)) {L : List Nat} {K : Nat → Nat} {I : Nat → Nat → Int32} {O : Nat → Nat → Option Nat} {F : Nat → Int32} {G : Nat → Nat → Int32} {f : Nat → Int64} {H : Heap} {locs : List Loc} {ls : Array Slot} (hM : lI s D cA cq cO q x0 h6 qo L K I O F G f H locs) (hl : lv_has ls 7 [(4, .int i), (3, .ref qo), (2, .ref h6), (1, .ref x0), (0, .ref b)]) {cells slots : Nat} (hc : cells + 10 ≤ 601024) (hs : slots + 82 ≤ 7293034)
    (kk : ∀ (L : List Nat) (K : Nat → Nat) (I : Nat → Nat → Int32) (O : Nat → Nat → Option Nat) (F : Nat → Int32) (G : Nat → Nat → Int32) (f : Nat → Int64) (H : Heap) (locs : List Loc) (ls : Array Slot), lI s D cA cq cO q x0 h6 qo L K I O F G f H locs → lv_has ls 7 [(4, .int i), (3, .ref qo), (2, .ref h6), (1, .ref x0), (0, .ref b)] → W p l e room_1 s m #[Value.ref b] below meth c H locs (cells + 10) (slots + 82) (lw_Z below #[Value.ref b] s) (F0 m 856 ls [])) : W p l e room_1 s m #[Value.ref b] below meth c H locs cells slots (lw_Z below #[Value.ref b] s) (F0 m 444 ls []) := by
  obtain ⟨⟨hx, hb, hr, hml, hown, hts0, hX, hbl, hlocks, hgv⟩, hLL, hKc, hKm, hKo, hV, hE, hN⟩ := id E
  have hts := fun w h => hts0 w (wl_in w h)
  have hA : ∀ x : Nat, s.heap.size ≤ x → lA s x := fun _ h => h
  have hbA : ¬ lA s b := Nat.not_le.mpr hbl
  obtain ⟨hP, hD, hS, hI, mx0, kx0, hm, r1, r2, r3, q1, q6, q8, hT, q10, hFm, q3, hRc⟩ := id hM
  obtain ⟨tp, fm_, htp, hmt, hkt, -, hz⟩ := id hT
  clear fm_
  obtain ⟨fm, rr, hfm, hrr, mfm, kfm, hgf⟩ := id hFm
  have q11 : (I x0 11).toInt = (F 31).toInt := by
    obtain ⟨_, _, _, _, _, _, q11, _⟩ := id hRc
    exact q11
  have a1 : vp_in (i + 1) LL := lw_in hi hLL 1 (by decide) (by omega)
  have a2 : vp_in (i + 2) LL := lw_in hi hLL 2 (by decide) (by omega)
  refine lv_aload_n hx hb dL_law_444 rfl (lv_at hl 3 rfl) ?_
  refine lv_aload_n hx hb dL_law_445 rfl (lv_at hl 4 rfl) ?_
  refine lv_iload hx hb dL_law_446 (lv_at hl 0 rfl) ?_
  refine lv_iconst (v := 1) hx hb dL_law_448 (by decide) ?_
  refine lv_iadd hx hb dL_law_449 ?_
  refine va_sld hx hb hX hbl hbA hS a1 dL_law_450 ?_
  refine lv_aload_n hx hb dL_law_451 rfl (lv_at hl 4 rfl) ?_
  refine lv_iload hx hb dL_law_452 (lv_at hl 0 rfl) ?_
  refine lv_iconst (v := 2) hx hb dL_law_454 (by decide) ?_
  refine lv_iadd hx hb dL_law_455 ?_
  refine va_sld hx hb hX hbl hbA hS a2 dL_law_456 ?_
  refine lv_aload_n hx hb dL_law_457 rfl (lv_at hl 1 rfl) ?_
  refine lx_look (nL := 7) hst ⟨hx, hb, hml, hown, hts⟩ hKc hKo hV hE hN hI mx0 kx0 hrr hP hD hS (vx_cwSW 4 hts gl_L_look rfl rfl rfl (by decide +kernel) ⟨Nat.le_of_ble_eq_true rfl, Nat.le_of_ble_eq_true rfl⟩) hl.1 dL_law_458 ⟨show cells + 1 ≤ 601024 from by omega, show slots + 6 ≤ 7293034 from by omega⟩ (fun r_1 f1 H locs hp1 hP hD hS => ?_)
  refine lv_istore (lv' := [(5, .int r_1), (4, .int i), (3, .ref qo), (2, .ref h6), (1, .ref x0), (0, .ref b)]) hx hb dL_law_461 hl (by decide) rfl (fun ls hl5 => ?_)
  have hl : lv_has ls 7 [(4, .int i), (3, .ref qo), (2, .ref h6), (1, .ref x0), (0, .ref b)] := lv_sub hl5 [1, 2, 3, 4, 5] rfl
  refine lv_aload_n hx hb dL_law_463 rfl (lv_at hl 2 rfl) ?_
  refine lv_aload_n hx hb dL_law_464 rfl (lv_at hl 4 rfl) ?_
  refine lv_iload hx hb dL_law_465 (lv_at hl 0 rfl) ?_
  refine lv_iconst (v := 1) hx hb dL_law_467 (by decide) ?_
  refine lv_iadd hx hb dL_law_468 ?_
  refine va_sld hx hb hX hbl hbA hS a1 dL_law_469 ?_
  refine lv_aload_n hx hb dL_law_470 rfl (lv_at hl 4 rfl) ?_
  refine lv_iload hx hb dL_law_471 (lv_at hl 0 rfl) ?_
  refine lv_iconst (v := 2) hx hb dL_law_473 (by decide) ?_
  refine lv_iadd hx hb dL_law_474 ?_
  refine va_sld hx hb hX hbl hbA hS a2 dL_law_475 ?_
  refine lm_Vi (nL := 7) (vs := [.int (xs (i + 1).toNatClampNeg), .int (xs (i + 2).toNatClampNeg)]) (rest := []) ⟨hx, hb, hml, hown, hts⟩ hKm hA hP hD hS (g7_X6_look l D h6 q cq F G _ (xs (i + 1).toNatClampNeg) (xs (i + 2).toNatClampNeg) hm ) (cwV 2 hts gl_X6_look rfl rfl rfl (by decide +kernel) ⟨Nat.le_of_ble_eq_true rfl, Nat.le_of_ble_eq_true rfl⟩) rfl hl.1 rfl (Nat.le_of_ble_eq_true rfl) dL_law_476 ⟨show cells + 1 ≤ 601024 from by omega, show slots + 6 ≤ 7293034 from by omega⟩ (fun r_2 F1 G1 H locs hm1 hf1 hp2 hP hD hS => ?_)
  try dsimp only at hp2
  refine lv_istore (lv' := [(6, .int r_2), (5, .int r_1), (4, .int i), (3, .ref qo), (2, .ref h6), (1, .ref x0), (0, .ref b)]) hx hb dL_law_479 hl5 (by decide) rfl (fun ls hl6 => ?_)
  have hl : lv_has ls 7 [(4, .int i), (3, .ref qo), (2, .ref h6), (1, .ref x0), (0, .ref b)] := lv_sub hl6 [2, 3, 4, 5, 6] rfl
  refine lv_aload_n hx hb dL_law_481 rfl (lv_at hl 2 rfl) ?_
  refine lm_Vi (nL := 7) (vs := []) (rest := []) ⟨hx, hb, hml, hown, hts⟩ hKm hA hP hD hS (g3_X6_thrown l D h6 q cq F1 G1 _ hm1) (cwV 0 hts gl_X6_thrown rfl rfl rfl (by decide +kernel) ⟨Nat.le_of_ble_eq_true rfl, Nat.le_of_ble_eq_true rfl⟩) rfl hl.1 rfl (Nat.le_of_ble_eq_true rfl) dL_law_482 ⟨show cells + 1 ≤ 601024 from by omega, show slots + 6 ≤ 7293034 from by omega⟩ (fun r_3 F2 G2 H locs hm2 hf2 hp3 hP hD hS => ?_)
  try dsimp only at hp3
  have eF : F2 = F1 := funext (fun k => hf2.1 k List.not_mem_nil)
  have eG : G2 = G1 := funext (fun k => hf2.2 k List.not_mem_nil)
  rw [eF, eG] at hP hD
  clear hm2 hf2 eF eG
  obtain ⟨hth, hva⟩ := lLook hRc hm hrr q10 hp1 hp2
  clear hp1 hp2
  have hk3 : r_3.toInt = r_1.toInt := by omega
  have hM1 : lI s D cA cq cO q x0 h6 qo L K I O F1 G1 f1 H locs := ⟨hP, hD, hS, hI, mx0, kx0, hm1, (r1.fr hf1 (by decide) (by decide)), (r2.fr hf1 (by decide) (by decide)), (r3.fr hf1 (by decide) (by decide) (by decide)), (by rw [hf1.1 1 (by decide)]; exact q1), (by rw [hf1.1 3 (by decide)]; exact q6), (by rw [hf1.1 15 (by decide)]; exact q8), (lTp.fr hT mx0 kx0 (cFr.rf (WI := []) (WO := [])) hf1 rfl rfl rfl rfl (by decide)), (by rw [hf1.1 17 (by decide)]; exact q10), (lFm.fr hFm mx0 kx0 (cFr.rf (WI := []) (WO := [])) hf1 (fun _ => rfl) rfl rfl rfl (by decide)), (by rw [hf1.1 4 (by decide)]; exact q3), (lRc.fr hRc mx0 kx0 (cFr.rf (WI := []) (WO := [])) hf1 (fun _ _ _ _ => rfl) (by decide) (by decide) (by decide) (by decide) (by decide) (by decide) (by decide) (by decide) (by decide) (by rw [hf1.1 15 (by decide)]; exact Int.le_refl _) (by decide))⟩
  refine W.widen (k := cells + 10) (n := slots + 82) (by omega) (by omega) ?_
  refine lv_iload hx hb dL_law_485 (lv_at hl6 1 rfl) ?_
  refine lv_icmp_eq (tgt := 492) hx hb dL_law_487 (by decide) (fun _ => ?_) (fun c_9 => absurd (Int32.toInt_inj.mp hk3) c_9)
  refine lv_iload hx hb dL_law_492 (lv_at hl6 1 rfl) ?_
  refine mm_if_ne (X := r_1.toInt) (tgt := 509) hx hb dL_law_494 (by decide) rfl (fun c_1 => ?_) (fun c_1 => ?_)
  · refine lv_goto (tgt := 856) hx hb dL_law_509 (by decide) ?_
    exact kk _ _ _ _ _ _ _ _ _ _ hM1 hl
  refine lv_aload_n hx hb dL_law_497 rfl (lv_at hl 1 rfl) ?_
  refine lv_iconst (v := 0) hx hb dL_law_498 (by decide) ?_
  refine va_lald hx hb hKo hP ((cW cA L K I O).length + ((mW h6 q cq F1 G1).length + 0)) 0 (lq_gr (lq_gr rfl)) rfl (by unfold vp_in; decide) dL_law_499 ?_
  refine lv_iload hx hb dL_law_500 (lv_at hl6 0 rfl) ?_
  refine lv_i2l hx hb dL_law_502 rfl ?_
  refine ln_lcmp hx hb dL_law_503 (by rw [show Int32.toNatClampNeg (0 : Int32) = 0 from by decide]; exact hva c_1) ?_
  refine mm_if_eq (X := 0) (tgt := 509) hx hb dL_law_504 (by decide) (by decide) (fun _ => ?_) (fun c_2 => absurd rfl c_2)
  refine lv_goto (tgt := 856) hx hb dL_law_509 (by decide) ?_
  exact kk _ _ _ _ _ _ _ _ _ _ hM1 hl
set_option maxHeartbeats 4000000 in
set_option maxRecDepth 100000 in
theorem law_case_9 {p : Program} {e : Env} {s : State} {m : MethodId} {below : List Frame} {meth : Method} {c : Code} (l : Launch) (hst : l.stackTraces = false) {b LL : Nat} {xs : Nat → Int32} {D : va_G} {cA cq : Nat → ClassId} {cO : ClassId} {ad av q : Nat → Nat} {sa sb x0 h6 qo : Nat} (E : lE p s m meth c b LL xs D cA cq cO ad av sa sb) {i : Int32} (hi : 0 ≤ i.toInt ∧ i.toInt + 6 ≤ (LL : Int)) {L : List Nat} {K : Nat → Nat} {I : Nat → Nat → Int32} {O : Nat → Nat → Option Nat} {F : Nat → Int32} {G : Nat → Nat → Int32} {f : Nat → Int64} {H : Heap} {locs : List Loc} {ls : Array Slot} (hM : lI s D cA cq cO q x0 h6 qo L K I O F G f H locs) (hl : lv_has ls 7 [(4, .int i), (3, .ref qo), (2, .ref h6), (1, .ref x0), (0, .ref b)]) {cells slots : Nat} (hc : cells + 10 ≤ 601024) (hs : slots + 82 ≤ 7293034)
    (kk : ∀ (L : List Nat) (K : Nat → Nat) (I : Nat → Nat → Int32) (O : Nat → Nat → Option Nat) (F : Nat → Int32) (G : Nat → Nat → Int32) (f : Nat → Int64) (H : Heap) (locs : List Loc) (ls : Array Slot), lI s D cA cq cO q x0 h6 qo L K I O F G f H locs → lv_has ls 7 [(4, .int i), (3, .ref qo), (2, .ref h6), (1, .ref x0), (0, .ref b)] → W p l e room_1 s m #[Value.ref b] below meth c H locs (cells + 10) (slots + 82) (lw_Z below #[Value.ref b] s) (F0 m 856 ls [])) : W p l e room_1 s m #[Value.ref b] below meth c H locs cells slots (lw_Z below #[Value.ref b] s) (F0 m 512 ls []) := by
  obtain ⟨⟨hx, hb, hr, hml, hown, hts0, hX, hbl, hlocks, hgv⟩, hLL, hKc, hKm, hKo, hV, hE, hN⟩ := id E
  have hts := fun w h => hts0 w (wl_in w h)
  have hA : ∀ x : Nat, s.heap.size ≤ x → lA s x := fun _ h => h
  have hbA : ¬ lA s b := Nat.not_le.mpr hbl
  obtain ⟨hP, hD, hS, hI, mx0, kx0, hm, r1, r2, r3, q1, q6, q8, hT, q10, hFm, q3, hRc⟩ := id hM
  obtain ⟨tp, fm_, htp, hmt, hkt, -, hz⟩ := id hT
  clear fm_
  obtain ⟨fm, rr, hfm, hrr, mfm, kfm, hgf⟩ := id hFm
  have q11 : (I x0 11).toInt = (F 31).toInt := by
    obtain ⟨_, _, _, _, _, _, q11, _⟩ := id hRc
    exact q11
  have a1 : vp_in (i + 1) LL := lw_in hi hLL 1 (by decide) (by omega)
  have a2 : vp_in (i + 2) LL := lw_in hi hLL 2 (by decide) (by omega)
  refine lv_aload_n hx hb dL_law_512 rfl (lv_at hl 3 rfl) ?_
  refine lv_aload_n hx hb dL_law_513 rfl (lv_at hl 4 rfl) ?_
  refine lv_iload hx hb dL_law_514 (lv_at hl 0 rfl) ?_
  refine lv_iconst (v := 1) hx hb dL_law_516 (by decide) ?_
  refine lv_iadd hx hb dL_law_517 ?_
  refine va_sld hx hb hX hbl hbA hS a1 dL_law_518 ?_
  refine lv_aload_n hx hb dL_law_519 rfl (lv_at hl 4 rfl) ?_
  refine lv_iload hx hb dL_law_520 (lv_at hl 0 rfl) ?_
  refine lv_iconst (v := 2) hx hb dL_law_522 (by decide) ?_
  refine lv_iadd hx hb dL_law_523 ?_
  refine va_sld hx hb hX hbl hbA hS a2 dL_law_524 ?_
  refine lx_Vi (nL := 7) (vs := [.int (xs (i + 1).toNatClampNeg), .int (xs (i + 2).toNatClampNeg)]) (rest := []) ⟨hx, hb, hml, hown, hts⟩ hKc hV hA hP hD hS mx0 kx0 (h5_X5_entry l D cA ad av L K I O _ x0 (xs (i + 1).toNatClampNeg) (xs (i + 2).toNatClampNeg) hI mx0 kx0 rr hrr) (cwV 2 hts gl_X5_entry rfl rfl rfl (by decide +kernel) ⟨Nat.le_of_ble_eq_true rfl, Nat.le_of_ble_eq_true rfl⟩) rfl hl.1 rfl (Nat.le_of_ble_eq_true rfl) dL_law_525 ⟨show cells + 0 ≤ 601024 from by omega, show slots + 0 ≤ 7293034 from by omega⟩ (fun r_1 L1 K1 I1 O1 H locs hI1 hF1 hp1 hP hD hS => ?_)
  try dsimp only at hp1
  refine lv_pop hx hb dL_law_528 rfl ?_
  refine lv_aload_n hx hb dL_law_529 rfl (lv_at hl 2 rfl) ?_
  refine lv_aload_n hx hb dL_law_530 rfl (lv_at hl 4 rfl) ?_
  refine lv_iload hx hb dL_law_531 (lv_at hl 0 rfl) ?_
  refine lv_iconst (v := 1) hx hb dL_law_533 (by decide) ?_
  refine lv_iadd hx hb dL_law_534 ?_
  refine va_sld hx hb hX hbl hbA hS a1 dL_law_535 ?_
  refine lv_aload_n hx hb dL_law_536 rfl (lv_at hl 4 rfl) ?_
  refine lv_iload hx hb dL_law_537 (lv_at hl 0 rfl) ?_
  refine lv_iconst (v := 2) hx hb dL_law_539 (by decide) ?_
  refine lv_iadd hx hb dL_law_540 ?_
  refine va_sld hx hb hX hbl hbA hS a2 dL_law_541 ?_
  refine lm_Vi (nL := 7) (vs := [.int (xs (i + 1).toNatClampNeg), .int (xs (i + 2).toNatClampNeg)]) (rest := []) ⟨hx, hb, hml, hown, hts⟩ hKm hA hP hD hS (g7_X6_entry l D h6 q cq F G _ (xs (i + 1).toNatClampNeg) (xs (i + 2).toNatClampNeg) hm ) (cwV 2 hts gl_X6_entry rfl rfl rfl (by decide +kernel) ⟨Nat.le_of_ble_eq_true rfl, Nat.le_of_ble_eq_true rfl⟩) rfl hl.1 rfl (Nat.le_of_ble_eq_true rfl) dL_law_542 ⟨show cells + 0 ≤ 601024 from by omega, show slots + 0 ≤ 7293034 from by omega⟩ (fun r_2 F1 G1 H locs hm1 hf1 hp2 hP hD hS => ?_)
  try dsimp only at hp2
  obtain ⟨m1, k1, fi, fo⟩ := hF1 x0 mx0 List.not_mem_nil
  rw [kx0] at fi fo
  have hr12 := lEntry hRc hm mx0 kx0 hrr q10 hF1 hf1 hp1 hp2
  clear hp1 hp2
  have hM1 : lI s D cA cq cO q x0 h6 qo L1 K1 I1 O1 F1 G1 f H locs := ⟨hP, hD, hS, hI1, m1, (k1.trans kx0), hm1, (r1.fr hf1 (by decide) (by decide)), (r2.fr hf1 (by decide) (by decide)), (r3.fr hf1 (by decide) (by decide) (by decide)), (by rw [fi 1 (by decide), hf1.1 1 (by decide)]; exact q1), (by rw [fi 6 (by decide), hf1.1 3 (by decide)]; exact q6), (by rw [fi 8 (by decide), hf1.1 15 (by decide)]; exact q8), (lTp.fr hT mx0 kx0 hF1 hf1 (by decide) (by decide) (by decide) (by decide) (by decide)), (by rw [fi 10 (by decide), hf1.1 17 (by decide)]; exact q10), (lFm.fr hFm mx0 kx0 hF1 hf1 (fun _ => rfl) (by decide) (by decide) (by decide) (by decide)), (by rw [fi 3 (by decide), hf1.1 4 (by decide)]; exact q3), (lRc.fr hRc mx0 kx0 hF1 hf1 (lRf2 hF1 (fun _ => rfl)) (by decide) (by decide) (by decide) (by decide) (by decide) (by decide) (by decide) (by decide) (by decide) (by rw [hf1.1 15 (by decide)]; exact Int.le_refl _) (by decide))⟩
  refine W.widen (k := cells + 10) (n := slots + 82) (by omega) (by omega) ?_
  refine lv_pop hx hb dL_law_545 rfl ?_
  refine lv_goto (tgt := 856) hx hb dL_law_546 (by decide) ?_
  exact kk _ _ _ _ _ _ _ _ _ _ hM1 hl
set_option maxHeartbeats 4000000 in
set_option maxRecDepth 100000 in
theorem law_case_10 {p : Program} {e : Env} {s : State} {m : MethodId} {below : List Frame} {meth : Method} {c : Code} (l : Launch) (hst : l.stackTraces = false) {b LL : Nat} {xs : Nat → Int32} {D : va_G} {cA cq : Nat → ClassId} {cO : ClassId} {ad av q : Nat → Nat} {sa sb x0 h6 qo : Nat} (E : lE p s m meth c b LL xs D cA cq cO ad av sa sb) {i : Int32} (hi : 0 ≤ i.toInt ∧ i.toInt + 6 ≤ (LL : Int)) {L : List Nat} {K : Nat → Nat} {I : Nat → Nat → Int32} {O : Nat → Nat → Option Nat} {F : Nat → Int32} {G : Nat → Nat → Int32} {f : Nat → Int64} {H : Heap} {locs : List Loc} {ls : Array Slot} (hM : lI s D cA cq cO q x0 h6 qo L K I O F G f H locs) (hl : lv_has ls 7 [(4, .int i), (3, .ref qo), (2, .ref h6), (1, .ref x0), (0, .ref b)]) {cells slots : Nat} (hc : cells + 10 ≤ 601024) (hs : slots + 82 ≤ 7293034)
    (kk : ∀ (L : List Nat) (K : Nat → Nat) (I : Nat → Nat → Int32) (O : Nat → Nat → Option Nat) (F : Nat → Int32) (G : Nat → Nat → Int32) (f : Nat → Int64) (H : Heap) (locs : List Loc) (ls : Array Slot), lI s D cA cq cO q x0 h6 qo L K I O F G f H locs → lv_has ls 7 [(4, .int i), (3, .ref qo), (2, .ref h6), (1, .ref x0), (0, .ref b)] → W p l e room_1 s m #[Value.ref b] below meth c H locs (cells + 10) (slots + 82) (lw_Z below #[Value.ref b] s) (F0 m 856 ls [])) : W p l e room_1 s m #[Value.ref b] below meth c H locs cells slots (lw_Z below #[Value.ref b] s) (F0 m 549 ls []) := by
  obtain ⟨⟨hx, hb, hr, hml, hown, hts0, hX, hbl, hlocks, hgv⟩, hLL, hKc, hKm, hKo, hV, hE, hN⟩ := id E
  have hts := fun w h => hts0 w (wl_in w h)
  have hA : ∀ x : Nat, s.heap.size ≤ x → lA s x := fun _ h => h
  have hbA : ¬ lA s b := Nat.not_le.mpr hbl
  obtain ⟨hP, hD, hS, hI, mx0, kx0, hm, r1, r2, r3, q1, q6, q8, hT, q10, hFm, q3, hRc⟩ := id hM
  obtain ⟨tp, fm_, htp, hmt, hkt, -, hz⟩ := id hT
  clear fm_
  obtain ⟨fm, rr, hfm, hrr, mfm, kfm, hgf⟩ := id hFm
  have q11 : (I x0 11).toInt = (F 31).toInt := by
    obtain ⟨_, _, _, _, _, _, q11, _⟩ := id hRc
    exact q11
  have a1 : vp_in (i + 1) LL := lw_in hi hLL 1 (by decide) (by omega)
  have a2 : vp_in (i + 2) LL := lw_in hi hLL 2 (by decide) (by omega)
  have a3 : vp_in (i + 3) LL := lw_in hi hLL 3 (by decide) (by omega)
  have a4 : vp_in (i + 4) LL := lw_in hi hLL 4 (by decide) (by omega)
  refine lv_aload_n hx hb dL_law_549 rfl (lv_at hl 3 rfl) ?_
  refine lv_aload_n hx hb dL_law_550 rfl (lv_at hl 4 rfl) ?_
  refine lv_iload hx hb dL_law_551 (lv_at hl 0 rfl) ?_
  refine lv_iconst (v := 1) hx hb dL_law_553 (by decide) ?_
  refine lv_iadd hx hb dL_law_554 ?_
  refine va_sld hx hb hX hbl hbA hS a1 dL_law_555 ?_
  refine lv_aload_n hx hb dL_law_556 rfl (lv_at hl 4 rfl) ?_
  refine lv_iload hx hb dL_law_557 (lv_at hl 0 rfl) ?_
  refine lv_iconst (v := 2) hx hb dL_law_559 (by decide) ?_
  refine lv_iadd hx hb dL_law_560 ?_
  refine va_sld hx hb hX hbl hbA hS a2 dL_law_561 ?_
  refine lv_aload_n hx hb dL_law_562 rfl (lv_at hl 4 rfl) ?_
  refine lv_iload hx hb dL_law_563 (lv_at hl 0 rfl) ?_
  refine lv_iconst (v := 3) hx hb dL_law_565 (by decide) ?_
  refine lv_iadd hx hb dL_law_566 ?_
  refine va_sld hx hb hX hbl hbA hS a3 dL_law_567 ?_
  refine lv_aload_n hx hb dL_law_568 rfl (lv_at hl 4 rfl) ?_
  refine lv_iload hx hb dL_law_569 (lv_at hl 0 rfl) ?_
  refine lv_iconst (v := 4) hx hb dL_law_571 (by decide) ?_
  refine lv_iadd hx hb dL_law_572 ?_
  refine va_sld hx hb hX hbl hbA hS a4 dL_law_573 ?_
  refine lx_Vi (nL := 7) (vs := [.int (xs (i + 1).toNatClampNeg), .int (xs (i + 2).toNatClampNeg), .int (xs (i + 3).toNatClampNeg), .int (xs (i + 4).toNatClampNeg)]) (rest := []) ⟨hx, hb, hml, hown, hts⟩ hKc hV hA hP hD hS mx0 kx0 (h4_X5_time l D cA ad av L K I O _ x0 (xs (i + 1).toNatClampNeg) (xs (i + 2).toNatClampNeg) (xs (i + 3).toNatClampNeg) (xs (i + 4).toNatClampNeg) hI mx0 kx0) (cwV 4 hts gl_X5_time rfl rfl rfl (by decide +kernel) ⟨Nat.le_of_ble_eq_true rfl, Nat.le_of_ble_eq_true rfl⟩) rfl hl.1 rfl (Nat.le_of_ble_eq_true rfl) dL_law_574 ⟨show cells + 0 ≤ 601024 from by omega, show slots + 0 ≤ 7293034 from by omega⟩ (fun r_1 L1 K1 I1 O1 H locs hI1 hF1 hp1 hP hD hS => ?_)
  try dsimp only at hp1
  refine lv_pop hx hb dL_law_577 rfl ?_
  refine lv_aload_n hx hb dL_law_578 rfl (lv_at hl 2 rfl) ?_
  refine lv_aload_n hx hb dL_law_579 rfl (lv_at hl 4 rfl) ?_
  refine lv_iload hx hb dL_law_580 (lv_at hl 0 rfl) ?_
  refine lv_iconst (v := 1) hx hb dL_law_582 (by decide) ?_
  refine lv_iadd hx hb dL_law_583 ?_
  refine va_sld hx hb hX hbl hbA hS a1 dL_law_584 ?_
  refine lv_aload_n hx hb dL_law_585 rfl (lv_at hl 4 rfl) ?_
  refine lv_iload hx hb dL_law_586 (lv_at hl 0 rfl) ?_
  refine lv_iconst (v := 2) hx hb dL_law_588 (by decide) ?_
  refine lv_iadd hx hb dL_law_589 ?_
  refine va_sld hx hb hX hbl hbA hS a2 dL_law_590 ?_
  refine lv_aload_n hx hb dL_law_591 rfl (lv_at hl 4 rfl) ?_
  refine lv_iload hx hb dL_law_592 (lv_at hl 0 rfl) ?_
  refine lv_iconst (v := 3) hx hb dL_law_594 (by decide) ?_
  refine lv_iadd hx hb dL_law_595 ?_
  refine va_sld hx hb hX hbl hbA hS a3 dL_law_596 ?_
  refine lv_aload_n hx hb dL_law_597 rfl (lv_at hl 4 rfl) ?_
  refine lv_iload hx hb dL_law_598 (lv_at hl 0 rfl) ?_
  refine lv_iconst (v := 4) hx hb dL_law_600 (by decide) ?_
  refine lv_iadd hx hb dL_law_601 ?_
  refine va_sld hx hb hX hbl hbA hS a4 dL_law_602 ?_
  refine lm_Vi (nL := 7) (vs := [.int (xs (i + 1).toNatClampNeg), .int (xs (i + 2).toNatClampNeg), .int (xs (i + 3).toNatClampNeg), .int (xs (i + 4).toNatClampNeg)]) (rest := []) ⟨hx, hb, hml, hown, hts⟩ hKm hA hP hD hS (g3_X6_time l D h6 q cq F G _ (xs (i + 1).toNatClampNeg) (xs (i + 2).toNatClampNeg) (xs (i + 3).toNatClampNeg) (xs (i + 4).toNatClampNeg) hm r3) (cwV 4 hts gl_X6_time rfl rfl rfl (by decide +kernel) ⟨Nat.le_of_ble_eq_true rfl, Nat.le_of_ble_eq_true rfl⟩) rfl hl.1 rfl (Nat.le_of_ble_eq_true rfl) dL_law_603 ⟨show cells + 0 ≤ 601024 from by omega, show slots + 0 ≤ 7293034 from by omega⟩ (fun r_2 F1 G1 H locs hm1 hf1 hp2 hP hD hS => ?_)
  try dsimp only at hp2
  obtain ⟨m1, k1, fi, fo⟩ := hF1 x0 mx0 List.not_mem_nil
  rw [kx0] at fi fo
  have hM1 : lI s D cA cq cO q x0 h6 qo L1 K1 I1 O1 F1 G1 f H locs := ⟨hP, hD, hS, hI1, m1, (k1.trans kx0), hm1, (r1.fr hf1 (by decide) (by decide)), (r2.fr hf1 (by decide) (by decide)), (r3.fr hf1 (by decide) (by decide) (by decide)), (by rw [fi 1 (by decide), hf1.1 1 (by decide)]; exact q1), (by rw [fi 6 (by decide), hf1.1 3 (by decide)]; exact q6), (by rw [fi 8 (by decide), hf1.1 15 (by decide)]; exact q8), (lTp.fr hT mx0 kx0 hF1 hf1 (by decide) (by decide) (by decide) (by decide) (by decide)), (by rw [fi 10 (by decide), hf1.1 17 (by decide)]; exact q10), (lFm.fr hFm mx0 kx0 hF1 hf1 (fun _ => rfl) (by decide) (by decide) (by decide) (by decide)), (by rw [fi 3 (by decide), hf1.1 4 (by decide)]; exact q3), (lRc.fr hRc mx0 kx0 hF1 hf1 (lRf2 hF1 (fun _ => rfl)) (by decide) (by decide) (by decide) (by decide) (by decide) (by decide) (by decide) (by decide) (by decide) (by rw [hf1.1 15 (by decide)]; exact Int.le_refl _) (by decide))⟩
  refine W.widen (k := cells + 10) (n := slots + 82) (by omega) (by omega) ?_
  refine lv_pop hx hb dL_law_606 rfl ?_
  refine lv_goto (tgt := 856) hx hb dL_law_607 (by decide) ?_
  exact kk _ _ _ _ _ _ _ _ _ _ hM1 hl
set_option maxHeartbeats 4000000 in
set_option maxRecDepth 100000 in
theorem law_case_11 {p : Program} {e : Env} {s : State} {m : MethodId} {below : List Frame} {meth : Method} {c : Code} (l : Launch) (hst : l.stackTraces = false) {b LL : Nat} {xs : Nat → Int32} {D : va_G} {cA cq : Nat → ClassId} {cO : ClassId} {ad av q : Nat → Nat} {sa sb x0 h6 qo : Nat} (E : lE p s m meth c b LL xs D cA cq cO ad av sa sb) {i : Int32} (hi : 0 ≤ i.toInt ∧ i.toInt + 6 ≤ (LL : Int)) {L : List Nat} {K : Nat → Nat} {I : Nat → Nat → Int32} {O : Nat → Nat → Option Nat} {F : Nat → Int32} {G : Nat → Nat → Int32} {f : Nat → Int64} {H : Heap} {locs : List Loc} {ls : Array Slot} (hM : lI s D cA cq cO q x0 h6 qo L K I O F G f H locs) (hl : lv_has ls 7 [(4, .int i), (3, .ref qo), (2, .ref h6), (1, .ref x0), (0, .ref b)]) {cells slots : Nat} (hc : cells + 10 ≤ 601024) (hs : slots + 82 ≤ 7293034)
    (kk : ∀ (L : List Nat) (K : Nat → Nat) (I : Nat → Nat → Int32) (O : Nat → Nat → Option Nat) (F : Nat → Int32) (G : Nat → Nat → Int32) (f : Nat → Int64) (H : Heap) (locs : List Loc) (ls : Array Slot), lI s D cA cq cO q x0 h6 qo L K I O F G f H locs → lv_has ls 7 [(4, .int i), (3, .ref qo), (2, .ref h6), (1, .ref x0), (0, .ref b)] → W p l e room_1 s m #[Value.ref b] below meth c H locs (cells + 10) (slots + 82) (lw_Z below #[Value.ref b] s) (F0 m 856 ls [])) : W p l e room_1 s m #[Value.ref b] below meth c H locs cells slots (lw_Z below #[Value.ref b] s) (F0 m 610 ls []) := by
  obtain ⟨⟨hx, hb, hr, hml, hown, hts0, hX, hbl, hlocks, hgv⟩, hLL, hKc, hKm, hKo, hV, hE, hN⟩ := id E
  have hts := fun w h => hts0 w (wl_in w h)
  have hA : ∀ x : Nat, s.heap.size ≤ x → lA s x := fun _ h => h
  have hbA : ¬ lA s b := Nat.not_le.mpr hbl
  obtain ⟨hP, hD, hS, hI, mx0, kx0, hm, r1, r2, r3, q1, q6, q8, hT, q10, hFm, q3, hRc⟩ := id hM
  obtain ⟨tp, fm_, htp, hmt, hkt, -, hz⟩ := id hT
  clear fm_
  obtain ⟨fm, rr, hfm, hrr, mfm, kfm, hgf⟩ := id hFm
  have q11 : (I x0 11).toInt = (F 31).toInt := by
    obtain ⟨_, _, _, _, _, _, q11, _⟩ := id hRc
    exact q11
  have a1 : vp_in (i + 1) LL := lw_in hi hLL 1 (by decide) (by omega)
  have a2 : vp_in (i + 2) LL := lw_in hi hLL 2 (by decide) (by omega)
  have a3 : vp_in (i + 3) LL := lw_in hi hLL 3 (by decide) (by omega)
  have a4 : vp_in (i + 4) LL := lw_in hi hLL 4 (by decide) (by omega)
  refine lv_aload_n hx hb dL_law_610 rfl (lv_at hl 3 rfl) ?_
  refine lv_aload_n hx hb dL_law_611 rfl (lv_at hl 4 rfl) ?_
  refine lv_iload hx hb dL_law_612 (lv_at hl 0 rfl) ?_
  refine lv_iconst (v := 1) hx hb dL_law_614 (by decide) ?_
  refine lv_iadd hx hb dL_law_615 ?_
  refine va_sld hx hb hX hbl hbA hS a1 dL_law_616 ?_
  refine lv_aload_n hx hb dL_law_617 rfl (lv_at hl 4 rfl) ?_
  refine lv_iload hx hb dL_law_618 (lv_at hl 0 rfl) ?_
  refine lv_iconst (v := 2) hx hb dL_law_620 (by decide) ?_
  refine lv_iadd hx hb dL_law_621 ?_
  refine va_sld hx hb hX hbl hbA hS a2 dL_law_622 ?_
  refine lv_aload_n hx hb dL_law_623 rfl (lv_at hl 4 rfl) ?_
  refine lv_iload hx hb dL_law_624 (lv_at hl 0 rfl) ?_
  refine lv_iconst (v := 3) hx hb dL_law_626 (by decide) ?_
  refine lv_iadd hx hb dL_law_627 ?_
  refine va_sld hx hb hX hbl hbA hS a3 dL_law_628 ?_
  refine lv_aload_n hx hb dL_law_629 rfl (lv_at hl 4 rfl) ?_
  refine lv_iload hx hb dL_law_630 (lv_at hl 0 rfl) ?_
  refine lv_iconst (v := 4) hx hb dL_law_632 (by decide) ?_
  refine lv_iadd hx hb dL_law_633 ?_
  refine va_sld hx hb hX hbl hbA hS a4 dL_law_634 ?_
  refine lx_Vi (nL := 7) (vs := [.int (xs (i + 1).toNatClampNeg), .int (xs (i + 2).toNatClampNeg), .int (xs (i + 3).toNatClampNeg), .int (xs (i + 4).toNatClampNeg)]) (rest := []) ⟨hx, hb, hml, hown, hts⟩ hKc hV hA hP hD hS mx0 kx0 (h4_X5_split l D cA ad av L K I O _ x0 (xs (i + 1).toNatClampNeg) (xs (i + 2).toNatClampNeg) (xs (i + 3).toNatClampNeg) (xs (i + 4).toNatClampNeg) hI mx0 kx0) (cwV 4 hts gl_X5_split rfl rfl rfl (by decide +kernel) ⟨Nat.le_of_ble_eq_true rfl, Nat.le_of_ble_eq_true rfl⟩) rfl hl.1 rfl (Nat.le_of_ble_eq_true rfl) dL_law_635 ⟨show cells + 0 ≤ 601024 from by omega, show slots + 0 ≤ 7293034 from by omega⟩ (fun r_1 L1 K1 I1 O1 H locs hI1 hF1 hp1 hP hD hS => ?_)
  try dsimp only at hp1
  refine lv_pop hx hb dL_law_638 rfl ?_
  refine lv_aload_n hx hb dL_law_639 rfl (lv_at hl 2 rfl) ?_
  refine lv_aload_n hx hb dL_law_640 rfl (lv_at hl 4 rfl) ?_
  refine lv_iload hx hb dL_law_641 (lv_at hl 0 rfl) ?_
  refine lv_iconst (v := 1) hx hb dL_law_643 (by decide) ?_
  refine lv_iadd hx hb dL_law_644 ?_
  refine va_sld hx hb hX hbl hbA hS a1 dL_law_645 ?_
  refine lv_aload_n hx hb dL_law_646 rfl (lv_at hl 4 rfl) ?_
  refine lv_iload hx hb dL_law_647 (lv_at hl 0 rfl) ?_
  refine lv_iconst (v := 2) hx hb dL_law_649 (by decide) ?_
  refine lv_iadd hx hb dL_law_650 ?_
  refine va_sld hx hb hX hbl hbA hS a2 dL_law_651 ?_
  refine lv_aload_n hx hb dL_law_652 rfl (lv_at hl 4 rfl) ?_
  refine lv_iload hx hb dL_law_653 (lv_at hl 0 rfl) ?_
  refine lv_iconst (v := 3) hx hb dL_law_655 (by decide) ?_
  refine lv_iadd hx hb dL_law_656 ?_
  refine va_sld hx hb hX hbl hbA hS a3 dL_law_657 ?_
  refine lv_aload_n hx hb dL_law_658 rfl (lv_at hl 4 rfl) ?_
  refine lv_iload hx hb dL_law_659 (lv_at hl 0 rfl) ?_
  refine lv_iconst (v := 4) hx hb dL_law_661 (by decide) ?_
  refine lv_iadd hx hb dL_law_662 ?_
  refine va_sld hx hb hX hbl hbA hS a4 dL_law_663 ?_
  refine lm_Vi (nL := 7) (vs := [.int (xs (i + 1).toNatClampNeg), .int (xs (i + 2).toNatClampNeg), .int (xs (i + 3).toNatClampNeg), .int (xs (i + 4).toNatClampNeg)]) (rest := []) ⟨hx, hb, hml, hown, hts⟩ hKm hA hP hD hS (g3_X6_split l D h6 q cq F G _ (xs (i + 1).toNatClampNeg) (xs (i + 2).toNatClampNeg) (xs (i + 3).toNatClampNeg) (xs (i + 4).toNatClampNeg) hm r3) (cwV 4 hts gl_X6_split rfl rfl rfl (by decide +kernel) ⟨Nat.le_of_ble_eq_true rfl, Nat.le_of_ble_eq_true rfl⟩) rfl hl.1 rfl (Nat.le_of_ble_eq_true rfl) dL_law_664 ⟨show cells + 0 ≤ 601024 from by omega, show slots + 0 ≤ 7293034 from by omega⟩ (fun r_2 F1 G1 H locs hm1 hf1 hp2 hP hD hS => ?_)
  try dsimp only at hp2
  obtain ⟨m1, k1, fi, fo⟩ := hF1 x0 mx0 List.not_mem_nil
  rw [kx0] at fi fo
  have hM1 : lI s D cA cq cO q x0 h6 qo L1 K1 I1 O1 F1 G1 f H locs := ⟨hP, hD, hS, hI1, m1, (k1.trans kx0), hm1, (r1.fr hf1 (by decide) (by decide)), (r2.fr hf1 (by decide) (by decide)), (r3.fr hf1 (by decide) (by decide) (by decide)), (by rw [fi 1 (by decide), hf1.1 1 (by decide)]; exact q1), (by rw [fi 6 (by decide), hf1.1 3 (by decide)]; exact q6), (by rw [fi 8 (by decide), hf1.1 15 (by decide)]; exact q8), (lTp.fr hT mx0 kx0 hF1 hf1 (by decide) (by decide) (by decide) (by decide) (by decide)), (by rw [fi 10 (by decide), hf1.1 17 (by decide)]; exact q10), (lFm.fr hFm mx0 kx0 hF1 hf1 (fun _ => rfl) (by decide) (by decide) (by decide) (by decide)), (by rw [fi 3 (by decide), hf1.1 4 (by decide)]; exact q3), (lRc.fr hRc mx0 kx0 hF1 hf1 (lRf2 hF1 (fun _ => rfl)) (by decide) (by decide) (by decide) (by decide) (by decide) (by decide) (by decide) (by decide) (by decide) (by rw [hf1.1 15 (by decide)]; exact Int.le_refl _) (by decide))⟩
  refine W.widen (k := cells + 10) (n := slots + 82) (by omega) (by omega) ?_
  refine lv_pop hx hb dL_law_667 rfl ?_
  refine lv_goto (tgt := 856) hx hb dL_law_668 (by decide) ?_
  exact kk _ _ _ _ _ _ _ _ _ _ hM1 hl
set_option maxHeartbeats 4000000 in
set_option maxRecDepth 100000 in
theorem law_case_12 {p : Program} {e : Env} {s : State} {m : MethodId} {below : List Frame} {meth : Method} {c : Code} (l : Launch) (hst : l.stackTraces = false) {b LL : Nat} {xs : Nat → Int32} {D : va_G} {cA cq : Nat → ClassId} {cO : ClassId} {ad av q : Nat → Nat} {sa sb x0 h6 qo : Nat} (E : lE p s m meth c b LL xs D cA cq cO ad av sa sb) {i : Int32} (hi : 0 ≤ i.toInt ∧ i.toInt + 6 ≤ (LL : Int)) {L : List Nat} {K : Nat → Nat} {I : Nat → Nat → Int32} {O : Nat → Nat → Option Nat} {F : Nat → Int32} {G : Nat → Nat → Int32} {f : Nat → Int64} {H : Heap} {locs : List Loc} {ls : Array Slot} (hM : lI s D cA cq cO q x0 h6 qo L K I O F G f H locs) (hl : lv_has ls 7 [(4, .int i), (3, .ref qo), (2, .ref h6), (1, .ref x0), (0, .ref b)]) {cells slots : Nat} (hc : cells + 10 ≤ 601024) (hs : slots + 82 ≤ 7293034)
    (kk : ∀ (L : List Nat) (K : Nat → Nat) (I : Nat → Nat → Int32) (O : Nat → Nat → Option Nat) (F : Nat → Int32) (G : Nat → Nat → Int32) (f : Nat → Int64) (H : Heap) (locs : List Loc) (ls : Array Slot), lI s D cA cq cO q x0 h6 qo L K I O F G f H locs → lv_has ls 7 [(4, .int i), (3, .ref qo), (2, .ref h6), (1, .ref x0), (0, .ref b)] → W p l e room_1 s m #[Value.ref b] below meth c H locs (cells + 10) (slots + 82) (lw_Z below #[Value.ref b] s) (F0 m 856 ls [])) : W p l e room_1 s m #[Value.ref b] below meth c H locs cells slots (lw_Z below #[Value.ref b] s) (F0 m 671 ls []) := by
  obtain ⟨⟨hx, hb, hr, hml, hown, hts0, hX, hbl, hlocks, hgv⟩, hLL, hKc, hKm, hKo, hV, hE, hN⟩ := id E
  have hts := fun w h => hts0 w (wl_in w h)
  have hA : ∀ x : Nat, s.heap.size ≤ x → lA s x := fun _ h => h
  have hbA : ¬ lA s b := Nat.not_le.mpr hbl
  obtain ⟨hP, hD, hS, hI, mx0, kx0, hm, r1, r2, r3, q1, q6, q8, hT, q10, hFm, q3, hRc⟩ := id hM
  obtain ⟨tp, fm_, htp, hmt, hkt, -, hz⟩ := id hT
  clear fm_
  obtain ⟨fm, rr, hfm, hrr, mfm, kfm, hgf⟩ := id hFm
  have q11 : (I x0 11).toInt = (F 31).toInt := by
    obtain ⟨_, _, _, _, _, _, q11, _⟩ := id hRc
    exact q11
  have a1 : vp_in (i + 1) LL := lw_in hi hLL 1 (by decide) (by omega)
  have a2 : vp_in (i + 2) LL := lw_in hi hLL 2 (by decide) (by omega)
  have a3 : vp_in (i + 3) LL := lw_in hi hLL 3 (by decide) (by omega)
  refine lv_aload_n hx hb dL_law_671 rfl (lv_at hl 3 rfl) ?_
  refine lv_aload_n hx hb dL_law_672 rfl (lv_at hl 4 rfl) ?_
  refine lv_iload hx hb dL_law_673 (lv_at hl 0 rfl) ?_
  refine lv_iconst (v := 1) hx hb dL_law_675 (by decide) ?_
  refine lv_iadd hx hb dL_law_676 ?_
  refine va_sld hx hb hX hbl hbA hS a1 dL_law_677 ?_
  refine lv_aload_n hx hb dL_law_678 rfl (lv_at hl 4 rfl) ?_
  refine lv_iload hx hb dL_law_679 (lv_at hl 0 rfl) ?_
  refine lv_iconst (v := 2) hx hb dL_law_681 (by decide) ?_
  refine lv_iadd hx hb dL_law_682 ?_
  refine va_sld hx hb hX hbl hbA hS a2 dL_law_683 ?_
  refine lv_aload_n hx hb dL_law_684 rfl (lv_at hl 4 rfl) ?_
  refine lv_iload hx hb dL_law_685 (lv_at hl 0 rfl) ?_
  refine lv_iconst (v := 3) hx hb dL_law_687 (by decide) ?_
  refine lv_iadd hx hb dL_law_688 ?_
  refine va_sld hx hb hX hbl hbA hS a3 dL_law_689 ?_
  refine lx_Vi (nL := 7) (vs := [.int (xs (i + 1).toNatClampNeg), .int (xs (i + 2).toNatClampNeg), .int (xs (i + 3).toNatClampNeg)]) (rest := []) ⟨hx, hb, hml, hown, hts⟩ hKc hV hA hP hD hS mx0 kx0 (h4_X5_order l D cA ad av L K I O _ x0 (xs (i + 1).toNatClampNeg) (xs (i + 2).toNatClampNeg) (xs (i + 3).toNatClampNeg) hI mx0 kx0) (cwV 3 hts gl_X5_order rfl rfl rfl (by decide +kernel) ⟨Nat.le_of_ble_eq_true rfl, Nat.le_of_ble_eq_true rfl⟩) rfl hl.1 rfl (Nat.le_of_ble_eq_true rfl) dL_law_690 ⟨show cells + 0 ≤ 601024 from by omega, show slots + 0 ≤ 7293034 from by omega⟩ (fun r_1 L1 K1 I1 O1 H locs hI1 hF1 hp1 hP hD hS => ?_)
  try dsimp only at hp1
  refine lv_pop hx hb dL_law_693 rfl ?_
  refine lv_aload_n hx hb dL_law_694 rfl (lv_at hl 2 rfl) ?_
  refine lv_aload_n hx hb dL_law_695 rfl (lv_at hl 4 rfl) ?_
  refine lv_iload hx hb dL_law_696 (lv_at hl 0 rfl) ?_
  refine lv_iconst (v := 1) hx hb dL_law_698 (by decide) ?_
  refine lv_iadd hx hb dL_law_699 ?_
  refine va_sld hx hb hX hbl hbA hS a1 dL_law_700 ?_
  refine lv_aload_n hx hb dL_law_701 rfl (lv_at hl 4 rfl) ?_
  refine lv_iload hx hb dL_law_702 (lv_at hl 0 rfl) ?_
  refine lv_iconst (v := 2) hx hb dL_law_704 (by decide) ?_
  refine lv_iadd hx hb dL_law_705 ?_
  refine va_sld hx hb hX hbl hbA hS a2 dL_law_706 ?_
  refine lv_aload_n hx hb dL_law_707 rfl (lv_at hl 4 rfl) ?_
  refine lv_iload hx hb dL_law_708 (lv_at hl 0 rfl) ?_
  refine lv_iconst (v := 3) hx hb dL_law_710 (by decide) ?_
  refine lv_iadd hx hb dL_law_711 ?_
  refine va_sld hx hb hX hbl hbA hS a3 dL_law_712 ?_
  refine lm_Vi (nL := 7) (vs := [.int (xs (i + 1).toNatClampNeg), .int (xs (i + 2).toNatClampNeg), .int (xs (i + 3).toNatClampNeg)]) (rest := []) ⟨hx, hb, hml, hown, hts⟩ hKm hA hP hD hS (g3_X6_order l D h6 q cq F G _ (xs (i + 1).toNatClampNeg) (xs (i + 2).toNatClampNeg) (xs (i + 3).toNatClampNeg) hm r3) (cwV 3 hts gl_X6_order rfl rfl rfl (by decide +kernel) ⟨Nat.le_of_ble_eq_true rfl, Nat.le_of_ble_eq_true rfl⟩) rfl hl.1 rfl (Nat.le_of_ble_eq_true rfl) dL_law_713 ⟨show cells + 0 ≤ 601024 from by omega, show slots + 0 ≤ 7293034 from by omega⟩ (fun r_2 F1 G1 H locs hm1 hf1 hp2 hP hD hS => ?_)
  try dsimp only at hp2
  obtain ⟨m1, k1, fi, fo⟩ := hF1 x0 mx0 List.not_mem_nil
  rw [kx0] at fi fo
  have hM1 : lI s D cA cq cO q x0 h6 qo L1 K1 I1 O1 F1 G1 f H locs := ⟨hP, hD, hS, hI1, m1, (k1.trans kx0), hm1, (r1.fr hf1 (by decide) (by decide)), (r2.fr hf1 (by decide) (by decide)), (r3.fr hf1 (by decide) (by decide) (by decide)), (by rw [fi 1 (by decide), hf1.1 1 (by decide)]; exact q1), (by rw [fi 6 (by decide), hf1.1 3 (by decide)]; exact q6), (by rw [fi 8 (by decide), hf1.1 15 (by decide)]; exact q8), (lTp.fr hT mx0 kx0 hF1 hf1 (by decide) (by decide) (by decide) (by decide) (by decide)), (by rw [fi 10 (by decide), hf1.1 17 (by decide)]; exact q10), (lFm.fr hFm mx0 kx0 hF1 hf1 (fun _ => rfl) (by decide) (by decide) (by decide) (by decide)), (by rw [fi 3 (by decide), hf1.1 4 (by decide)]; exact q3), (lRc.fr hRc mx0 kx0 hF1 hf1 (lRf2 hF1 (fun _ => rfl)) (by decide) (by decide) (by decide) (by decide) (by decide) (by decide) (by decide) (by decide) (by decide) (by rw [hf1.1 15 (by decide)]; exact Int.le_refl _) (by decide))⟩
  refine W.widen (k := cells + 10) (n := slots + 82) (by omega) (by omega) ?_
  refine lv_pop hx hb dL_law_716 rfl ?_
  refine lv_goto (tgt := 856) hx hb dL_law_717 (by decide) ?_
  exact kk _ _ _ _ _ _ _ _ _ _ hM1 hl
set_option maxHeartbeats 4000000 in
set_option maxRecDepth 100000 in
theorem law_case_13 {p : Program} {e : Env} {s : State} {m : MethodId} {below : List Frame} {meth : Method} {c : Code} (l : Launch) (hst : l.stackTraces = false) {b LL : Nat} {xs : Nat → Int32} {D : va_G} {cA cq : Nat → ClassId} {cO : ClassId} {ad av q : Nat → Nat} {sa sb x0 h6 qo : Nat} (E : lE p s m meth c b LL xs D cA cq cO ad av sa sb) {i : Int32} (hi : 0 ≤ i.toInt ∧ i.toInt + 6 ≤ (LL : Int)) {L : List Nat} {K : Nat → Nat} {I : Nat → Nat → Int32} {O : Nat → Nat → Option Nat} {F : Nat → Int32} {G : Nat → Nat → Int32} {f : Nat → Int64} {H : Heap} {locs : List Loc} {ls : Array Slot} (hM : lI s D cA cq cO q x0 h6 qo L K I O F G f H locs) (hl : lv_has ls 7 [(4, .int i), (3, .ref qo), (2, .ref h6), (1, .ref x0), (0, .ref b)]) {cells slots : Nat} (hc : cells + 10 ≤ 601024) (hs : slots + 82 ≤ 7293034)
    (kk : ∀ (L : List Nat) (K : Nat → Nat) (I : Nat → Nat → Int32) (O : Nat → Nat → Option Nat) (F : Nat → Int32) (G : Nat → Nat → Int32) (f : Nat → Int64) (H : Heap) (locs : List Loc) (ls : Array Slot), lI s D cA cq cO q x0 h6 qo L K I O F G f H locs → lv_has ls 7 [(4, .int i), (3, .ref qo), (2, .ref h6), (1, .ref x0), (0, .ref b)] → W p l e room_1 s m #[Value.ref b] below meth c H locs (cells + 10) (slots + 82) (lw_Z below #[Value.ref b] s) (F0 m 856 ls [])) : W p l e room_1 s m #[Value.ref b] below meth c H locs cells slots (lw_Z below #[Value.ref b] s) (F0 m 720 ls []) := by
  obtain ⟨⟨hx, hb, hr, hml, hown, hts0, hX, hbl, hlocks, hgv⟩, hLL, hKc, hKm, hKo, hV, hE, hN⟩ := id E
  have hts := fun w h => hts0 w (wl_in w h)
  have hA : ∀ x : Nat, s.heap.size ≤ x → lA s x := fun _ h => h
  have hbA : ¬ lA s b := Nat.not_le.mpr hbl
  obtain ⟨hP, hD, hS, hI, mx0, kx0, hm, r1, r2, r3, q1, q6, q8, hT, q10, hFm, q3, hRc⟩ := id hM
  obtain ⟨tp, fm_, htp, hmt, hkt, -, hz⟩ := id hT
  clear fm_
  obtain ⟨fm, rr, hfm, hrr, mfm, kfm, hgf⟩ := id hFm
  have q11 : (I x0 11).toInt = (F 31).toInt := by
    obtain ⟨_, _, _, _, _, _, q11, _⟩ := id hRc
    exact q11
  have a1 : vp_in (i + 1) LL := lw_in hi hLL 1 (by decide) (by omega)
  have a2 : vp_in (i + 2) LL := lw_in hi hLL 2 (by decide) (by omega)
  refine lv_aload_n hx hb dL_law_720 rfl (lv_at hl 3 rfl) ?_
  refine lv_aload_n hx hb dL_law_721 rfl (lv_at hl 4 rfl) ?_
  refine lv_iload hx hb dL_law_722 (lv_at hl 0 rfl) ?_
  refine lv_iconst (v := 1) hx hb dL_law_724 (by decide) ?_
  refine lv_iadd hx hb dL_law_725 ?_
  refine va_sld hx hb hX hbl hbA hS a1 dL_law_726 ?_
  refine lv_aload_n hx hb dL_law_727 rfl (lv_at hl 4 rfl) ?_
  refine lv_iload hx hb dL_law_728 (lv_at hl 0 rfl) ?_
  refine lv_iconst (v := 2) hx hb dL_law_730 (by decide) ?_
  refine lv_iadd hx hb dL_law_731 ?_
  refine va_sld hx hb hX hbl hbA hS a2 dL_law_732 ?_
  refine lx_Vi (nL := 7) (vs := [.int (xs (i + 1).toNatClampNeg), .int (xs (i + 2).toNatClampNeg)]) (rest := []) ⟨hx, hb, hml, hown, hts⟩ hKc hV hA hP hD hS mx0 kx0 (h4_X5_points l D cA ad av L K I O _ x0 (xs (i + 1).toNatClampNeg) (xs (i + 2).toNatClampNeg) hI mx0 kx0) (cwV 2 hts gl_X5_points rfl rfl rfl (by decide +kernel) ⟨Nat.le_of_ble_eq_true rfl, Nat.le_of_ble_eq_true rfl⟩) rfl hl.1 rfl (Nat.le_of_ble_eq_true rfl) dL_law_733 ⟨show cells + 0 ≤ 601024 from by omega, show slots + 0 ≤ 7293034 from by omega⟩ (fun r_1 L1 K1 I1 O1 H locs hI1 hF1 hp1 hP hD hS => ?_)
  try dsimp only at hp1
  refine lv_pop hx hb dL_law_736 rfl ?_
  refine lv_aload_n hx hb dL_law_737 rfl (lv_at hl 2 rfl) ?_
  refine lv_aload_n hx hb dL_law_738 rfl (lv_at hl 4 rfl) ?_
  refine lv_iload hx hb dL_law_739 (lv_at hl 0 rfl) ?_
  refine lv_iconst (v := 1) hx hb dL_law_741 (by decide) ?_
  refine lv_iadd hx hb dL_law_742 ?_
  refine va_sld hx hb hX hbl hbA hS a1 dL_law_743 ?_
  refine lv_aload_n hx hb dL_law_744 rfl (lv_at hl 4 rfl) ?_
  refine lv_iload hx hb dL_law_745 (lv_at hl 0 rfl) ?_
  refine lv_iconst (v := 2) hx hb dL_law_747 (by decide) ?_
  refine lv_iadd hx hb dL_law_748 ?_
  refine va_sld hx hb hX hbl hbA hS a2 dL_law_749 ?_
  refine lm_Vi (nL := 7) (vs := [.int (xs (i + 1).toNatClampNeg), .int (xs (i + 2).toNatClampNeg)]) (rest := []) ⟨hx, hb, hml, hown, hts⟩ hKm hA hP hD hS (g3_X6_points l D h6 q cq F G _ (xs (i + 1).toNatClampNeg) (xs (i + 2).toNatClampNeg) hm r3) (cwV 2 hts gl_X6_points rfl rfl rfl (by decide +kernel) ⟨Nat.le_of_ble_eq_true rfl, Nat.le_of_ble_eq_true rfl⟩) rfl hl.1 rfl (Nat.le_of_ble_eq_true rfl) dL_law_750 ⟨show cells + 0 ≤ 601024 from by omega, show slots + 0 ≤ 7293034 from by omega⟩ (fun r_2 F1 G1 H locs hm1 hf1 hp2 hP hD hS => ?_)
  try dsimp only at hp2
  obtain ⟨m1, k1, fi, fo⟩ := hF1 x0 mx0 List.not_mem_nil
  rw [kx0] at fi fo
  have hM1 : lI s D cA cq cO q x0 h6 qo L1 K1 I1 O1 F1 G1 f H locs := ⟨hP, hD, hS, hI1, m1, (k1.trans kx0), hm1, (r1.fr hf1 (by decide) (by decide)), (r2.fr hf1 (by decide) (by decide)), (r3.fr hf1 (by decide) (by decide) (by decide)), (by rw [fi 1 (by decide), hf1.1 1 (by decide)]; exact q1), (by rw [fi 6 (by decide), hf1.1 3 (by decide)]; exact q6), (by rw [fi 8 (by decide), hf1.1 15 (by decide)]; exact q8), (lTp.fr hT mx0 kx0 hF1 hf1 (by decide) (by decide) (by decide) (by decide) (by decide)), (by rw [fi 10 (by decide), hf1.1 17 (by decide)]; exact q10), (lFm.fr hFm mx0 kx0 hF1 hf1 (fun _ => rfl) (by decide) (by decide) (by decide) (by decide)), (by rw [fi 3 (by decide), hf1.1 4 (by decide)]; exact q3), (lRc.fr hRc mx0 kx0 hF1 hf1 (lRf2 hF1 (fun _ => rfl)) (by decide) (by decide) (by decide) (by decide) (by decide) (by decide) (by decide) (by decide) (by decide) (by rw [hf1.1 15 (by decide)]; exact Int.le_refl _) (by decide))⟩
  refine W.widen (k := cells + 10) (n := slots + 82) (by omega) (by omega) ?_
  refine lv_pop hx hb dL_law_753 rfl ?_
  refine lv_goto (tgt := 856) hx hb dL_law_754 (by decide) ?_
  exact kk _ _ _ _ _ _ _ _ _ _ hM1 hl
set_option maxHeartbeats 4000000 in
set_option maxRecDepth 100000 in
theorem law_case_14 {p : Program} {e : Env} {s : State} {m : MethodId} {below : List Frame} {meth : Method} {c : Code} (l : Launch) (hst : l.stackTraces = false) {b LL : Nat} {xs : Nat → Int32} {D : va_G} {cA cq : Nat → ClassId} {cO : ClassId} {ad av q : Nat → Nat} {sa sb x0 h6 qo : Nat} (E : lE p s m meth c b LL xs D cA cq cO ad av sa sb) {i : Int32} (hi : 0 ≤ i.toInt ∧ i.toInt + 6 ≤ (LL : Int)) {L : List Nat} {K : Nat → Nat} {I : Nat → Nat → Int32} {O : Nat → Nat → Option Nat} {F : Nat → Int32} {G : Nat → Nat → Int32} {f : Nat → Int64} {H : Heap} {locs : List Loc} {ls : Array Slot} (hM : lI s D cA cq cO q x0 h6 qo L K I O F G f H locs) (hl : lv_has ls 7 [(4, .int i), (3, .ref qo), (2, .ref h6), (1, .ref x0), (0, .ref b)]) {cells slots : Nat} (hc : cells + 10 ≤ 601024) (hs : slots + 82 ≤ 7293034)
    (kk : ∀ (L : List Nat) (K : Nat → Nat) (I : Nat → Nat → Int32) (O : Nat → Nat → Option Nat) (F : Nat → Int32) (G : Nat → Nat → Int32) (f : Nat → Int64) (H : Heap) (locs : List Loc) (ls : Array Slot), lI s D cA cq cO q x0 h6 qo L K I O F G f H locs → lv_has ls 7 [(4, .int i), (3, .ref qo), (2, .ref h6), (1, .ref x0), (0, .ref b)] → W p l e room_1 s m #[Value.ref b] below meth c H locs (cells + 10) (slots + 82) (lw_Z below #[Value.ref b] s) (F0 m 856 ls [])) : W p l e room_1 s m #[Value.ref b] below meth c H locs cells slots (lw_Z below #[Value.ref b] s) (F0 m 757 ls []) := by
  obtain ⟨⟨hx, hb, hr, hml, hown, hts0, hX, hbl, hlocks, hgv⟩, hLL, hKc, hKm, hKo, hV, hE, hN⟩ := id E
  have hts := fun w h => hts0 w (wl_in w h)
  have hA : ∀ x : Nat, s.heap.size ≤ x → lA s x := fun _ h => h
  have hbA : ¬ lA s b := Nat.not_le.mpr hbl
  obtain ⟨hP, hD, hS, hI, mx0, kx0, hm, r1, r2, r3, q1, q6, q8, hT, q10, hFm, q3, hRc⟩ := id hM
  obtain ⟨tp, fm_, htp, hmt, hkt, -, hz⟩ := id hT
  clear fm_
  obtain ⟨fm, rr, hfm, hrr, mfm, kfm, hgf⟩ := id hFm
  have q11 : (I x0 11).toInt = (F 31).toInt := by
    obtain ⟨_, _, _, _, _, _, q11, _⟩ := id hRc
    exact q11
  have a1 : vp_in (i + 1) LL := lw_in hi hLL 1 (by decide) (by omega)
  have a2 : vp_in (i + 2) LL := lw_in hi hLL 2 (by decide) (by omega)
  refine lv_aload_n hx hb dL_law_757 rfl (lv_at hl 3 rfl) ?_
  refine lv_aload_n hx hb dL_law_758 rfl (lv_at hl 4 rfl) ?_
  refine lv_iload hx hb dL_law_759 (lv_at hl 0 rfl) ?_
  refine lv_iconst (v := 1) hx hb dL_law_761 (by decide) ?_
  refine lv_iadd hx hb dL_law_762 ?_
  refine va_sld hx hb hX hbl hbA hS a1 dL_law_763 ?_
  refine lv_aload_n hx hb dL_law_764 rfl (lv_at hl 4 rfl) ?_
  refine lv_iload hx hb dL_law_765 (lv_at hl 0 rfl) ?_
  refine lv_iconst (v := 2) hx hb dL_law_767 (by decide) ?_
  refine lv_iadd hx hb dL_law_768 ?_
  refine va_sld hx hb hX hbl hbA hS a2 dL_law_769 ?_
  refine lx_Vi (nL := 7) (vs := [.int (xs (i + 1).toNatClampNeg), .int (xs (i + 2).toNatClampNeg)]) (rest := []) ⟨hx, hb, hml, hown, hts⟩ hKc hV hA hP hD hS mx0 kx0 (h4_X5_standing l D cA ad av L K I O _ x0 (xs (i + 1).toNatClampNeg) (xs (i + 2).toNatClampNeg) hI mx0 kx0) (cwV 2 hts gl_X5_standing rfl rfl rfl (by decide +kernel) ⟨Nat.le_of_ble_eq_true rfl, Nat.le_of_ble_eq_true rfl⟩) rfl hl.1 rfl (Nat.le_of_ble_eq_true rfl) dL_law_770 ⟨show cells + 0 ≤ 601024 from by omega, show slots + 0 ≤ 7293034 from by omega⟩ (fun r_1 L1 K1 I1 O1 H locs hI1 hF1 hp1 hP hD hS => ?_)
  try dsimp only at hp1
  refine lv_pop hx hb dL_law_773 rfl ?_
  refine lv_aload_n hx hb dL_law_774 rfl (lv_at hl 2 rfl) ?_
  refine lv_aload_n hx hb dL_law_775 rfl (lv_at hl 4 rfl) ?_
  refine lv_iload hx hb dL_law_776 (lv_at hl 0 rfl) ?_
  refine lv_iconst (v := 1) hx hb dL_law_778 (by decide) ?_
  refine lv_iadd hx hb dL_law_779 ?_
  refine va_sld hx hb hX hbl hbA hS a1 dL_law_780 ?_
  refine lv_aload_n hx hb dL_law_781 rfl (lv_at hl 4 rfl) ?_
  refine lv_iload hx hb dL_law_782 (lv_at hl 0 rfl) ?_
  refine lv_iconst (v := 2) hx hb dL_law_784 (by decide) ?_
  refine lv_iadd hx hb dL_law_785 ?_
  refine va_sld hx hb hX hbl hbA hS a2 dL_law_786 ?_
  refine lm_Vi (nL := 7) (vs := [.int (xs (i + 1).toNatClampNeg), .int (xs (i + 2).toNatClampNeg)]) (rest := []) ⟨hx, hb, hml, hown, hts⟩ hKm hA hP hD hS (g3_X6_standing l D h6 q cq F G _ (xs (i + 1).toNatClampNeg) (xs (i + 2).toNatClampNeg) hm r3) (cwV 2 hts gl_X6_standing rfl rfl rfl (by decide +kernel) ⟨Nat.le_of_ble_eq_true rfl, Nat.le_of_ble_eq_true rfl⟩) rfl hl.1 rfl (Nat.le_of_ble_eq_true rfl) dL_law_787 ⟨show cells + 0 ≤ 601024 from by omega, show slots + 0 ≤ 7293034 from by omega⟩ (fun r_2 F1 G1 H locs hm1 hf1 hp2 hP hD hS => ?_)
  try dsimp only at hp2
  obtain ⟨m1, k1, fi, fo⟩ := hF1 x0 mx0 List.not_mem_nil
  rw [kx0] at fi fo
  have hM1 : lI s D cA cq cO q x0 h6 qo L1 K1 I1 O1 F1 G1 f H locs := ⟨hP, hD, hS, hI1, m1, (k1.trans kx0), hm1, (r1.fr hf1 (by decide) (by decide)), (r2.fr hf1 (by decide) (by decide)), (r3.fr hf1 (by decide) (by decide) (by decide)), (by rw [fi 1 (by decide), hf1.1 1 (by decide)]; exact q1), (by rw [fi 6 (by decide), hf1.1 3 (by decide)]; exact q6), (by rw [fi 8 (by decide), hf1.1 15 (by decide)]; exact q8), (lTp.fr hT mx0 kx0 hF1 hf1 (by decide) (by decide) (by decide) (by decide) (by decide)), (by rw [fi 10 (by decide), hf1.1 17 (by decide)]; exact q10), (lFm.fr hFm mx0 kx0 hF1 hf1 (fun _ => rfl) (by decide) (by decide) (by decide) (by decide)), (by rw [fi 3 (by decide), hf1.1 4 (by decide)]; exact q3), (lRc.fr hRc mx0 kx0 hF1 hf1 (lRf2 hF1 (fun _ => rfl)) (by decide) (by decide) (by decide) (by decide) (by decide) (by decide) (by decide) (by decide) (by decide) (by rw [hf1.1 15 (by decide)]; exact Int.le_refl _) (by decide))⟩
  refine W.widen (k := cells + 10) (n := slots + 82) (by omega) (by omega) ?_
  refine lv_pop hx hb dL_law_790 rfl ?_
  refine lv_goto (tgt := 856) hx hb dL_law_791 (by decide) ?_
  exact kk _ _ _ _ _ _ _ _ _ _ hM1 hl
set_option maxHeartbeats 4000000 in
set_option maxRecDepth 100000 in
theorem law_case_15 {p : Program} {e : Env} {s : State} {m : MethodId} {below : List Frame} {meth : Method} {c : Code} (l : Launch) (hst : l.stackTraces = false) {b LL : Nat} {xs : Nat → Int32} {D : va_G} {cA cq : Nat → ClassId} {cO : ClassId} {ad av q : Nat → Nat} {sa sb x0 h6 qo : Nat} (E : lE p s m meth c b LL xs D cA cq cO ad av sa sb) {i : Int32} (hi : 0 ≤ i.toInt ∧ i.toInt + 6 ≤ (LL : Int)) {L : List Nat} {K : Nat → Nat} {I : Nat → Nat → Int32} {O : Nat → Nat → Option Nat} {F : Nat → Int32} {G : Nat → Nat → Int32} {f : Nat → Int64} {H : Heap} {locs : List Loc} {ls : Array Slot} (hM : lI s D cA cq cO q x0 h6 qo L K I O F G f H locs) (hl : lv_has ls 7 [(4, .int i), (3, .ref qo), (2, .ref h6), (1, .ref x0), (0, .ref b)]) {cells slots : Nat} (hc : cells + 10 ≤ 601024) (hs : slots + 82 ≤ 7293034)
    (kk : ∀ (L : List Nat) (K : Nat → Nat) (I : Nat → Nat → Int32) (O : Nat → Nat → Option Nat) (F : Nat → Int32) (G : Nat → Nat → Int32) (f : Nat → Int64) (H : Heap) (locs : List Loc) (ls : Array Slot), lI s D cA cq cO q x0 h6 qo L K I O F G f H locs → lv_has ls 7 [(4, .int i), (3, .ref qo), (2, .ref h6), (1, .ref x0), (0, .ref b)] → W p l e room_1 s m #[Value.ref b] below meth c H locs (cells + 10) (slots + 82) (lw_Z below #[Value.ref b] s) (F0 m 856 ls [])) : W p l e room_1 s m #[Value.ref b] below meth c H locs cells slots (lw_Z below #[Value.ref b] s) (F0 m 794 ls []) := by
  obtain ⟨⟨hx, hb, hr, hml, hown, hts0, hX, hbl, hlocks, hgv⟩, hLL, hKc, hKm, hKo, hV, hE, hN⟩ := id E
  have hts := fun w h => hts0 w (wl_in w h)
  have hA : ∀ x : Nat, s.heap.size ≤ x → lA s x := fun _ h => h
  have hbA : ¬ lA s b := Nat.not_le.mpr hbl
  obtain ⟨hP, hD, hS, hI, mx0, kx0, hm, r1, r2, r3, q1, q6, q8, hT, q10, hFm, q3, hRc⟩ := id hM
  obtain ⟨tp, fm_, htp, hmt, hkt, -, hz⟩ := id hT
  clear fm_
  obtain ⟨fm, rr, hfm, hrr, mfm, kfm, hgf⟩ := id hFm
  have q11 : (I x0 11).toInt = (F 31).toInt := by
    obtain ⟨_, _, _, _, _, _, q11, _⟩ := id hRc
    exact q11
  have a1 : vp_in (i + 1) LL := lw_in hi hLL 1 (by decide) (by omega)
  have a2 : vp_in (i + 2) LL := lw_in hi hLL 2 (by decide) (by omega)
  refine lv_aload_n hx hb dL_law_794 rfl (lv_at hl 3 rfl) ?_
  refine lv_aload_n hx hb dL_law_795 rfl (lv_at hl 4 rfl) ?_
  refine lv_iload hx hb dL_law_796 (lv_at hl 0 rfl) ?_
  refine lv_iconst (v := 1) hx hb dL_law_798 (by decide) ?_
  refine lv_iadd hx hb dL_law_799 ?_
  refine va_sld hx hb hX hbl hbA hS a1 dL_law_800 ?_
  refine lv_aload_n hx hb dL_law_801 rfl (lv_at hl 4 rfl) ?_
  refine lv_iload hx hb dL_law_802 (lv_at hl 0 rfl) ?_
  refine lv_iconst (v := 2) hx hb dL_law_804 (by decide) ?_
  refine lv_iadd hx hb dL_law_805 ?_
  refine va_sld hx hb hX hbl hbA hS a2 dL_law_806 ?_
  refine lx_Vi (nL := 7) (vs := [.int (xs (i + 1).toNatClampNeg), .int (xs (i + 2).toNatClampNeg)]) (rest := []) ⟨hx, hb, hml, hown, hts⟩ hKc hV hA hP hD hS mx0 kx0 (h4_X5_starters l D cA ad av L K I O _ x0 (xs (i + 1).toNatClampNeg) (xs (i + 2).toNatClampNeg) hI mx0 kx0) (cwV 2 hts gl_X5_starters rfl rfl rfl (by decide +kernel) ⟨Nat.le_of_ble_eq_true rfl, Nat.le_of_ble_eq_true rfl⟩) rfl hl.1 rfl (Nat.le_of_ble_eq_true rfl) dL_law_807 ⟨show cells + 0 ≤ 601024 from by omega, show slots + 0 ≤ 7293034 from by omega⟩ (fun r_1 L1 K1 I1 O1 H locs hI1 hF1 hp1 hP hD hS => ?_)
  try dsimp only at hp1
  refine lv_pop hx hb dL_law_810 rfl ?_
  refine lv_aload_n hx hb dL_law_811 rfl (lv_at hl 2 rfl) ?_
  refine lv_aload_n hx hb dL_law_812 rfl (lv_at hl 4 rfl) ?_
  refine lv_iload hx hb dL_law_813 (lv_at hl 0 rfl) ?_
  refine lv_iconst (v := 1) hx hb dL_law_815 (by decide) ?_
  refine lv_iadd hx hb dL_law_816 ?_
  refine va_sld hx hb hX hbl hbA hS a1 dL_law_817 ?_
  refine lv_aload_n hx hb dL_law_818 rfl (lv_at hl 4 rfl) ?_
  refine lv_iload hx hb dL_law_819 (lv_at hl 0 rfl) ?_
  refine lv_iconst (v := 2) hx hb dL_law_821 (by decide) ?_
  refine lv_iadd hx hb dL_law_822 ?_
  refine va_sld hx hb hX hbl hbA hS a2 dL_law_823 ?_
  refine lm_Vi (nL := 7) (vs := [.int (xs (i + 1).toNatClampNeg), .int (xs (i + 2).toNatClampNeg)]) (rest := []) ⟨hx, hb, hml, hown, hts⟩ hKm hA hP hD hS (g3_X6_starters l D h6 q cq F G _ (xs (i + 1).toNatClampNeg) (xs (i + 2).toNatClampNeg) hm r3) (cwV 2 hts gl_X6_starters rfl rfl rfl (by decide +kernel) ⟨Nat.le_of_ble_eq_true rfl, Nat.le_of_ble_eq_true rfl⟩) rfl hl.1 rfl (Nat.le_of_ble_eq_true rfl) dL_law_824 ⟨show cells + 0 ≤ 601024 from by omega, show slots + 0 ≤ 7293034 from by omega⟩ (fun r_2 F1 G1 H locs hm1 hf1 hp2 hP hD hS => ?_)
  try dsimp only at hp2
  obtain ⟨m1, k1, fi, fo⟩ := hF1 x0 mx0 List.not_mem_nil
  rw [kx0] at fi fo
  have hM1 : lI s D cA cq cO q x0 h6 qo L1 K1 I1 O1 F1 G1 f H locs := ⟨hP, hD, hS, hI1, m1, (k1.trans kx0), hm1, (r1.fr hf1 (by decide) (by decide)), (r2.fr hf1 (by decide) (by decide)), (r3.fr hf1 (by decide) (by decide) (by decide)), (by rw [fi 1 (by decide), hf1.1 1 (by decide)]; exact q1), (by rw [fi 6 (by decide), hf1.1 3 (by decide)]; exact q6), (by rw [fi 8 (by decide), hf1.1 15 (by decide)]; exact q8), (lTp.fr hT mx0 kx0 hF1 hf1 (by decide) (by decide) (by decide) (by decide) (by decide)), (by rw [fi 10 (by decide), hf1.1 17 (by decide)]; exact q10), (lFm.fr hFm mx0 kx0 hF1 hf1 (fun _ => rfl) (by decide) (by decide) (by decide) (by decide)), (by rw [fi 3 (by decide), hf1.1 4 (by decide)]; exact q3), (lRc.fr hRc mx0 kx0 hF1 hf1 (lRf2 hF1 (fun _ => rfl)) (by decide) (by decide) (by decide) (by decide) (by decide) (by decide) (by decide) (by decide) (by decide) (by rw [hf1.1 15 (by decide)]; exact Int.le_refl _) (by decide))⟩
  refine W.widen (k := cells + 10) (n := slots + 82) (by omega) (by omega) ?_
  refine lv_pop hx hb dL_law_827 rfl ?_
  refine lv_goto (tgt := 856) hx hb dL_law_828 (by decide) ?_
  exact kk _ _ _ _ _ _ _ _ _ _ hM1 hl
set_option maxHeartbeats 4000000 in
set_option maxRecDepth 100000 in
theorem law_case_16 {p : Program} {e : Env} {s : State} {m : MethodId} {below : List Frame} {meth : Method} {c : Code} (l : Launch) (hst : l.stackTraces = false) {b LL : Nat} {xs : Nat → Int32} {D : va_G} {cA cq : Nat → ClassId} {cO : ClassId} {ad av q : Nat → Nat} {sa sb x0 h6 qo : Nat} (E : lE p s m meth c b LL xs D cA cq cO ad av sa sb) {i : Int32} (hi : 0 ≤ i.toInt ∧ i.toInt + 6 ≤ (LL : Int)) {L : List Nat} {K : Nat → Nat} {I : Nat → Nat → Int32} {O : Nat → Nat → Option Nat} {F : Nat → Int32} {G : Nat → Nat → Int32} {f : Nat → Int64} {H : Heap} {locs : List Loc} {ls : Array Slot} (hM : lI s D cA cq cO q x0 h6 qo L K I O F G f H locs) (hl : lv_has ls 7 [(4, .int i), (3, .ref qo), (2, .ref h6), (1, .ref x0), (0, .ref b)]) {cells slots : Nat} (hc : cells + 10 ≤ 601024) (hs : slots + 82 ≤ 7293034)
    (kk : ∀ (L : List Nat) (K : Nat → Nat) (I : Nat → Nat → Int32) (O : Nat → Nat → Option Nat) (F : Nat → Int32) (G : Nat → Nat → Int32) (f : Nat → Int64) (H : Heap) (locs : List Loc) (ls : Array Slot), lI s D cA cq cO q x0 h6 qo L K I O F G f H locs → lv_has ls 7 [(4, .int i), (3, .ref qo), (2, .ref h6), (1, .ref x0), (0, .ref b)] → W p l e room_1 s m #[Value.ref b] below meth c H locs (cells + 10) (slots + 82) (lw_Z below #[Value.ref b] s) (F0 m 856 ls [])) : W p l e room_1 s m #[Value.ref b] below meth c H locs cells slots (lw_Z below #[Value.ref b] s) (F0 m 831 ls []) := by
  obtain ⟨⟨hx, hb, hr, hml, hown, hts0, hX, hbl, hlocks, hgv⟩, hLL, hKc, hKm, hKo, hV, hE, hN⟩ := id E
  have hts := fun w h => hts0 w (wl_in w h)
  have hA : ∀ x : Nat, s.heap.size ≤ x → lA s x := fun _ h => h
  have hbA : ¬ lA s b := Nat.not_le.mpr hbl
  obtain ⟨hP, hD, hS, hI, mx0, kx0, hm, r1, r2, r3, q1, q6, q8, hT, q10, hFm, q3, hRc⟩ := id hM
  obtain ⟨tp, fm_, htp, hmt, hkt, -, hz⟩ := id hT
  clear fm_
  obtain ⟨fm, rr, hfm, hrr, mfm, kfm, hgf⟩ := id hFm
  have q11 : (I x0 11).toInt = (F 31).toInt := by
    obtain ⟨_, _, _, _, _, _, q11, _⟩ := id hRc
    exact q11
  have a1 : vp_in (i + 1) LL := lw_in hi hLL 1 (by decide) (by omega)
  refine lv_aload_n hx hb dL_law_831 rfl (lv_at hl 3 rfl) ?_
  refine lv_aload_n hx hb dL_law_832 rfl (lv_at hl 4 rfl) ?_
  refine lv_iload hx hb dL_law_833 (lv_at hl 0 rfl) ?_
  refine lv_iconst (v := 1) hx hb dL_law_835 (by decide) ?_
  refine lv_iadd hx hb dL_law_836 ?_
  refine va_sld hx hb hX hbl hbA hS a1 dL_law_837 ?_
  refine lx_Vi (nL := 7) (vs := [.int (xs (i + 1).toNatClampNeg)]) (rest := []) ⟨hx, hb, hml, hown, hts⟩ hKc hV hA hP hD hS mx0 kx0 (h5_X5_count l D cA ad av L K I O _ x0 (xs (i + 1).toNatClampNeg) hI mx0 kx0) (cwV 1 hts gl_X5_count rfl rfl rfl (by decide +kernel) ⟨Nat.le_of_ble_eq_true rfl, Nat.le_of_ble_eq_true rfl⟩) rfl hl.1 rfl (Nat.le_of_ble_eq_true rfl) dL_law_838 ⟨show cells + 0 ≤ 601024 from by omega, show slots + 0 ≤ 7293034 from by omega⟩ (fun r_1 L1 K1 I1 O1 H locs hI1 hF1 hp1 hP hD hS => ?_)
  try dsimp only at hp1
  refine lv_pop hx hb dL_law_841 rfl ?_
  refine lv_aload_n hx hb dL_law_842 rfl (lv_at hl 2 rfl) ?_
  refine lv_aload_n hx hb dL_law_843 rfl (lv_at hl 4 rfl) ?_
  refine lv_iload hx hb dL_law_844 (lv_at hl 0 rfl) ?_
  refine lv_iconst (v := 1) hx hb dL_law_846 (by decide) ?_
  refine lv_iadd hx hb dL_law_847 ?_
  refine va_sld hx hb hX hbl hbA hS a1 dL_law_848 ?_
  refine lm_Vi (nL := 7) (vs := [.int (xs (i + 1).toNatClampNeg)]) (rest := []) ⟨hx, hb, hml, hown, hts⟩ hKm hA hP hD hS (g7_X6_count l D h6 q cq F G _ (xs (i + 1).toNatClampNeg) hm ) (cwV 1 hts gl_X6_count rfl rfl rfl (by decide +kernel) ⟨Nat.le_of_ble_eq_true rfl, Nat.le_of_ble_eq_true rfl⟩) rfl hl.1 rfl (Nat.le_of_ble_eq_true rfl) dL_law_849 ⟨show cells + 0 ≤ 601024 from by omega, show slots + 0 ≤ 7293034 from by omega⟩ (fun r_2 F1 G1 H locs hm1 hf1 hp2 hP hD hS => ?_)
  try dsimp only at hp2
  obtain ⟨m1, k1, fi, fo⟩ := hF1 x0 mx0 List.not_mem_nil
  rw [kx0] at fi fo
  have hr12 : r_1.toInt = r_2.toInt := by
    obtain ⟨-, hp1⟩ := hp1
    omega
  clear hp1 hp2
  have hM1 : lI s D cA cq cO q x0 h6 qo L1 K1 I1 O1 F1 G1 f H locs := ⟨hP, hD, hS, hI1, m1, (k1.trans kx0), hm1, (r1.fr hf1 (by decide) (by decide)), (r2.fr hf1 (by decide) (by decide)), (r3.fr hf1 (by decide) (by decide) (by decide)), (by rw [fi 1 (by decide), hf1.1 1 (by decide)]; exact q1), (by rw [fi 6 (by decide), hf1.1 3 (by decide)]; exact q6), (by rw [fi 8 (by decide), hf1.1 15 (by decide)]; exact q8), (lTp.fr hT mx0 kx0 hF1 hf1 (by decide) (by decide) (by decide) (by decide) (by decide)), (by rw [fi 10 (by decide), hf1.1 17 (by decide)]; exact q10), (lFm.fr hFm mx0 kx0 hF1 hf1 (fun _ => rfl) (by decide) (by decide) (by decide) (by decide)), (by rw [fi 3 (by decide), hf1.1 4 (by decide)]; exact q3), (lRc.fr hRc mx0 kx0 hF1 hf1 (lRf2 hF1 (fun _ => rfl)) (by decide) (by decide) (by decide) (by decide) (by decide) (by decide) (by decide) (by decide) (by decide) (by rw [hf1.1 15 (by decide)]; exact Int.le_refl _) (by decide))⟩
  refine W.widen (k := cells + 10) (n := slots + 82) (by omega) (by omega) ?_
  refine lv_pop hx hb dL_law_852 rfl ?_
  refine lv_goto (tgt := 856) hx hb dL_law_853 (by decide) ?_
  exact kk _ _ _ _ _ _ _ _ _ _ hM1 hl
set_option maxHeartbeats 4000000 in
set_option maxRecDepth 100000 in
theorem law_loop {p : Program} {e : Env} {s : State} {m : MethodId} {below : List Frame} {meth : Method} {c : Code} (l : Launch) (hst : l.stackTraces = false) {b LL : Nat} {xs : Nat → Int32} {D : va_G} {cA cq : Nat → ClassId} {cO : ClassId} {ad av q : Nat → Nat} {sa sb x0 h6 qo : Nat} (E : lE p s m meth c b LL xs D cA cq cO ad av sa sb) (n : Nat) : ∀ {i : Int32} {L : List Nat} {K : Nat → Nat} {I : Nat → Nat → Int32} {O : Nat → Nat → Option Nat} {F : Nat → Int32} {G : Nat → Nat → Int32} {f : Nat → Int64} {H : Heap} {locs : List Loc} {ls : Array Slot} {cells slots : Nat}, 0 ≤ i.toInt ∧ i.toInt ≤ (LL : Int) → (LL : Int) < i.toInt + 6 * (n : Int) → cells + 10 * n ≤ 601024 → slots + 82 * n ≤ 7293034 → lI s D cA cq cO q x0 h6 qo L K I O F G f H locs → lv_has ls 7 [(4, .int i), (3, .ref qo), (2, .ref h6), (1, .ref x0), (0, .ref b)] → W p l e room_1 s m #[Value.ref b] below meth c H locs cells slots (lw_Z below #[Value.ref b] s) (F0 m 23 ls []) := by
  induction n with
  | zero => intro i L K I O F G f H locs ls cells slots hi hn; omega
  | succ n ih =>
    intro i L K I O F G f H locs ls cells slots hi hn hc hs hM hl
    obtain ⟨⟨hx, hb, hr, hml, hown, hts0, hX, hbl, hlocks, hgv⟩, hLL, hKc, hKm, hKo, hV, hE, hN⟩ := id E
    have hts := fun w h => hts0 w (wl_in w h)
    have hA : ∀ x : Nat, s.heap.size ≤ x → lA s x := fun _ h => h
    have hbA : ¬ lA s b := Nat.not_le.mpr hbl
    obtain ⟨hP, hD, hS, hI, mx0, kx0, hm, r1, r2, r3, q1, q6, q8, hT, q10, hFm, q3, hRc⟩ := id hM
    obtain ⟨tp, fm_, htp, hmt, hkt, -, hz⟩ := id hT
    clear fm_
    obtain ⟨fm, rr, hfm, hrr, mfm, kfm, hgf⟩ := id hFm
    have q11 : (I x0 11).toInt = (F 31).toInt := by
      obtain ⟨_, _, _, _, _, _, q11, _⟩ := id hRc
      exact q11
    refine lv_iload hx hb dL_law_23 (lv_at hl 0 rfl) ?_
    refine lv_aload_n hx hb dL_law_25 rfl (lv_at hl 4 rfl) ?_
    refine va_slen hx hb hX hbl hbA hS dL_law_26 ?_
    refine lv_bipush (v := 6) hx hb dL_law_27 (by decide) ?_
    refine mm_isub (X := (LL : Int)) (Y := 6) hx hb dL_law_29 (nI_toInt (by omega)) (by decide) (by omega) (fun z_1 e_1 => ?_)
    refine mm_icmp_gt (X := i.toInt) (Y := (LL : Int) - 6) (tgt := 862) hx hb dL_law_30 (by decide) rfl e_1 (fun c_1 => ?_) (fun c_1 => ?_)
    · refine lv_iconst (v := 1) hx hb dL_law_862 (by decide) ?_
      refine va_forget (fun x hx9 => hS.2.2 x hx9) ?_
      refine W.widen (k := 601024) (n := 7293034) (by omega) (by omega) ?_
      exact lw_ret hx hb hr hlocks dL_law_863
    · have hi6 : 0 ≤ i.toInt ∧ i.toInt + 6 ≤ (LL : Int) := by omega
      have kk : ∀ (L : List Nat) (K : Nat → Nat) (I : Nat → Nat → Int32) (O : Nat → Nat → Option Nat) (F : Nat → Int32) (G : Nat → Nat → Int32) (f : Nat → Int64) (H : Heap) (locs : List Loc) (ls : Array Slot), lI s D cA cq cO q x0 h6 qo L K I O F G f H locs → lv_has ls 7 [(4, .int i), (3, .ref qo), (2, .ref h6), (1, .ref x0), (0, .ref b)] → W p l e room_1 s m #[Value.ref b] below meth c H locs (cells + 10) (slots + 82) (lw_Z below #[Value.ref b] s) (F0 m 856 ls []) := fun L K I O F G f H locs ls hM hl => by
        refine mm_iinc (X := i.toInt) (lv2 := fun z => [(4, .int z), (3, .ref qo), (2, .ref h6), (1, .ref x0), (0, .ref b)]) (k := 0) (v := 6) hx hb dL_law_856 hl rfl rfl (by decide) (by decide) (by omega) (by decide) (fun _ => rfl) (fun z ls ez hl => ?_)
        refine lv_goto (tgt := 23) hx hb dL_law_859 (by decide) ?_
        exact ih (by omega) (by omega) (by omega) (by omega) hM hl
      refine lv_aload_n hx hb dL_law_33 rfl (lv_at hl 4 rfl) ?_
      refine lv_iload hx hb dL_law_34 (lv_at hl 0 rfl) ?_
      refine va_sld hx hb hX hbl hbA hS (by rw [vp_in_iff]; omega) dL_law_36 ?_
      refine lv_bipush (v := 31) hx hb dL_law_37 (by decide) ?_
      refine lv_iand hx hb dL_law_39 ?_
      obtain ⟨j, hj, ej⟩ := pk_andE (xs i.toNatClampNeg) (m := 31) 5 (by decide)
      rw [ej]
      have hcs : j = 0 ∨ j = 1 ∨ j = 2 ∨ j = 3 ∨ j = 4 ∨ j = 5 ∨ j = 6 ∨ j = 7 ∨ j = 8 ∨ j = 9 ∨ j = 10 ∨ j = 11 ∨ j = 12 ∨ j = 13 ∨ j = 14 ∨ j = 15 ∨ j = 16 ∨ 17 ≤ j := by omega
      rcases hcs with rfl | rfl | rfl | rfl | rfl | rfl | rfl | rfl | rfl | rfl | rfl | rfl | rfl | rfl | rfl | rfl | rfl | h17
      · refine lv_tableIn (tgt := 124) (off := 84) hx hb dL_law_40 (by decide) (by decide) (by decide) (by decide) ?_
        exact law_case_0 l hst E hi6 hM hl (by omega) (by omega) kk
      · refine lv_tableIn (tgt := 197) (off := 157) hx hb dL_law_40 (by decide) (by decide) (by decide) (by decide) ?_
        exact law_case_1 l hst E hi6 hM hl (by omega) (by omega) kk
      · refine lv_tableIn (tgt := 222) (off := 182) hx hb dL_law_40 (by decide) (by decide) (by decide) (by decide) ?_
        exact law_case_2 l hst E hi6 hM hl (by omega) (by omega) kk
      · refine lv_tableIn (tgt := 247) (off := 207) hx hb dL_law_40 (by decide) (by decide) (by decide) (by decide) ?_
        exact law_case_3 l hst E hi6 hM hl (by omega) (by omega) kk
      · refine lv_tableIn (tgt := 272) (off := 232) hx hb dL_law_40 (by decide) (by decide) (by decide) (by decide) ?_
        exact law_case_4 l hst E hi6 hM hl (by omega) (by omega) kk
      · refine lv_tableIn (tgt := 297) (off := 257) hx hb dL_law_40 (by decide) (by decide) (by decide) (by decide) ?_
        exact law_case_5 l hst E hi6 hM hl (by omega) (by omega) kk
      · refine lv_tableIn (tgt := 334) (off := 294) hx hb dL_law_40 (by decide) (by decide) (by decide) (by decide) ?_
        exact law_case_6 l hst E hi6 hM hl (by omega) (by omega) kk
      · refine lv_tableIn (tgt := 371) (off := 331) hx hb dL_law_40 (by decide) (by decide) (by decide) (by decide) ?_
        exact law_case_7 l hst E hi6 hM hl (by omega) (by omega) kk
      · refine lv_tableIn (tgt := 444) (off := 404) hx hb dL_law_40 (by decide) (by decide) (by decide) (by decide) ?_
        exact law_case_8 l hst E hi6 hM hl (by omega) (by omega) kk
      · refine lv_tableIn (tgt := 512) (off := 472) hx hb dL_law_40 (by decide) (by decide) (by decide) (by decide) ?_
        exact law_case_9 l hst E hi6 hM hl (by omega) (by omega) kk
      · refine lv_tableIn (tgt := 549) (off := 509) hx hb dL_law_40 (by decide) (by decide) (by decide) (by decide) ?_
        exact law_case_10 l hst E hi6 hM hl (by omega) (by omega) kk
      · refine lv_tableIn (tgt := 610) (off := 570) hx hb dL_law_40 (by decide) (by decide) (by decide) (by decide) ?_
        exact law_case_11 l hst E hi6 hM hl (by omega) (by omega) kk
      · refine lv_tableIn (tgt := 671) (off := 631) hx hb dL_law_40 (by decide) (by decide) (by decide) (by decide) ?_
        exact law_case_12 l hst E hi6 hM hl (by omega) (by omega) kk
      · refine lv_tableIn (tgt := 720) (off := 680) hx hb dL_law_40 (by decide) (by decide) (by decide) (by decide) ?_
        exact law_case_13 l hst E hi6 hM hl (by omega) (by omega) kk
      · refine lv_tableIn (tgt := 757) (off := 717) hx hb dL_law_40 (by decide) (by decide) (by decide) (by decide) ?_
        exact law_case_14 l hst E hi6 hM hl (by omega) (by omega) kk
      · refine lv_tableIn (tgt := 794) (off := 754) hx hb dL_law_40 (by decide) (by decide) (by decide) (by decide) ?_
        exact law_case_15 l hst E hi6 hM hl (by omega) (by omega) kk
      · refine lv_tableIn (tgt := 831) (off := 791) hx hb dL_law_40 (by decide) (by decide) (by decide) (by decide) ?_
        exact law_case_16 l hst E hi6 hM hl (by omega) (by omega) kk
      · refine lv_tableOut (tgt := 856) hx hb dL_law_40 (Or.inr (by rw [nI_toInt (show j < 2 ^ 31 by omega)]; omega)) (by decide) ?_
        exact W.widen (k := cells + 10) (n := slots + 82) (by omega) (by omega) (kk _ _ _ _ _ _ _ _ _ _ hM hl)
