set_option maxHeartbeats 4000000 in
set_option maxRecDepth 100000 in
theorem law_case_0 {p : Program} {e : Env} {s : State} {m : MethodId} {below : List Frame} {meth : Method} {c : Code} (l : Launch) (hst : l.stackTraces = false) {b LL : Nat} {xs : Nat → Int32} {D : va_G} {cA cq : Nat → ClassId} {cO : ClassId} {ad av q : Nat → Nat} {sa sb x0 h6 qo : Nat} (E : lE p s m meth c b LL xs D cA cq cO ad av sa sb) {i : Int32} (hi : 0 ≤ i.toInt ∧ i.toInt + 6 ≤ (LL : Int)) {L : List Nat} {K : Nat → Nat} {I : Nat → Nat → Int32} {O : Nat → Nat → Option Nat} {F : Nat → Int32} {G : Nat → Nat → Int32} {f : Nat → Int64} {H : Heap} {locs : List Loc} {ls : Array Slot} (hM : lI s D cA cq cO q x0 h6 qo L K I O F G f H locs) (hl : lv_has ls 7 [(4, .int i), (3, .ref qo), (2, .ref h6), (1, .ref x0), (0, .ref b)]) {cells slots : Nat} (hc : cells + 10 ≤ 601024) (hs : slots + 82 ≤ 7293034)
    (kk : ∀ (L : List Nat) (K : Nat → Nat) (I : Nat → Nat → Int32) (O : Nat → Nat → Option Nat) (F : Nat → Int32) (G : Nat → Nat → Int32) (f : Nat → Int64) (H : Heap) (locs : List Loc) (ls : Array Slot), lI s D cA cq cO q x0 h6 qo L K I O F G f H locs → lv_has ls 7 [(4, .int i), (3, .ref qo), (2, .ref h6), (1, .ref x0), (0, .ref b)] → W p l e room_1 s m #[Value.ref b] below meth c H locs (cells + 10) (slots + 82) (lw_Z below #[Value.ref b] s) (F0 m 828 ls [])) : W p l e room_1 s m #[Value.ref b] below meth c H locs cells slots (lw_Z below #[Value.ref b] s) (F0 m 124 ls []) := by
  obtain ⟨⟨hx, hb, hr, hml, hown, hts0, hX, hbl, hlocks, hgv⟩, hLL, hKc, hKm, hKo, hV, hE, hN⟩ := id E
  have hts := fun w h => hts0 w (wl_in w h)
  have hA : ∀ x : Nat, s.heap.size ≤ x → lA s x := fun _ h => h
  have hbA : ¬ lA s b := Nat.not_le.mpr hbl
  obtain ⟨hP, hD, hS, hI, mx0, kx0, hm, r1, r2, r3, q1, q6, q8, hT, q10, hFm, q3, hRc, hXt, hFb, hNa⟩ := id hM
  obtain ⟨nn, hnn, mnn, knn, hna⟩ := id hNa
  obtain ⟨tp, fm_, htp, hmt, hkt, -, hz⟩ := id hT
  clear fm_
  obtain ⟨fm, rr, hfm, hrr, mfm, kfm, hgf⟩ := id hFm
  have q11 : (I x0 11).toInt = (F 31).toInt := by
    obtain ⟨_, _, _, _, _, _, q11, _⟩ := id hRc
    exact q11
  have a1 : vp_in (i + 1) LL := lw_in hi hLL 1 (by decide) (by omega)
  have a2 : vp_in (i + 2) LL := lw_in hi hLL 2 (by decide) (by omega)
  have a3 : vp_in (i + 3) LL := lw_in hi hLL 3 (by decide) (by omega)
  have a4 : vp_in (i + 4) LL := lw_in hi hLL 4 (by decide) (by omega)
  have a5 : vp_in (i + 5) LL := lw_in hi hLL 5 (by decide) (by omega)
  refine lv_aload_n hx hb dL_law_124 rfl (lv_at hl 3 rfl) ?_
  refine lv_aload_n hx hb dL_law_125 rfl (lv_at hl 4 rfl) ?_
  refine lv_iload hx hb dL_law_126 (lv_at hl 0 rfl) ?_
  refine lv_iconst (v := 1) hx hb dL_law_128 (by decide) ?_
  refine lv_iadd hx hb dL_law_129 ?_
  refine va_sld hx hb hX hbl hbA hS a1 dL_law_130 ?_
  refine lv_aload_n hx hb dL_law_131 rfl (lv_at hl 4 rfl) ?_
  refine lv_iload hx hb dL_law_132 (lv_at hl 0 rfl) ?_
  refine lv_iconst (v := 2) hx hb dL_law_134 (by decide) ?_
  refine lv_iadd hx hb dL_law_135 ?_
  refine va_sld hx hb hX hbl hbA hS a2 dL_law_136 ?_
  refine lv_aload_n hx hb dL_law_137 rfl (lv_at hl 4 rfl) ?_
  refine lv_iload hx hb dL_law_138 (lv_at hl 0 rfl) ?_
  refine lv_iconst (v := 3) hx hb dL_law_140 (by decide) ?_
  refine lv_iadd hx hb dL_law_141 ?_
  refine va_sld hx hb hX hbl hbA hS a3 dL_law_142 ?_
  refine lv_aload_n hx hb dL_law_143 rfl (lv_at hl 4 rfl) ?_
  refine lv_iload hx hb dL_law_144 (lv_at hl 0 rfl) ?_
  refine lv_iconst (v := 4) hx hb dL_law_146 (by decide) ?_
  refine lv_iadd hx hb dL_law_147 ?_
  refine va_sld hx hb hX hbl hbA hS a4 dL_law_148 ?_
  refine lv_aload_n hx hb dL_law_149 rfl (lv_at hl 4 rfl) ?_
  refine lv_iload hx hb dL_law_150 (lv_at hl 0 rfl) ?_
  refine lv_iconst (v := 5) hx hb dL_law_152 (by decide) ?_
  refine lv_iadd hx hb dL_law_153 ?_
  refine va_sld hx hb hX hbl hbA hS a5 dL_law_154 ?_
  refine lx_Vi (nL := 7) (vs := [.int (xs (i + 1).toNatClampNeg), .int (xs (i + 2).toNatClampNeg), .int (xs (i + 3).toNatClampNeg), .int (xs (i + 4).toNatClampNeg), .int (xs (i + 5).toNatClampNeg)]) (rest := []) ⟨hx, hb, hml, hown, hts⟩ hKc hV hA hP hD hS mx0 kx0 (h5_X5_feed l D cA ad av L K I O _ x0 (xs (i + 1).toNatClampNeg) (xs (i + 2).toNatClampNeg) (xs (i + 3).toNatClampNeg) (xs (i + 4).toNatClampNeg) (xs (i + 5).toNatClampNeg) hI mx0 kx0 tp htp) (cwV 5 hts gl_X5_feed rfl rfl rfl (by decide +kernel) ⟨Nat.le_of_ble_eq_true rfl, Nat.le_of_ble_eq_true rfl⟩) rfl hl.1 rfl (Nat.le_of_ble_eq_true rfl) dL_law_155 ⟨show cells + 0 ≤ 601024 from by omega, show slots + 0 ≤ 7293034 from by omega⟩ (fun r_1 L1 K1 I1 O1 H locs hI1 hF1 hp1 hP hD hS => ?_)
  try dsimp only at hp1
  refine lv_pop hx hb dL_law_158 rfl ?_
  refine lv_aload_n hx hb dL_law_159 rfl (lv_at hl 2 rfl) ?_
  refine lv_aload_n hx hb dL_law_160 rfl (lv_at hl 4 rfl) ?_
  refine lv_iload hx hb dL_law_161 (lv_at hl 0 rfl) ?_
  refine lv_iconst (v := 1) hx hb dL_law_163 (by decide) ?_
  refine lv_iadd hx hb dL_law_164 ?_
  refine va_sld hx hb hX hbl hbA hS a1 dL_law_165 ?_
  refine lv_aload_n hx hb dL_law_166 rfl (lv_at hl 4 rfl) ?_
  refine lv_iload hx hb dL_law_167 (lv_at hl 0 rfl) ?_
  refine lv_iconst (v := 2) hx hb dL_law_169 (by decide) ?_
  refine lv_iadd hx hb dL_law_170 ?_
  refine va_sld hx hb hX hbl hbA hS a2 dL_law_171 ?_
  refine lv_aload_n hx hb dL_law_172 rfl (lv_at hl 4 rfl) ?_
  refine lv_iload hx hb dL_law_173 (lv_at hl 0 rfl) ?_
  refine lv_iconst (v := 3) hx hb dL_law_175 (by decide) ?_
  refine lv_iadd hx hb dL_law_176 ?_
  refine va_sld hx hb hX hbl hbA hS a3 dL_law_177 ?_
  refine lv_aload_n hx hb dL_law_178 rfl (lv_at hl 4 rfl) ?_
  refine lv_iload hx hb dL_law_179 (lv_at hl 0 rfl) ?_
  refine lv_iconst (v := 4) hx hb dL_law_181 (by decide) ?_
  refine lv_iadd hx hb dL_law_182 ?_
  refine va_sld hx hb hX hbl hbA hS a4 dL_law_183 ?_
  refine lv_aload_n hx hb dL_law_184 rfl (lv_at hl 4 rfl) ?_
  refine lv_iload hx hb dL_law_185 (lv_at hl 0 rfl) ?_
  refine lv_iconst (v := 5) hx hb dL_law_187 (by decide) ?_
  refine lv_iadd hx hb dL_law_188 ?_
  refine va_sld hx hb hX hbl hbA hS a5 dL_law_189 ?_
  refine lm_Vi (nL := 7) (vs := [.int (xs (i + 1).toNatClampNeg), .int (xs (i + 2).toNatClampNeg), .int (xs (i + 3).toNatClampNeg), .int (xs (i + 4).toNatClampNeg), .int (xs (i + 5).toNatClampNeg)]) (rest := []) ⟨hx, hb, hml, hown, hts⟩ hKm hA hP hD hS (g7_X6_feed l D h6 q cq F G _ (xs (i + 1).toNatClampNeg) (xs (i + 2).toNatClampNeg) (xs (i + 3).toNatClampNeg) (xs (i + 4).toNatClampNeg) (xs (i + 5).toNatClampNeg) hm ) (cwV 5 hts gl_X6_feed rfl rfl rfl (by decide +kernel) ⟨Nat.le_of_ble_eq_true rfl, Nat.le_of_ble_eq_true rfl⟩) rfl hl.1 rfl (Nat.le_of_ble_eq_true rfl) dL_law_190 ⟨show cells + 0 ≤ 601024 from by omega, show slots + 0 ≤ 7293034 from by omega⟩ (fun r_2 F1 G1 H locs hm1 hf1 hp2 hP hD hS => ?_)
  try dsimp only at hp2
  obtain ⟨m1, k1, fi, fo⟩ := hF1 x0 mx0 List.not_mem_nil
  rw [kx0] at fi fo
  obtain ⟨m2, k2, -, -⟩ := hF1 tp hmt List.not_mem_nil
  have hfin : r_1.toInt = r_2.toInt ∧ (I1 x0 1).toInt = (F1 1).toInt ∧ lTp x0 L1 K1 I1 O1 G1 := by
    rcases hp1 with ⟨u1, u2, u3, u4, u5⟩ | ⟨u1, u2, u3, u4⟩
    · rcases hp2 with ⟨v1, v2, v3, v4, v5⟩ | ⟨v1, v2, v3, v4⟩
      · refine ⟨by omega, by omega, tp, fm, by rw [fo 0 (by decide)]; exact htp, m2, k2.trans hkt, by rw [fo 2 (by decide)]; exact hfm, fun j hj => ?_⟩
        rcases Nat.lt_or_ge j (I x0 1).toInt.toNat with hlt | hge
        · rw [u5 j hlt, v5 j (by omega)]
          exact hz j hlt
        · have e1 := u4 (j - (I x0 1).toInt.toNat) (by omega)
          have e2 := v4 (j - (I x0 1).toInt.toNat) (by omega)
          rw [show (I x0 1).toInt.toNat + (j - (I x0 1).toInt.toNat) = j from by omega] at e1
          rw [show (F 1).toInt.toNat + (j - (I x0 1).toInt.toNat) = j from by omega] at e2
          rw [e2]
          exact e1
      · exact absurd q1 (by omega)
    · rcases hp2 with ⟨v1, v2, v3, v4, v5⟩ | ⟨v1, v2, v3, v4⟩
      · exact absurd q1 (by omega)
      · refine ⟨by omega, by omega, tp, fm, by rw [fo 0 (by decide)]; exact htp, m2, k2.trans hkt, by rw [fo 2 (by decide)]; exact hfm, fun j hj => ?_⟩
        rw [u4 j, v4]
        exact hz j (by omega)
  clear hp1 hp2
  obtain ⟨hr12, q1n, hT1⟩ := hfin
  have hM1 : lI s D cA cq cO q x0 h6 qo L1 K1 I1 O1 F1 G1 f H locs := ⟨hP, hD, hS, hI1, m1, (k1.trans kx0), hm1, (r1.fr hf1 (by decide) (by decide)), (r2.fr hf1 (by decide) (by decide)), (r3.fr hf1 (by decide) (by decide) (by decide)), q1n, (by rw [fi 6 (by decide), hf1.1 3 (by decide)]; exact q6), (by rw [fi 8 (by decide), hf1.1 15 (by decide)]; exact q8), hT1, (by rw [fi 10 (by decide), hf1.1 17 (by decide)]; exact q10), (lFm.fr hFm mx0 kx0 hF1 hf1 (fun _ => rfl) (by decide) (by decide) (by decide) (by decide)), (by rw [fi 3 (by decide), hf1.1 4 (by decide)]; exact q3), (lRc.fr hRc mx0 kx0 hF1 hf1 (lRf2 hF1 (fun _ => rfl)) (by decide) (by decide) (by decide) (by decide) (by decide) (by decide) (by decide) (by decide) (by decide) (by rw [hf1.1 15 (by decide)]; exact Int.le_refl _) (by decide)), (lXt.fr hRc hXt mx0 kx0 hF1 hf1 (lRf2 hF1 (fun _ => rfl)) (by decide) (by decide) (by decide) (by decide) (by decide) (fun _ => rfl) (fun _ => rfl) (by decide) (by decide) (by decide)), (hFb.fr hf1 (by decide)), (lNa.fr hNa mx0 kx0 hF1 hf1 (by decide) (by decide) (by decide) (by decide))⟩
  refine W.widen (k := cells + 10) (n := slots + 82) (by omega) (by omega) ?_
  refine lv_pop hx hb dL_law_193 rfl ?_
  refine lv_goto (tgt := 828) hx hb dL_law_194 (by decide) ?_
  exact kk _ _ _ _ _ _ _ _ _ _ hM1 hl
set_option maxHeartbeats 4000000 in
set_option maxRecDepth 100000 in
theorem law_case_1 {p : Program} {e : Env} {s : State} {m : MethodId} {below : List Frame} {meth : Method} {c : Code} (l : Launch) (hst : l.stackTraces = false) {b LL : Nat} {xs : Nat → Int32} {D : va_G} {cA cq : Nat → ClassId} {cO : ClassId} {ad av q : Nat → Nat} {sa sb x0 h6 qo : Nat} (E : lE p s m meth c b LL xs D cA cq cO ad av sa sb) {i : Int32} (hi : 0 ≤ i.toInt ∧ i.toInt + 6 ≤ (LL : Int)) {L : List Nat} {K : Nat → Nat} {I : Nat → Nat → Int32} {O : Nat → Nat → Option Nat} {F : Nat → Int32} {G : Nat → Nat → Int32} {f : Nat → Int64} {H : Heap} {locs : List Loc} {ls : Array Slot} (hM : lI s D cA cq cO q x0 h6 qo L K I O F G f H locs) (hl : lv_has ls 7 [(4, .int i), (3, .ref qo), (2, .ref h6), (1, .ref x0), (0, .ref b)]) {cells slots : Nat} (hc : cells + 10 ≤ 601024) (hs : slots + 82 ≤ 7293034)
    (kk : ∀ (L : List Nat) (K : Nat → Nat) (I : Nat → Nat → Int32) (O : Nat → Nat → Option Nat) (F : Nat → Int32) (G : Nat → Nat → Int32) (f : Nat → Int64) (H : Heap) (locs : List Loc) (ls : Array Slot), lI s D cA cq cO q x0 h6 qo L K I O F G f H locs → lv_has ls 7 [(4, .int i), (3, .ref qo), (2, .ref h6), (1, .ref x0), (0, .ref b)] → W p l e room_1 s m #[Value.ref b] below meth c H locs (cells + 10) (slots + 82) (lw_Z below #[Value.ref b] s) (F0 m 828 ls [])) : W p l e room_1 s m #[Value.ref b] below meth c H locs cells slots (lw_Z below #[Value.ref b] s) (F0 m 197 ls []) := by
  obtain ⟨⟨hx, hb, hr, hml, hown, hts0, hX, hbl, hlocks, hgv⟩, hLL, hKc, hKm, hKo, hV, hE, hN⟩ := id E
  have hts := fun w h => hts0 w (wl_in w h)
  have hA : ∀ x : Nat, s.heap.size ≤ x → lA s x := fun _ h => h
  have hbA : ¬ lA s b := Nat.not_le.mpr hbl
  obtain ⟨hP, hD, hS, hI, mx0, kx0, hm, r1, r2, r3, q1, q6, q8, hT, q10, hFm, q3, hRc, hXt, hFb, hNa⟩ := id hM
  obtain ⟨nn, hnn, mnn, knn, hna⟩ := id hNa
  obtain ⟨tp, fm_, htp, hmt, hkt, -, hz⟩ := id hT
  clear fm_
  obtain ⟨fm, rr, hfm, hrr, mfm, kfm, hgf⟩ := id hFm
  have q11 : (I x0 11).toInt = (F 31).toInt := by
    obtain ⟨_, _, _, _, _, _, q11, _⟩ := id hRc
    exact q11
  have a1 : vp_in (i + 1) LL := lw_in hi hLL 1 (by decide) (by omega)
  refine lv_aload_n hx hb dL_law_197 rfl (lv_at hl 3 rfl) ?_
  refine lv_aload_n hx hb dL_law_198 rfl (lv_at hl 4 rfl) ?_
  refine lv_iload hx hb dL_law_199 (lv_at hl 0 rfl) ?_
  refine lv_iconst (v := 1) hx hb dL_law_201 (by decide) ?_
  refine lv_iadd hx hb dL_law_202 ?_
  refine va_sld hx hb hX hbl hbA hS a1 dL_law_203 ?_
  refine lx_Vi (nL := 7) (vs := [.int (xs (i + 1).toNatClampNeg)]) (rest := []) ⟨hx, hb, hml, hown, hts⟩ hKc hV hA hP hD hS mx0 kx0 (h5_X5_formats l D cA ad av L K I O _ x0 (xs (i + 1).toNatClampNeg) hI mx0 kx0 tp htp fm hfm) (cwV 1 hts gl_X5_formats rfl rfl rfl (by decide +kernel) ⟨Nat.le_of_ble_eq_true rfl, Nat.le_of_ble_eq_true rfl⟩) rfl hl.1 rfl (Nat.le_of_ble_eq_true rfl) dL_law_204 ⟨show cells + 10 ≤ 601024 from by omega, show slots + 82 ≤ 7293034 from by omega⟩ (fun r_1 L1 K1 I1 O1 H locs hI1 hF1 hp1 hP hD hS => ?_)
  try dsimp only at hp1
  refine lv_pop hx hb dL_law_207 rfl ?_
  refine lv_aload_n hx hb dL_law_208 rfl (lv_at hl 2 rfl) ?_
  refine lv_aload_n hx hb dL_law_209 rfl (lv_at hl 4 rfl) ?_
  refine lv_iload hx hb dL_law_210 (lv_at hl 0 rfl) ?_
  refine lv_iconst (v := 1) hx hb dL_law_212 (by decide) ?_
  refine lv_iadd hx hb dL_law_213 ?_
  refine va_sld hx hb hX hbl hbA hS a1 dL_law_214 ?_
  refine lm_Vi (nL := 7) (vs := [.int (xs (i + 1).toNatClampNeg)]) (rest := []) ⟨hx, hb, hml, hown, hts⟩ hKm hA hP hD hS (g7_X6_formats l D h6 q cq F G _ (xs (i + 1).toNatClampNeg) hm ) (cwV 1 hts gl_X6_formats rfl rfl rfl (by decide +kernel) ⟨Nat.le_of_ble_eq_true rfl, Nat.le_of_ble_eq_true rfl⟩) rfl hl.1 rfl (Nat.le_of_ble_eq_true rfl) dL_law_215 ⟨show cells + 10 ≤ 601024 from by omega, show slots + 82 ≤ 7293034 from by omega⟩ (fun r_2 F1 G1 H locs hm1 hf1 hp2 hP hD hS => ?_)
  try dsimp only at hp2
  obtain ⟨m1, k1, fi, fo⟩ := hF1 x0 mx0 List.not_mem_nil
  rw [kx0] at fi fo
  obtain ⟨m2, k2, ft, -⟩ := hF1 tp hmt List.not_mem_nil
  rw [hkt] at ft
  have hk : 0 ≤ (xs (i + 1).toNatClampNeg).toInt ∧ (xs (i + 1).toNatClampNeg).toInt ≤ (I x0 1).toInt → zk (fun j => (I tp j).toInt) (xs (i + 1).toNatClampNeg).toInt.toNat = zk (fun j => (G 0 j).toInt) (xs (i + 1).toNatClampNeg).toInt.toNat := fun h9 => zk_T (fun j hj => hz j (by omega))
  have hfin : r_1.toInt = r_2.toInt ∧ (I1 x0 1).toInt = (F1 1).toInt ∧ mR2 G1 ∧ ((I1 x0 1).toInt = 0 ∨ (I1 x0 1).toInt = (I x0 1).toInt) ∧ lFm x0 L1 K1 I1 O1 G1 ∧ (I1 x0 3).toInt = (F1 4).toInt ∧ lFb G1 ∧ ∃ fa : Nat, O1 x0 2 = some fa := by
    have o9 := fo 9 (by decide)
    rcases hp1.1 with ⟨u1, u2, u3, u4, uc⟩ | ⟨u1, u3, u⟩
    · rcases hp2 with ⟨v1, v2, v3, vc, v5⟩ | ⟨v1, -⟩
      · exact ⟨by omega, by omega, lR2s r2 v5, by omega, lFm_same hFm mx0 kx0 hF1 hp1.2.1 hp1.2.2 (u4.trans hfm.symm) o9 v5, by omega, lFb_s hFb v5, fm, u4⟩
      · exact absurd v1 (by omega)
    · rcases hp2 with ⟨v1, -⟩ | ⟨v1, v3, v⟩
      · exact absurd (show 0 ≤ (xs (i + 1).toNatClampNeg).toInt ∧ (xs (i + 1).toNatClampNeg).toInt ≤ (F 1).toInt from by omega) v1
      · rw [hk u1] at u
        rcases u with ⟨u4, u5, u6, uc⟩ | ⟨c1, M1, fa, u4, u5, u6, u7, u8, u9, u10⟩
        · rcases v with ⟨v4, v5, vc, v6⟩ | ⟨c2, M2, v4, -⟩
          · exact ⟨by omega, by omega, lR2s r2 v6, by omega, lFm_same hFm mx0 kx0 hF1 hp1.2.1 hp1.2.2 (u6.trans hfm.symm) o9 v6, by omega, lFb_s hFb v6, fm, u6⟩
          · exact absurd v4 (u5 c2 M2)
        · rcases v with ⟨v4, v5, -⟩ | ⟨c2, M2, v4, v5, v6, v7⟩
          · exact absurd u4 (v5 c1 M1)
          · have e9 := (zOk_uq u4 v4).1
            exact ⟨by omega, by omega, lR2m v4 v7, by omega, lFm_new u7 (o9.trans hrr) u8 u9 u10 v7 (zOk_uq u4 v4).2, by omega, lFb_m v4 v7, fa, u7⟩
  have hi2 := hp1.2.1
  clear hp1 hp2
  obtain ⟨hr12, q1n, r2n, t01, hFm1, q3n, hFb1, fa, hfa⟩ := hfin
  have hT1 : lTp x0 L1 K1 I1 O1 G1 := by
    refine ⟨tp, fa, by rw [fo 0 (by decide)]; exact htp, m2, k2.trans hkt, hfa, fun j hj => ?_⟩
    rw [ft j rfl, hf1.2 0 (by decide)]
    exact hz j (by omega)
  have hM1 : lI s D cA cq cO q x0 h6 qo L1 K1 I1 O1 F1 G1 f H locs := ⟨hP, hD, hS, hI1, m1, (k1.trans kx0), hm1, (r1.fr hf1 (by decide) (by decide)), r2n, (r3.fr hf1 (by decide) (by decide) (by decide)), q1n, (by rw [fi 6 (by decide), hf1.1 3 (by decide)]; exact q6), (by rw [fi 8 (by decide), hf1.1 15 (by decide)]; exact q8), hT1, (by rw [fi 10 (by decide), hf1.1 17 (by decide)]; exact q10), hFm1, q3n, (lRc.fr hRc mx0 kx0 hF1 hf1 hi2 (by decide) (by decide) (by decide) (by decide) (by decide) (by decide) (by decide) (by decide) (by decide) (by rw [hf1.1 15 (by decide)]; exact Int.le_refl _) (by decide)), (lXt.fr hRc hXt mx0 kx0 hF1 hf1 hi2 (by decide) (by decide) (by decide) (by decide) (by decide) (fun _ => rfl) (fun _ => rfl) (by decide) (by decide) (by decide)), hFb1, (lNa.fr hNa mx0 kx0 hF1 hf1 (by decide) (by decide) (by decide) (by decide))⟩
  refine W.widen (k := cells + 10) (n := slots + 82) (by omega) (by omega) ?_
  refine lv_pop hx hb dL_law_218 rfl ?_
  refine lv_goto (tgt := 828) hx hb dL_law_219 (by decide) ?_
  exact kk _ _ _ _ _ _ _ _ _ _ hM1 hl
set_option maxHeartbeats 4000000 in
set_option maxRecDepth 100000 in
theorem law_case_2 {p : Program} {e : Env} {s : State} {m : MethodId} {below : List Frame} {meth : Method} {c : Code} (l : Launch) (hst : l.stackTraces = false) {b LL : Nat} {xs : Nat → Int32} {D : va_G} {cA cq : Nat → ClassId} {cO : ClassId} {ad av q : Nat → Nat} {sa sb x0 h6 qo : Nat} (E : lE p s m meth c b LL xs D cA cq cO ad av sa sb) {i : Int32} (hi : 0 ≤ i.toInt ∧ i.toInt + 6 ≤ (LL : Int)) {L : List Nat} {K : Nat → Nat} {I : Nat → Nat → Int32} {O : Nat → Nat → Option Nat} {F : Nat → Int32} {G : Nat → Nat → Int32} {f : Nat → Int64} {H : Heap} {locs : List Loc} {ls : Array Slot} (hM : lI s D cA cq cO q x0 h6 qo L K I O F G f H locs) (hl : lv_has ls 7 [(4, .int i), (3, .ref qo), (2, .ref h6), (1, .ref x0), (0, .ref b)]) {cells slots : Nat} (hc : cells + 10 ≤ 601024) (hs : slots + 82 ≤ 7293034)
    (kk : ∀ (L : List Nat) (K : Nat → Nat) (I : Nat → Nat → Int32) (O : Nat → Nat → Option Nat) (F : Nat → Int32) (G : Nat → Nat → Int32) (f : Nat → Int64) (H : Heap) (locs : List Loc) (ls : Array Slot), lI s D cA cq cO q x0 h6 qo L K I O F G f H locs → lv_has ls 7 [(4, .int i), (3, .ref qo), (2, .ref h6), (1, .ref x0), (0, .ref b)] → W p l e room_1 s m #[Value.ref b] below meth c H locs (cells + 10) (slots + 82) (lw_Z below #[Value.ref b] s) (F0 m 828 ls [])) : W p l e room_1 s m #[Value.ref b] below meth c H locs cells slots (lw_Z below #[Value.ref b] s) (F0 m 222 ls []) := by
  obtain ⟨⟨hx, hb, hr, hml, hown, hts0, hX, hbl, hlocks, hgv⟩, hLL, hKc, hKm, hKo, hV, hE, hN⟩ := id E
  have hts := fun w h => hts0 w (wl_in w h)
  have hA : ∀ x : Nat, s.heap.size ≤ x → lA s x := fun _ h => h
  have hbA : ¬ lA s b := Nat.not_le.mpr hbl
  obtain ⟨hP, hD, hS, hI, mx0, kx0, hm, r1, r2, r3, q1, q6, q8, hT, q10, hFm, q3, hRc, hXt, hFb, hNa⟩ := id hM
  obtain ⟨nn, hnn, mnn, knn, hna⟩ := id hNa
  obtain ⟨tp, fm_, htp, hmt, hkt, -, hz⟩ := id hT
  clear fm_
  obtain ⟨fm, rr, hfm, hrr, mfm, kfm, hgf⟩ := id hFm
  have q11 : (I x0 11).toInt = (F 31).toInt := by
    obtain ⟨_, _, _, _, _, _, q11, _⟩ := id hRc
    exact q11
  have a1 : vp_in (i + 1) LL := lw_in hi hLL 1 (by decide) (by omega)
  refine lv_aload_n hx hb dL_law_222 rfl (lv_at hl 3 rfl) ?_
  refine lv_aload_n hx hb dL_law_223 rfl (lv_at hl 4 rfl) ?_
  refine lv_iload hx hb dL_law_224 (lv_at hl 0 rfl) ?_
  refine lv_iconst (v := 1) hx hb dL_law_226 (by decide) ?_
  refine lv_iadd hx hb dL_law_227 ?_
  refine va_sld hx hb hX hbl hbA hS a1 dL_law_228 ?_
  refine lx_Vi (nL := 7) (vs := [.int (xs (i + 1).toNatClampNeg)]) (rest := []) ⟨hx, hb, hml, hown, hts⟩ hKc hV hA hP hD hS mx0 kx0 (h4_X5_fault l D cA ad av L K I O _ x0 (xs (i + 1).toNatClampNeg) hI mx0 kx0) (cwV 1 hts gl_X5_fault rfl rfl rfl (by decide +kernel) ⟨Nat.le_of_ble_eq_true rfl, Nat.le_of_ble_eq_true rfl⟩) rfl hl.1 rfl (Nat.le_of_ble_eq_true rfl) dL_law_229 ⟨show cells + 0 ≤ 601024 from by omega, show slots + 0 ≤ 7293034 from by omega⟩ (fun r_1 L1 K1 I1 O1 H locs hI1 hF1 hp1 hP hD hS => ?_)
  try dsimp only at hp1
  refine lv_pop hx hb dL_law_232 rfl ?_
  refine lv_aload_n hx hb dL_law_233 rfl (lv_at hl 2 rfl) ?_
  refine lv_aload_n hx hb dL_law_234 rfl (lv_at hl 4 rfl) ?_
  refine lv_iload hx hb dL_law_235 (lv_at hl 0 rfl) ?_
  refine lv_iconst (v := 1) hx hb dL_law_237 (by decide) ?_
  refine lv_iadd hx hb dL_law_238 ?_
  refine va_sld hx hb hX hbl hbA hS a1 dL_law_239 ?_
  refine lm_Vi (nL := 7) (vs := [.int (xs (i + 1).toNatClampNeg)]) (rest := []) ⟨hx, hb, hml, hown, hts⟩ hKm hA hP hD hS (g3_X6_fault l D h6 q cq F G _ (xs (i + 1).toNatClampNeg) hm ) (cwV 1 hts gl_X6_fault rfl rfl rfl (by decide +kernel) ⟨Nat.le_of_ble_eq_true rfl, Nat.le_of_ble_eq_true rfl⟩) rfl hl.1 rfl (Nat.le_of_ble_eq_true rfl) dL_law_240 ⟨show cells + 0 ≤ 601024 from by omega, show slots + 0 ≤ 7293034 from by omega⟩ (fun r_2 F1 G1 H locs hm1 hf1 hp2 hP hD hS => ?_)
  try dsimp only at hp2
  obtain ⟨m1, k1, fi, fo⟩ := hF1 x0 mx0 List.not_mem_nil
  rw [kx0] at fi fo
  have hM1 : lI s D cA cq cO q x0 h6 qo L1 K1 I1 O1 F1 G1 f H locs := ⟨hP, hD, hS, hI1, m1, (k1.trans kx0), hm1, (r1.fr hf1 (by decide) (by decide)), (r2.fr hf1 (by decide) (by decide)), (r3.fr hf1 (by decide) (by decide) (by decide)), (by rw [fi 1 (by decide), hf1.1 1 (by decide)]; exact q1), (by rw [fi 6 (by decide), hf1.1 3 (by decide)]; exact q6), (by rw [fi 8 (by decide), hf1.1 15 (by decide)]; exact q8), (lTp.fr hT mx0 kx0 hF1 hf1 (by decide) (by decide) (by decide) (by decide) (by decide)), (by rw [fi 10 (by decide), hf1.1 17 (by decide)]; exact q10), (lFm.fr hFm mx0 kx0 hF1 hf1 (fun _ => rfl) (by decide) (by decide) (by decide) (by decide)), (by rw [fi 3 (by decide), hf1.1 4 (by decide)]; exact q3), (lRc.fr hRc mx0 kx0 hF1 hf1 (lRf2 hF1 (fun _ => rfl)) (by decide) (by decide) (by decide) (by decide) (by decide) (by decide) (by decide) (by decide) (by decide) (by rw [hf1.1 15 (by decide)]; exact Int.le_refl _) (by decide)), (lXt.fr hRc hXt mx0 kx0 hF1 hf1 (lRf2 hF1 (fun _ => rfl)) (by decide) (by decide) (by decide) (by decide) (by decide) (fun _ => rfl) (fun _ => rfl) (by decide) (by decide) (by decide)), (hFb.fr hf1 (by decide)), (lNa.fr hNa mx0 kx0 hF1 hf1 (by decide) (by decide) (by decide) (by decide))⟩
  refine W.widen (k := cells + 10) (n := slots + 82) (by omega) (by omega) ?_
  refine lv_pop hx hb dL_law_243 rfl ?_
  refine lv_goto (tgt := 828) hx hb dL_law_244 (by decide) ?_
  exact kk _ _ _ _ _ _ _ _ _ _ hM1 hl
set_option maxHeartbeats 4000000 in
set_option maxRecDepth 100000 in
theorem law_case_3 {p : Program} {e : Env} {s : State} {m : MethodId} {below : List Frame} {meth : Method} {c : Code} (l : Launch) (hst : l.stackTraces = false) {b LL : Nat} {xs : Nat → Int32} {D : va_G} {cA cq : Nat → ClassId} {cO : ClassId} {ad av q : Nat → Nat} {sa sb x0 h6 qo : Nat} (E : lE p s m meth c b LL xs D cA cq cO ad av sa sb) {i : Int32} (hi : 0 ≤ i.toInt ∧ i.toInt + 6 ≤ (LL : Int)) {L : List Nat} {K : Nat → Nat} {I : Nat → Nat → Int32} {O : Nat → Nat → Option Nat} {F : Nat → Int32} {G : Nat → Nat → Int32} {f : Nat → Int64} {H : Heap} {locs : List Loc} {ls : Array Slot} (hM : lI s D cA cq cO q x0 h6 qo L K I O F G f H locs) (hl : lv_has ls 7 [(4, .int i), (3, .ref qo), (2, .ref h6), (1, .ref x0), (0, .ref b)]) {cells slots : Nat} (hc : cells + 10 ≤ 601024) (hs : slots + 82 ≤ 7293034)
    (kk : ∀ (L : List Nat) (K : Nat → Nat) (I : Nat → Nat → Int32) (O : Nat → Nat → Option Nat) (F : Nat → Int32) (G : Nat → Nat → Int32) (f : Nat → Int64) (H : Heap) (locs : List Loc) (ls : Array Slot), lI s D cA cq cO q x0 h6 qo L K I O F G f H locs → lv_has ls 7 [(4, .int i), (3, .ref qo), (2, .ref h6), (1, .ref x0), (0, .ref b)] → W p l e room_1 s m #[Value.ref b] below meth c H locs (cells + 10) (slots + 82) (lw_Z below #[Value.ref b] s) (F0 m 828 ls [])) : W p l e room_1 s m #[Value.ref b] below meth c H locs cells slots (lw_Z below #[Value.ref b] s) (F0 m 247 ls []) := by
  obtain ⟨⟨hx, hb, hr, hml, hown, hts0, hX, hbl, hlocks, hgv⟩, hLL, hKc, hKm, hKo, hV, hE, hN⟩ := id E
  have hts := fun w h => hts0 w (wl_in w h)
  have hA : ∀ x : Nat, s.heap.size ≤ x → lA s x := fun _ h => h
  have hbA : ¬ lA s b := Nat.not_le.mpr hbl
  obtain ⟨hP, hD, hS, hI, mx0, kx0, hm, r1, r2, r3, q1, q6, q8, hT, q10, hFm, q3, hRc, hXt, hFb, hNa⟩ := id hM
  obtain ⟨nn, hnn, mnn, knn, hna⟩ := id hNa
  obtain ⟨tp, fm_, htp, hmt, hkt, -, hz⟩ := id hT
  clear fm_
  obtain ⟨fm, rr, hfm, hrr, mfm, kfm, hgf⟩ := id hFm
  have q11 : (I x0 11).toInt = (F 31).toInt := by
    obtain ⟨_, _, _, _, _, _, q11, _⟩ := id hRc
    exact q11
  have a1 : vp_in (i + 1) LL := lw_in hi hLL 1 (by decide) (by omega)
  refine lv_aload_n hx hb dL_law_247 rfl (lv_at hl 3 rfl) ?_
  refine lv_aload_n hx hb dL_law_248 rfl (lv_at hl 4 rfl) ?_
  refine lv_iload hx hb dL_law_249 (lv_at hl 0 rfl) ?_
  refine lv_iconst (v := 1) hx hb dL_law_251 (by decide) ?_
  refine lv_iadd hx hb dL_law_252 ?_
  refine va_sld hx hb hX hbl hbA hS a1 dL_law_253 ?_
  refine lx_Vi (nL := 7) (vs := [.int (xs (i + 1).toNatClampNeg)]) (rest := []) ⟨hx, hb, hml, hown, hts⟩ hKc hV hA hP hD hS mx0 kx0 (h4_X5_pass l D cA ad av L K I O _ x0 (xs (i + 1).toNatClampNeg) hI mx0 kx0) (cwV 1 hts gl_X5_pass rfl rfl rfl (by decide +kernel) ⟨Nat.le_of_ble_eq_true rfl, Nat.le_of_ble_eq_true rfl⟩) rfl hl.1 rfl (Nat.le_of_ble_eq_true rfl) dL_law_254 ⟨show cells + 0 ≤ 601024 from by omega, show slots + 0 ≤ 7293034 from by omega⟩ (fun r_1 L1 K1 I1 O1 H locs hI1 hF1 hp1 hP hD hS => ?_)
  try dsimp only at hp1
  refine lv_pop hx hb dL_law_257 rfl ?_
  refine lv_aload_n hx hb dL_law_258 rfl (lv_at hl 2 rfl) ?_
  refine lv_aload_n hx hb dL_law_259 rfl (lv_at hl 4 rfl) ?_
  refine lv_iload hx hb dL_law_260 (lv_at hl 0 rfl) ?_
  refine lv_iconst (v := 1) hx hb dL_law_262 (by decide) ?_
  refine lv_iadd hx hb dL_law_263 ?_
  refine va_sld hx hb hX hbl hbA hS a1 dL_law_264 ?_
  refine lm_Vi (nL := 7) (vs := [.int (xs (i + 1).toNatClampNeg)]) (rest := []) ⟨hx, hb, hml, hown, hts⟩ hKm hA hP hD hS (g3_X6_pass l D h6 q cq F G _ (xs (i + 1).toNatClampNeg) hm ) (cwV 1 hts gl_X6_pass rfl rfl rfl (by decide +kernel) ⟨Nat.le_of_ble_eq_true rfl, Nat.le_of_ble_eq_true rfl⟩) rfl hl.1 rfl (Nat.le_of_ble_eq_true rfl) dL_law_265 ⟨show cells + 0 ≤ 601024 from by omega, show slots + 0 ≤ 7293034 from by omega⟩ (fun r_2 F1 G1 H locs hm1 hf1 hp2 hP hD hS => ?_)
  try dsimp only at hp2
  obtain ⟨m1, k1, fi, fo⟩ := hF1 x0 mx0 List.not_mem_nil
  rw [kx0] at fi fo
  have hM1 : lI s D cA cq cO q x0 h6 qo L1 K1 I1 O1 F1 G1 f H locs := ⟨hP, hD, hS, hI1, m1, (k1.trans kx0), hm1, (r1.fr hf1 (by decide) (by decide)), (r2.fr hf1 (by decide) (by decide)), (r3.fr hf1 (by decide) (by decide) (by decide)), (by rw [fi 1 (by decide), hf1.1 1 (by decide)]; exact q1), (by omega), (by rw [fi 8 (by decide), hf1.1 15 (by decide)]; exact q8), (lTp.fr hT mx0 kx0 hF1 hf1 (by decide) (by decide) (by decide) (by decide) (by decide)), (by rw [fi 10 (by decide), hf1.1 17 (by decide)]; exact q10), (lFm.fr hFm mx0 kx0 hF1 hf1 (fun _ => rfl) (by decide) (by decide) (by decide) (by decide)), (by rw [fi 3 (by decide), hf1.1 4 (by decide)]; exact q3), (lRc.fr hRc mx0 kx0 hF1 hf1 (lRf2 hF1 (fun _ => rfl)) (by decide) (by decide) (by decide) (by decide) (by decide) (by decide) (by decide) (by decide) (by decide) (by rw [hf1.1 15 (by decide)]; exact Int.le_refl _) (by decide)), (lXt.fr hRc hXt mx0 kx0 hF1 hf1 (lRf2 hF1 (fun _ => rfl)) (by decide) (by decide) (by decide) (by decide) (by decide) (fun _ => rfl) (fun _ => rfl) (by decide) (by decide) (by decide)), (hFb.fr hf1 (by decide)), (lNa.fr hNa mx0 kx0 hF1 hf1 (by decide) (by decide) (by decide) (by decide))⟩
  refine W.widen (k := cells + 10) (n := slots + 82) (by omega) (by omega) ?_
  refine lv_pop hx hb dL_law_268 rfl ?_
  refine lv_goto (tgt := 828) hx hb dL_law_269 (by decide) ?_
  exact kk _ _ _ _ _ _ _ _ _ _ hM1 hl
set_option maxHeartbeats 4000000 in
set_option maxRecDepth 100000 in
theorem law_case_4 {p : Program} {e : Env} {s : State} {m : MethodId} {below : List Frame} {meth : Method} {c : Code} (l : Launch) (hst : l.stackTraces = false) {b LL : Nat} {xs : Nat → Int32} {D : va_G} {cA cq : Nat → ClassId} {cO : ClassId} {ad av q : Nat → Nat} {sa sb x0 h6 qo : Nat} (E : lE p s m meth c b LL xs D cA cq cO ad av sa sb) {i : Int32} (hi : 0 ≤ i.toInt ∧ i.toInt + 6 ≤ (LL : Int)) {L : List Nat} {K : Nat → Nat} {I : Nat → Nat → Int32} {O : Nat → Nat → Option Nat} {F : Nat → Int32} {G : Nat → Nat → Int32} {f : Nat → Int64} {H : Heap} {locs : List Loc} {ls : Array Slot} (hM : lI s D cA cq cO q x0 h6 qo L K I O F G f H locs) (hl : lv_has ls 7 [(4, .int i), (3, .ref qo), (2, .ref h6), (1, .ref x0), (0, .ref b)]) {cells slots : Nat} (hc : cells + 10 ≤ 601024) (hs : slots + 82 ≤ 7293034)
    (kk : ∀ (L : List Nat) (K : Nat → Nat) (I : Nat → Nat → Int32) (O : Nat → Nat → Option Nat) (F : Nat → Int32) (G : Nat → Nat → Int32) (f : Nat → Int64) (H : Heap) (locs : List Loc) (ls : Array Slot), lI s D cA cq cO q x0 h6 qo L K I O F G f H locs → lv_has ls 7 [(4, .int i), (3, .ref qo), (2, .ref h6), (1, .ref x0), (0, .ref b)] → W p l e room_1 s m #[Value.ref b] below meth c H locs (cells + 10) (slots + 82) (lw_Z below #[Value.ref b] s) (F0 m 828 ls [])) : W p l e room_1 s m #[Value.ref b] below meth c H locs cells slots (lw_Z below #[Value.ref b] s) (F0 m 272 ls []) := by
  obtain ⟨⟨hx, hb, hr, hml, hown, hts0, hX, hbl, hlocks, hgv⟩, hLL, hKc, hKm, hKo, hV, hE, hN⟩ := id E
  have hts := fun w h => hts0 w (wl_in w h)
  have hA : ∀ x : Nat, s.heap.size ≤ x → lA s x := fun _ h => h
  have hbA : ¬ lA s b := Nat.not_le.mpr hbl
  obtain ⟨hP, hD, hS, hI, mx0, kx0, hm, r1, r2, r3, q1, q6, q8, hT, q10, hFm, q3, hRc, hXt, hFb, hNa⟩ := id hM
  obtain ⟨nn, hnn, mnn, knn, hna⟩ := id hNa
  obtain ⟨tp, fm_, htp, hmt, hkt, -, hz⟩ := id hT
  clear fm_
  obtain ⟨fm, rr, hfm, hrr, mfm, kfm, hgf⟩ := id hFm
  have q11 : (I x0 11).toInt = (F 31).toInt := by
    obtain ⟨_, _, _, _, _, _, q11, _⟩ := id hRc
    exact q11
  have a1 : vp_in (i + 1) LL := lw_in hi hLL 1 (by decide) (by omega)
  refine lv_aload_n hx hb dL_law_272 rfl (lv_at hl 3 rfl) ?_
  refine lv_aload_n hx hb dL_law_273 rfl (lv_at hl 4 rfl) ?_
  refine lv_iload hx hb dL_law_274 (lv_at hl 0 rfl) ?_
  refine lv_iconst (v := 1) hx hb dL_law_276 (by decide) ?_
  refine lv_iadd hx hb dL_law_277 ?_
  refine va_sld hx hb hX hbl hbA hS a1 dL_law_278 ?_
  refine lx_Vi (nL := 7) (vs := [.int (xs (i + 1).toNatClampNeg)]) (rest := []) ⟨hx, hb, hml, hown, hts⟩ hKc hV hA hP hD hS mx0 kx0 (h5_X5_racer l D cA ad av L K I O _ x0 (xs (i + 1).toNatClampNeg) hI mx0 kx0 nn hnn) (cwV 1 hts gl_X5_racer rfl rfl rfl (by decide +kernel) ⟨Nat.le_of_ble_eq_true rfl, Nat.le_of_ble_eq_true rfl⟩) rfl hl.1 rfl (Nat.le_of_ble_eq_true rfl) dL_law_279 ⟨show cells + 0 ≤ 601024 from by omega, show slots + 0 ≤ 7293034 from by omega⟩ (fun r_1 L1 K1 I1 O1 H locs hI1 hF1 hp1 hP hD hS => ?_)
  try dsimp only at hp1
  refine lv_pop hx hb dL_law_282 rfl ?_
  refine lv_aload_n hx hb dL_law_283 rfl (lv_at hl 2 rfl) ?_
  refine lv_aload_n hx hb dL_law_284 rfl (lv_at hl 4 rfl) ?_
  refine lv_iload hx hb dL_law_285 (lv_at hl 0 rfl) ?_
  refine lv_iconst (v := 1) hx hb dL_law_287 (by decide) ?_
  refine lv_iadd hx hb dL_law_288 ?_
  refine va_sld hx hb hX hbl hbA hS a1 dL_law_289 ?_
  refine lm_Vi (nL := 7) (vs := [.int (xs (i + 1).toNatClampNeg)]) (rest := []) ⟨hx, hb, hml, hown, hts⟩ hKm hA hP hD hS (g7_X6_racer l D h6 q cq F G _ (xs (i + 1).toNatClampNeg) hm ) (cwV 1 hts gl_X6_racer rfl rfl rfl (by decide +kernel) ⟨Nat.le_of_ble_eq_true rfl, Nat.le_of_ble_eq_true rfl⟩) rfl hl.1 rfl (Nat.le_of_ble_eq_true rfl) dL_law_290 ⟨show cells + 0 ≤ 601024 from by omega, show slots + 0 ≤ 7293034 from by omega⟩ (fun r_2 F1 G1 H locs hm1 hf1 hp2 hP hD hS => ?_)
  try dsimp only at hp2
  obtain ⟨m1, k1, fi, fo⟩ := hF1 x0 mx0 List.not_mem_nil
  rw [kx0] at fi fo
  obtain ⟨hr12, q8n, h15n, hNa1⟩ := lNa_racer hNa mx0 kx0 hnn q8 hm hF1 hp1 hp2
  clear hp1 hp2
  have hM1 : lI s D cA cq cO q x0 h6 qo L1 K1 I1 O1 F1 G1 f H locs := ⟨hP, hD, hS, hI1, m1, (k1.trans kx0), hm1, (r1.fr hf1 (by decide) (by decide)), (r2.fr hf1 (by decide) (by decide)), (r3.fr hf1 (by decide) (by decide) (by decide)), (by rw [fi 1 (by decide), hf1.1 1 (by decide)]; exact q1), (by rw [fi 6 (by decide), hf1.1 3 (by decide)]; exact q6), (by omega), (lTp.fr hT mx0 kx0 hF1 hf1 (by decide) (by decide) (by decide) (by decide) (by decide)), (by rw [fi 10 (by decide), hf1.1 17 (by decide)]; exact q10), (lFm.fr hFm mx0 kx0 hF1 hf1 (fun _ => rfl) (by decide) (by decide) (by decide) (by decide)), (by rw [fi 3 (by decide), hf1.1 4 (by decide)]; exact q3), (lRc.fr hRc mx0 kx0 hF1 hf1 (lRf2 hF1 (fun _ => rfl)) (by decide) (by decide) (by decide) (by decide) (by decide) (by decide) (by decide) (by decide) (by decide) (by omega) (by decide)), (lXt.fr hRc hXt mx0 kx0 hF1 hf1 (lRf2 hF1 (fun _ => rfl)) (by decide) (by decide) (by decide) (by decide) (by decide) (fun _ => rfl) (fun _ => rfl) (by decide) (by decide) (by decide)), (hFb.fr hf1 (by decide)), hNa1⟩
  refine W.widen (k := cells + 10) (n := slots + 82) (by omega) (by omega) ?_
  refine lv_pop hx hb dL_law_293 rfl ?_
  refine lv_goto (tgt := 828) hx hb dL_law_294 (by decide) ?_
  exact kk _ _ _ _ _ _ _ _ _ _ hM1 hl
set_option maxHeartbeats 4000000 in
set_option maxRecDepth 100000 in
theorem law_case_5 {p : Program} {e : Env} {s : State} {m : MethodId} {below : List Frame} {meth : Method} {c : Code} (l : Launch) (hst : l.stackTraces = false) {b LL : Nat} {xs : Nat → Int32} {D : va_G} {cA cq : Nat → ClassId} {cO : ClassId} {ad av q : Nat → Nat} {sa sb x0 h6 qo : Nat} (E : lE p s m meth c b LL xs D cA cq cO ad av sa sb) {i : Int32} (hi : 0 ≤ i.toInt ∧ i.toInt + 6 ≤ (LL : Int)) {L : List Nat} {K : Nat → Nat} {I : Nat → Nat → Int32} {O : Nat → Nat → Option Nat} {F : Nat → Int32} {G : Nat → Nat → Int32} {f : Nat → Int64} {H : Heap} {locs : List Loc} {ls : Array Slot} (hM : lI s D cA cq cO q x0 h6 qo L K I O F G f H locs) (hl : lv_has ls 7 [(4, .int i), (3, .ref qo), (2, .ref h6), (1, .ref x0), (0, .ref b)]) {cells slots : Nat} (hc : cells + 10 ≤ 601024) (hs : slots + 82 ≤ 7293034)
    (kk : ∀ (L : List Nat) (K : Nat → Nat) (I : Nat → Nat → Int32) (O : Nat → Nat → Option Nat) (F : Nat → Int32) (G : Nat → Nat → Int32) (f : Nat → Int64) (H : Heap) (locs : List Loc) (ls : Array Slot), lI s D cA cq cO q x0 h6 qo L K I O F G f H locs → lv_has ls 7 [(4, .int i), (3, .ref qo), (2, .ref h6), (1, .ref x0), (0, .ref b)] → W p l e room_1 s m #[Value.ref b] below meth c H locs (cells + 10) (slots + 82) (lw_Z below #[Value.ref b] s) (F0 m 828 ls [])) : W p l e room_1 s m #[Value.ref b] below meth c H locs cells slots (lw_Z below #[Value.ref b] s) (F0 m 297 ls []) := by
  obtain ⟨⟨hx, hb, hr, hml, hown, hts0, hX, hbl, hlocks, hgv⟩, hLL, hKc, hKm, hKo, hV, hE, hN⟩ := id E
  have hts := fun w h => hts0 w (wl_in w h)
  have hA : ∀ x : Nat, s.heap.size ≤ x → lA s x := fun _ h => h
  have hbA : ¬ lA s b := Nat.not_le.mpr hbl
  obtain ⟨hP, hD, hS, hI, mx0, kx0, hm, r1, r2, r3, q1, q6, q8, hT, q10, hFm, q3, hRc, hXt, hFb, hNa⟩ := id hM
  obtain ⟨nn, hnn, mnn, knn, hna⟩ := id hNa
  obtain ⟨tp, fm_, htp, hmt, hkt, -, hz⟩ := id hT
  clear fm_
  obtain ⟨fm, rr, hfm, hrr, mfm, kfm, hgf⟩ := id hFm
  have q11 : (I x0 11).toInt = (F 31).toInt := by
    obtain ⟨_, _, _, _, _, _, q11, _⟩ := id hRc
    exact q11
  have a1 : vp_in (i + 1) LL := lw_in hi hLL 1 (by decide) (by omega)
  have a2 : vp_in (i + 2) LL := lw_in hi hLL 2 (by decide) (by omega)
  refine lv_aload_n hx hb dL_law_297 rfl (lv_at hl 3 rfl) ?_
  refine lv_aload_n hx hb dL_law_298 rfl (lv_at hl 4 rfl) ?_
  refine lv_iload hx hb dL_law_299 (lv_at hl 0 rfl) ?_
  refine lv_iconst (v := 1) hx hb dL_law_301 (by decide) ?_
  refine lv_iadd hx hb dL_law_302 ?_
  refine va_sld hx hb hX hbl hbA hS a1 dL_law_303 ?_
  refine lv_aload_n hx hb dL_law_304 rfl (lv_at hl 4 rfl) ?_
  refine lv_iload hx hb dL_law_305 (lv_at hl 0 rfl) ?_
  refine lv_iconst (v := 2) hx hb dL_law_307 (by decide) ?_
  refine lv_iadd hx hb dL_law_308 ?_
  refine va_sld hx hb hX hbl hbA hS a2 dL_law_309 ?_
  refine lx_Vi (nL := 7) (vs := [.int (xs (i + 1).toNatClampNeg), .int (xs (i + 2).toNatClampNeg)]) (rest := []) ⟨hx, hb, hml, hown, hts⟩ hKc hV hA hP hD hS mx0 kx0 (h5_X5_race l D cA ad av L K I O _ x0 (xs (i + 1).toNatClampNeg) (xs (i + 2).toNatClampNeg) hI mx0 kx0 fm hfm (O fm (Int32.toNatClampNeg (xs (i + 1).toNatClampNeg))) rfl rr hrr) (cwV 2 hts gl_X5_race rfl rfl rfl (by decide +kernel) ⟨Nat.le_of_ble_eq_true rfl, Nat.le_of_ble_eq_true rfl⟩) rfl hl.1 rfl (Nat.le_of_ble_eq_true rfl) dL_law_310 ⟨show cells + 2 ≤ 601024 from by omega, show slots + 23 ≤ 7293034 from by omega⟩ (fun r_1 L1 K1 I1 O1 H locs hI1 hF1 hp1 hP hD hS => ?_)
  try dsimp only at hp1
  refine lv_pop hx hb dL_law_313 rfl ?_
  refine lv_aload_n hx hb dL_law_314 rfl (lv_at hl 2 rfl) ?_
  refine lv_aload_n hx hb dL_law_315 rfl (lv_at hl 4 rfl) ?_
  refine lv_iload hx hb dL_law_316 (lv_at hl 0 rfl) ?_
  refine lv_iconst (v := 1) hx hb dL_law_318 (by decide) ?_
  refine lv_iadd hx hb dL_law_319 ?_
  refine va_sld hx hb hX hbl hbA hS a1 dL_law_320 ?_
  refine lv_aload_n hx hb dL_law_321 rfl (lv_at hl 4 rfl) ?_
  refine lv_iload hx hb dL_law_322 (lv_at hl 0 rfl) ?_
  refine lv_iconst (v := 2) hx hb dL_law_324 (by decide) ?_
  refine lv_iadd hx hb dL_law_325 ?_
  refine va_sld hx hb hX hbl hbA hS a2 dL_law_326 ?_
  refine lm_Vi (nL := 7) (vs := [.int (xs (i + 1).toNatClampNeg), .int (xs (i + 2).toNatClampNeg)]) (rest := []) ⟨hx, hb, hml, hown, hts⟩ hKm hA hP hD hS (g7_X6_race l D h6 q cq F G _ (xs (i + 1).toNatClampNeg) (xs (i + 2).toNatClampNeg) hm r2 r3) (cwV 2 hts gl_X6_race rfl rfl rfl (by decide +kernel) ⟨Nat.le_of_ble_eq_true rfl, Nat.le_of_ble_eq_true rfl⟩) rfl hl.1 rfl (Nat.le_of_ble_eq_true rfl) dL_law_327 ⟨show cells + 2 ≤ 601024 from by omega, show slots + 23 ≤ 7293034 from by omega⟩ (fun r_2 F1 G1 H locs hm1 hf1 hp2 hP hD hS => ?_)
  try dsimp only at hp2
  obtain ⟨m1, k1, fi, fo⟩ := hF1 x0 mx0 List.not_mem_nil
  rw [kx0] at fi fo
  have r3n := hp2.2
  have hg5 : (0 ≤ (xs (i + 1).toNatClampNeg).toInt ∧ (xs (i + 1).toNatClampNeg).toInt < 8) → (O fm (Int32.toNatClampNeg (xs (i + 1).toNatClampNeg)) = none ∧ (G 5 (Int32.toNatClampNeg (xs (i + 1).toNatClampNeg))).toInt = 0) ∨ (¬ (G 5 (Int32.toNatClampNeg (xs (i + 1).toNatClampNeg))).toInt = 0 ∧ ∃ a : Nat, O fm (Int32.toNatClampNeg (xs (i + 1).toNatClampNeg)) = some a ∧ a ∈ L ∧ K a = 2 ∧ ((I a 0).toInt = (xs (i + 1).toNatClampNeg).toInt ∧ (I a 1).toInt = (G 5 (Int32.toNatClampNeg (xs (i + 1).toNatClampNeg))).toInt ∧ (I a 2).toInt = (G 6 (Int32.toNatClampNeg (xs (i + 1).toNatClampNeg))).toInt ∧ (I a 3).toInt = (G 8 (Int32.toNatClampNeg (xs (i + 1).toNatClampNeg))).toInt ∧ (I a 5).toInt = (G 10 (Int32.toNatClampNeg (xs (i + 1).toNatClampNeg))).toInt ∧ (I a 6).toInt + 9 = (G 11 (Int32.toNatClampNeg (xs (i + 1).toNatClampNeg))).toInt ∧ (I a 7).toInt = (G 12 (Int32.toNatClampNeg (xs (i + 1).toNatClampNeg))).toInt)) := fun h9 => by
    rcases hgf (Int32.toNatClampNeg (xs (i + 1).toNatClampNeg)) (mm_cl ⟨by omega, by omega⟩) with a | ⟨a, x, b9, mx, kx, xn, d⟩
    · exact Or.inl a
    · have e1 : (I x 1).toInt = (G 5 (Int32.toNatClampNeg (xs (i + 1).toNatClampNeg))).toInt := d 1 (by omega) (by omega)
      have e2 : (I x 2).toInt = (G 6 (Int32.toNatClampNeg (xs (i + 1).toNatClampNeg))).toInt := d 2 (by omega) (by omega)
      have e3 : (I x 3).toInt = (G 8 (Int32.toNatClampNeg (xs (i + 1).toNatClampNeg))).toInt := d 3 (by omega) (by omega)
      have e5 : (I x 5).toInt = (G 10 (Int32.toNatClampNeg (xs (i + 1).toNatClampNeg))).toInt := d 5 (by omega) (by omega)
      have e7 : (I x 7).toInt = (G 12 (Int32.toNatClampNeg (xs (i + 1).toNatClampNeg))).toInt := d 7 (by omega) (by omega)
      have e6 : (I x 6).toInt = (G 11 (Int32.toNatClampNeg (xs (i + 1).toNatClampNeg))).toInt - 9 := d 6 (by omega) (by omega)
      rw [mm_nat (xs (i + 1).toNatClampNeg)] at xn
      exact Or.inr ⟨a, x, b9, mx, kx, by omega, e1, e2, e3, e5, by omega, e7⟩
  obtain ⟨hr12, q10n, hRc1⟩ := lRace hRc hm mx0 kx0 hrr q10 hg5 hF1 hf1 hp1 hp2
  have hg4 : (0 ≤ (xs (i + 1).toNatClampNeg).toInt ∧ (xs (i + 1).toNatClampNeg).toInt < 8) → ¬ (G 5 (Int32.toNatClampNeg (xs (i + 1).toNatClampNeg))).toInt = 0 → ∀ a : Nat, O fm (Int32.toNatClampNeg (xs (i + 1).toNatClampNeg)) = some a → a ∈ L ∧ K a = 2 ∧ (I a 4).toInt = (G 9 (Int32.toNatClampNeg (xs (i + 1).toNatClampNeg))).toInt := fun h9 h5 a ha => by
    rcases hgf (Int32.toNatClampNeg (xs (i + 1).toNatClampNeg)) (mm_cl ⟨by omega, by omega⟩) with ⟨-, z⟩ | ⟨-, x, b9, mx, kx, -, d⟩
    · exact absurd z h5
    · have e9 : x = a := Option.some.inj (b9.symm.trans ha)
      subst e9
      exact ⟨mx, kx, d 4 (by omega) (by omega)⟩
  have hXt1 := lRaceX hRc hXt hm mx0 kx0 hrr q10 hFb hg4 hF1 hf1 hr12 hp1 hp2
  clear hp1 hp2
  have hM1 : lI s D cA cq cO q x0 h6 qo L1 K1 I1 O1 F1 G1 f H locs := ⟨hP, hD, hS, hI1, m1, (k1.trans kx0), hm1, (r1.fr hf1 (by decide) (by decide)), (r2.fr hf1 (by decide) (by decide)), r3n, (by rw [fi 1 (by decide), hf1.1 1 (by decide)]; exact q1), (by rw [fi 6 (by decide), hf1.1 3 (by decide)]; exact q6), (by rw [fi 8 (by decide), hf1.1 15 (by decide)]; exact q8), (lTp.fr hT mx0 kx0 hF1 hf1 (by decide) (by decide) (by decide) (by decide) (by decide)), q10n, (lFm.fr hFm mx0 kx0 hF1 hf1 (fun _ => rfl) (by decide) (by decide) (by decide) (by decide)), (by rw [fi 3 (by decide), hf1.1 4 (by decide)]; exact q3), hRc1, hXt1, (hFb.fr hf1 (by decide)), (lNa.fr hNa mx0 kx0 hF1 hf1 (by decide) (by decide) (by decide) (by decide))⟩
  refine W.widen (k := cells + 10) (n := slots + 82) (by omega) (by omega) ?_
  refine lv_pop hx hb dL_law_330 rfl ?_
  refine lv_goto (tgt := 828) hx hb dL_law_331 (by decide) ?_
  exact kk _ _ _ _ _ _ _ _ _ _ hM1 hl
set_option maxHeartbeats 4000000 in
set_option maxRecDepth 100000 in
theorem law_case_6 {p : Program} {e : Env} {s : State} {m : MethodId} {below : List Frame} {meth : Method} {c : Code} (l : Launch) (hst : l.stackTraces = false) {b LL : Nat} {xs : Nat → Int32} {D : va_G} {cA cq : Nat → ClassId} {cO : ClassId} {ad av q : Nat → Nat} {sa sb x0 h6 qo : Nat} (E : lE p s m meth c b LL xs D cA cq cO ad av sa sb) {i : Int32} (hi : 0 ≤ i.toInt ∧ i.toInt + 6 ≤ (LL : Int)) {L : List Nat} {K : Nat → Nat} {I : Nat → Nat → Int32} {O : Nat → Nat → Option Nat} {F : Nat → Int32} {G : Nat → Nat → Int32} {f : Nat → Int64} {H : Heap} {locs : List Loc} {ls : Array Slot} (hM : lI s D cA cq cO q x0 h6 qo L K I O F G f H locs) (hl : lv_has ls 7 [(4, .int i), (3, .ref qo), (2, .ref h6), (1, .ref x0), (0, .ref b)]) {cells slots : Nat} (hc : cells + 10 ≤ 601024) (hs : slots + 82 ≤ 7293034)
    (kk : ∀ (L : List Nat) (K : Nat → Nat) (I : Nat → Nat → Int32) (O : Nat → Nat → Option Nat) (F : Nat → Int32) (G : Nat → Nat → Int32) (f : Nat → Int64) (H : Heap) (locs : List Loc) (ls : Array Slot), lI s D cA cq cO q x0 h6 qo L K I O F G f H locs → lv_has ls 7 [(4, .int i), (3, .ref qo), (2, .ref h6), (1, .ref x0), (0, .ref b)] → W p l e room_1 s m #[Value.ref b] below meth c H locs (cells + 10) (slots + 82) (lw_Z below #[Value.ref b] s) (F0 m 828 ls [])) : W p l e room_1 s m #[Value.ref b] below meth c H locs cells slots (lw_Z below #[Value.ref b] s) (F0 m 334 ls []) := by
  obtain ⟨⟨hx, hb, hr, hml, hown, hts0, hX, hbl, hlocks, hgv⟩, hLL, hKc, hKm, hKo, hV, hE, hN⟩ := id E
  have hts := fun w h => hts0 w (wl_in w h)
  have hA : ∀ x : Nat, s.heap.size ≤ x → lA s x := fun _ h => h
  have hbA : ¬ lA s b := Nat.not_le.mpr hbl
  obtain ⟨hP, hD, hS, hI, mx0, kx0, hm, r1, r2, r3, q1, q6, q8, hT, q10, hFm, q3, hRc, hXt, hFb, hNa⟩ := id hM
  obtain ⟨nn, hnn, mnn, knn, hna⟩ := id hNa
  obtain ⟨tp, fm_, htp, hmt, hkt, -, hz⟩ := id hT
  clear fm_
  obtain ⟨fm, rr, hfm, hrr, mfm, kfm, hgf⟩ := id hFm
  have q11 : (I x0 11).toInt = (F 31).toInt := by
    obtain ⟨_, _, _, _, _, _, q11, _⟩ := id hRc
    exact q11
  have a1 : vp_in (i + 1) LL := lw_in hi hLL 1 (by decide) (by omega)
  have a2 : vp_in (i + 2) LL := lw_in hi hLL 2 (by decide) (by omega)
  refine lv_aload_n hx hb dL_law_334 rfl (lv_at hl 3 rfl) ?_
  refine lv_aload_n hx hb dL_law_335 rfl (lv_at hl 4 rfl) ?_
  refine lv_iload hx hb dL_law_336 (lv_at hl 0 rfl) ?_
  refine lv_iconst (v := 1) hx hb dL_law_338 (by decide) ?_
  refine lv_iadd hx hb dL_law_339 ?_
  refine va_sld hx hb hX hbl hbA hS a1 dL_law_340 ?_
  refine lv_aload_n hx hb dL_law_341 rfl (lv_at hl 4 rfl) ?_
  refine lv_iload hx hb dL_law_342 (lv_at hl 0 rfl) ?_
  refine lv_iconst (v := 2) hx hb dL_law_344 (by decide) ?_
  refine lv_iadd hx hb dL_law_345 ?_
  refine va_sld hx hb hX hbl hbA hS a2 dL_law_346 ?_
  refine lx_Vi (nL := 7) (vs := [.int (xs (i + 1).toNatClampNeg), .int (xs (i + 2).toNatClampNeg)]) (rest := []) ⟨hx, hb, hml, hown, hts⟩ hKc hV hA hP hD hS mx0 kx0 (h5_X5_enter l D cA ad av L K I O _ x0 (xs (i + 1).toNatClampNeg) (xs (i + 2).toNatClampNeg) hI mx0 kx0 rr hrr) (cwV 2 hts gl_X5_enter rfl rfl rfl (by decide +kernel) ⟨Nat.le_of_ble_eq_true rfl, Nat.le_of_ble_eq_true rfl⟩) rfl hl.1 rfl (Nat.le_of_ble_eq_true rfl) dL_law_347 ⟨show cells + 1 ≤ 601024 from by omega, show slots + 10 ≤ 7293034 from by omega⟩ (fun r_1 L1 K1 I1 O1 H locs hI1 hF1 hp1 hP hD hS => ?_)
  try dsimp only at hp1
  refine lv_pop hx hb dL_law_350 rfl ?_
  refine lv_aload_n hx hb dL_law_351 rfl (lv_at hl 2 rfl) ?_
  refine lv_aload_n hx hb dL_law_352 rfl (lv_at hl 4 rfl) ?_
  refine lv_iload hx hb dL_law_353 (lv_at hl 0 rfl) ?_
  refine lv_iconst (v := 1) hx hb dL_law_355 (by decide) ?_
  refine lv_iadd hx hb dL_law_356 ?_
  refine va_sld hx hb hX hbl hbA hS a1 dL_law_357 ?_
  refine lv_aload_n hx hb dL_law_358 rfl (lv_at hl 4 rfl) ?_
  refine lv_iload hx hb dL_law_359 (lv_at hl 0 rfl) ?_
  refine lv_iconst (v := 2) hx hb dL_law_361 (by decide) ?_
  refine lv_iadd hx hb dL_law_362 ?_
  refine va_sld hx hb hX hbl hbA hS a2 dL_law_363 ?_
  refine lm_Vi (nL := 7) (vs := [.int (xs (i + 1).toNatClampNeg), .int (xs (i + 2).toNatClampNeg)]) (rest := []) ⟨hx, hb, hml, hown, hts⟩ hKm hA hP hD hS (g7_X6_enter l D h6 q cq F G _ (xs (i + 1).toNatClampNeg) (xs (i + 2).toNatClampNeg) hm r1) (cwV 2 hts gl_X6_enter rfl rfl rfl (by decide +kernel) ⟨Nat.le_of_ble_eq_true rfl, Nat.le_of_ble_eq_true rfl⟩) rfl hl.1 rfl (Nat.le_of_ble_eq_true rfl) dL_law_364 ⟨show cells + 1 ≤ 601024 from by omega, show slots + 10 ≤ 7293034 from by omega⟩ (fun r_2 F1 G1 H locs hm1 hf1 hp2 hP hD hS => ?_)
  try dsimp only at hp2
  obtain ⟨m1, k1, fi, fo⟩ := hF1 x0 mx0 List.not_mem_nil
  rw [kx0] at fi fo
  obtain ⟨r1n, hp2⟩ := hp2
  obtain ⟨hr12, hRc1⟩ := lEnter hRc hm mx0 kx0 hrr q8 q10 hF1 hf1 hp1 hp2
  have hXt1 := lEnterX hRc hXt hm mx0 kx0 hrr q10 hF1 hf1 hr12 hp1 hp2
  clear hp1 hp2
  have hM1 : lI s D cA cq cO q x0 h6 qo L1 K1 I1 O1 F1 G1 f H locs := ⟨hP, hD, hS, hI1, m1, (k1.trans kx0), hm1, r1n, (r2.fr hf1 (by decide) (by decide)), (r3.fr hf1 (by decide) (by decide) (by decide)), (by rw [fi 1 (by decide), hf1.1 1 (by decide)]; exact q1), (by rw [fi 6 (by decide), hf1.1 3 (by decide)]; exact q6), (by rw [fi 8 (by decide), hf1.1 15 (by decide)]; exact q8), (lTp.fr hT mx0 kx0 hF1 hf1 (by decide) (by decide) (by decide) (by decide) (by decide)), (by rw [fi 10 (by decide), hf1.1 17 (by decide)]; exact q10), (lFm.fr hFm mx0 kx0 hF1 hf1 (fun _ => rfl) (by decide) (by decide) (by decide) (by decide)), (by rw [fi 3 (by decide), hf1.1 4 (by decide)]; exact q3), hRc1, hXt1, (hFb.fr hf1 (by decide)), (lNa.fr hNa mx0 kx0 hF1 hf1 (by decide) (by decide) (by decide) (by decide))⟩
  refine W.widen (k := cells + 10) (n := slots + 82) (by omega) (by omega) ?_
  refine lv_pop hx hb dL_law_367 rfl ?_
  refine lv_goto (tgt := 828) hx hb dL_law_368 (by decide) ?_
  exact kk _ _ _ _ _ _ _ _ _ _ hM1 hl
set_option maxHeartbeats 4000000 in
set_option maxRecDepth 100000 in
theorem law_case_7 {p : Program} {e : Env} {s : State} {m : MethodId} {below : List Frame} {meth : Method} {c : Code} (l : Launch) (hst : l.stackTraces = false) {b LL : Nat} {xs : Nat → Int32} {D : va_G} {cA cq : Nat → ClassId} {cO : ClassId} {ad av q : Nat → Nat} {sa sb x0 h6 qo : Nat} (E : lE p s m meth c b LL xs D cA cq cO ad av sa sb) {i : Int32} (hi : 0 ≤ i.toInt ∧ i.toInt + 6 ≤ (LL : Int)) {L : List Nat} {K : Nat → Nat} {I : Nat → Nat → Int32} {O : Nat → Nat → Option Nat} {F : Nat → Int32} {G : Nat → Nat → Int32} {f : Nat → Int64} {H : Heap} {locs : List Loc} {ls : Array Slot} (hM : lI s D cA cq cO q x0 h6 qo L K I O F G f H locs) (hl : lv_has ls 7 [(4, .int i), (3, .ref qo), (2, .ref h6), (1, .ref x0), (0, .ref b)]) {cells slots : Nat} (hc : cells + 10 ≤ 601024) (hs : slots + 82 ≤ 7293034)
    (kk : ∀ (L : List Nat) (K : Nat → Nat) (I : Nat → Nat → Int32) (O : Nat → Nat → Option Nat) (F : Nat → Int32) (G : Nat → Nat → Int32) (f : Nat → Int64) (H : Heap) (locs : List Loc) (ls : Array Slot), lI s D cA cq cO q x0 h6 qo L K I O F G f H locs → lv_has ls 7 [(4, .int i), (3, .ref qo), (2, .ref h6), (1, .ref x0), (0, .ref b)] → W p l e room_1 s m #[Value.ref b] below meth c H locs (cells + 10) (slots + 82) (lw_Z below #[Value.ref b] s) (F0 m 828 ls [])) : W p l e room_1 s m #[Value.ref b] below meth c H locs cells slots (lw_Z below #[Value.ref b] s) (F0 m 371 ls []) := by
  obtain ⟨⟨hx, hb, hr, hml, hown, hts0, hX, hbl, hlocks, hgv⟩, hLL, hKc, hKm, hKo, hV, hE, hN⟩ := id E
  have hts := fun w h => hts0 w (wl_in w h)
  have hA : ∀ x : Nat, s.heap.size ≤ x → lA s x := fun _ h => h
  have hbA : ¬ lA s b := Nat.not_le.mpr hbl
  obtain ⟨hP, hD, hS, hI, mx0, kx0, hm, r1, r2, r3, q1, q6, q8, hT, q10, hFm, q3, hRc, hXt, hFb, hNa⟩ := id hM
  obtain ⟨nn, hnn, mnn, knn, hna⟩ := id hNa
  obtain ⟨tp, fm_, htp, hmt, hkt, -, hz⟩ := id hT
  clear fm_
  obtain ⟨fm, rr, hfm, hrr, mfm, kfm, hgf⟩ := id hFm
  have q11 : (I x0 11).toInt = (F 31).toInt := by
    obtain ⟨_, _, _, _, _, _, q11, _⟩ := id hRc
    exact q11
  have a1 : vp_in (i + 1) LL := lw_in hi hLL 1 (by decide) (by omega)
  have a2 : vp_in (i + 2) LL := lw_in hi hLL 2 (by decide) (by omega)
  have a3 : vp_in (i + 3) LL := lw_in hi hLL 3 (by decide) (by omega)
  have a4 : vp_in (i + 4) LL := lw_in hi hLL 4 (by decide) (by omega)
  have a5 : vp_in (i + 5) LL := lw_in hi hLL 5 (by decide) (by omega)
  refine lv_aload_n hx hb dL_law_371 rfl (lv_at hl 3 rfl) ?_
  refine lv_aload_n hx hb dL_law_372 rfl (lv_at hl 4 rfl) ?_
  refine lv_iload hx hb dL_law_373 (lv_at hl 0 rfl) ?_
  refine lv_iconst (v := 1) hx hb dL_law_375 (by decide) ?_
  refine lv_iadd hx hb dL_law_376 ?_
  refine va_sld hx hb hX hbl hbA hS a1 dL_law_377 ?_
  refine lv_aload_n hx hb dL_law_378 rfl (lv_at hl 4 rfl) ?_
  refine lv_iload hx hb dL_law_379 (lv_at hl 0 rfl) ?_
  refine lv_iconst (v := 2) hx hb dL_law_381 (by decide) ?_
  refine lv_iadd hx hb dL_law_382 ?_
  refine va_sld hx hb hX hbl hbA hS a2 dL_law_383 ?_
  refine lv_aload_n hx hb dL_law_384 rfl (lv_at hl 4 rfl) ?_
  refine lv_iload hx hb dL_law_385 (lv_at hl 0 rfl) ?_
  refine lv_iconst (v := 3) hx hb dL_law_387 (by decide) ?_
  refine lv_iadd hx hb dL_law_388 ?_
  refine va_sld hx hb hX hbl hbA hS a3 dL_law_389 ?_
  refine lv_aload_n hx hb dL_law_390 rfl (lv_at hl 4 rfl) ?_
  refine lv_iload hx hb dL_law_391 (lv_at hl 0 rfl) ?_
  refine lv_iconst (v := 4) hx hb dL_law_393 (by decide) ?_
  refine lv_iadd hx hb dL_law_394 ?_
  refine va_sld hx hb hX hbl hbA hS a4 dL_law_395 ?_
  refine lv_aload_n hx hb dL_law_396 rfl (lv_at hl 4 rfl) ?_
  refine lv_iload hx hb dL_law_397 (lv_at hl 0 rfl) ?_
  refine lv_iconst (v := 5) hx hb dL_law_399 (by decide) ?_
  refine lv_iadd hx hb dL_law_400 ?_
  refine va_sld hx hb hX hbl hbA hS a5 dL_law_401 ?_
  refine lx_Vi (nL := 7) (vs := [.int (xs (i + 1).toNatClampNeg), .int (xs (i + 2).toNatClampNeg), .int (xs (i + 3).toNatClampNeg), .int (xs (i + 4).toNatClampNeg), .int (xs (i + 5).toNatClampNeg)]) (rest := []) ⟨hx, hb, hml, hown, hts⟩ hKc hV hA hP hD hS mx0 kx0 (h5_X5_tell l D cA ad av L K I O _ x0 (xs (i + 1).toNatClampNeg) (xs (i + 2).toNatClampNeg) (xs (i + 3).toNatClampNeg) (xs (i + 4).toNatClampNeg) (xs (i + 5).toNatClampNeg) hI mx0 kx0 rr hrr) (cwV 5 hts gl_X5_tell rfl rfl rfl (by decide +kernel) ⟨Nat.le_of_ble_eq_true rfl, Nat.le_of_ble_eq_true rfl⟩) rfl hl.1 rfl (Nat.le_of_ble_eq_true rfl) dL_law_402 ⟨show cells + 1 ≤ 601024 from by omega, show slots + 5 ≤ 7293034 from by omega⟩ (fun r_1 L1 K1 I1 O1 H locs hI1 hF1 hp1 hP hD hS => ?_)
  try dsimp only at hp1
  refine lv_pop hx hb dL_law_405 rfl ?_
  refine lv_aload_n hx hb dL_law_406 rfl (lv_at hl 2 rfl) ?_
  refine lv_aload_n hx hb dL_law_407 rfl (lv_at hl 4 rfl) ?_
  refine lv_iload hx hb dL_law_408 (lv_at hl 0 rfl) ?_
  refine lv_iconst (v := 1) hx hb dL_law_410 (by decide) ?_
  refine lv_iadd hx hb dL_law_411 ?_
  refine va_sld hx hb hX hbl hbA hS a1 dL_law_412 ?_
  refine lv_aload_n hx hb dL_law_413 rfl (lv_at hl 4 rfl) ?_
  refine lv_iload hx hb dL_law_414 (lv_at hl 0 rfl) ?_
  refine lv_iconst (v := 2) hx hb dL_law_416 (by decide) ?_
  refine lv_iadd hx hb dL_law_417 ?_
  refine va_sld hx hb hX hbl hbA hS a2 dL_law_418 ?_
  refine lv_aload_n hx hb dL_law_419 rfl (lv_at hl 4 rfl) ?_
  refine lv_iload hx hb dL_law_420 (lv_at hl 0 rfl) ?_
  refine lv_iconst (v := 3) hx hb dL_law_422 (by decide) ?_
  refine lv_iadd hx hb dL_law_423 ?_
  refine va_sld hx hb hX hbl hbA hS a3 dL_law_424 ?_
  refine lv_aload_n hx hb dL_law_425 rfl (lv_at hl 4 rfl) ?_
  refine lv_iload hx hb dL_law_426 (lv_at hl 0 rfl) ?_
  refine lv_iconst (v := 4) hx hb dL_law_428 (by decide) ?_
  refine lv_iadd hx hb dL_law_429 ?_
  refine va_sld hx hb hX hbl hbA hS a4 dL_law_430 ?_
  refine lv_aload_n hx hb dL_law_431 rfl (lv_at hl 4 rfl) ?_
  refine lv_iload hx hb dL_law_432 (lv_at hl 0 rfl) ?_
  refine lv_iconst (v := 5) hx hb dL_law_434 (by decide) ?_
  refine lv_iadd hx hb dL_law_435 ?_
  refine va_sld hx hb hX hbl hbA hS a5 dL_law_436 ?_
  refine lm_Vi (nL := 7) (vs := [.int (xs (i + 1).toNatClampNeg), .int (xs (i + 2).toNatClampNeg), .int (xs (i + 3).toNatClampNeg), .int (xs (i + 4).toNatClampNeg), .int (xs (i + 5).toNatClampNeg)]) (rest := []) ⟨hx, hb, hml, hown, hts⟩ hKm hA hP hD hS (g7_X6_tell l D h6 q cq F G _ (xs (i + 1).toNatClampNeg) (xs (i + 2).toNatClampNeg) (xs (i + 3).toNatClampNeg) (xs (i + 4).toNatClampNeg) (xs (i + 5).toNatClampNeg) hm ) (cwV 5 hts gl_X6_tell rfl rfl rfl (by decide +kernel) ⟨Nat.le_of_ble_eq_true rfl, Nat.le_of_ble_eq_true rfl⟩) rfl hl.1 rfl (Nat.le_of_ble_eq_true rfl) dL_law_437 ⟨show cells + 1 ≤ 601024 from by omega, show slots + 5 ≤ 7293034 from by omega⟩ (fun r_2 F1 G1 H locs hm1 hf1 hp2 hP hD hS => ?_)
  try dsimp only at hp2
  obtain ⟨m1, k1, fi, fo⟩ := hF1 x0 mx0 List.not_mem_nil
  rw [kx0] at fi fo
  obtain ⟨hr12, hRc1⟩ := lTell hRc hm mx0 kx0 hrr q10 hF1 hf1 hp1 hp2
  have hXt1 := lTellX hRc hXt hm mx0 kx0 hrr q10 q6 hF1 hf1 hr12 hp1 hp2
  clear hp1 hp2
  have hM1 : lI s D cA cq cO q x0 h6 qo L1 K1 I1 O1 F1 G1 f H locs := ⟨hP, hD, hS, hI1, m1, (k1.trans kx0), hm1, (r1.fr hf1 (by decide) (by decide)), (r2.fr hf1 (by decide) (by decide)), (r3.fr hf1 (by decide) (by decide) (by decide)), (by rw [fi 1 (by decide), hf1.1 1 (by decide)]; exact q1), (by rw [fi 6 (by decide), hf1.1 3 (by decide)]; exact q6), (by rw [fi 8 (by decide), hf1.1 15 (by decide)]; exact q8), (lTp.fr hT mx0 kx0 hF1 hf1 (by decide) (by decide) (by decide) (by decide) (by decide)), (by rw [fi 10 (by decide), hf1.1 17 (by decide)]; exact q10), (lFm.fr hFm mx0 kx0 hF1 hf1 (fun _ => rfl) (by decide) (by decide) (by decide) (by decide)), (by rw [fi 3 (by decide), hf1.1 4 (by decide)]; exact q3), hRc1, hXt1, (hFb.fr hf1 (by decide)), (lNa.fr hNa mx0 kx0 hF1 hf1 (by decide) (by decide) (by decide) (by decide))⟩
  refine W.widen (k := cells + 10) (n := slots + 82) (by omega) (by omega) ?_
  refine lv_pop hx hb dL_law_440 rfl ?_
  refine lv_goto (tgt := 828) hx hb dL_law_441 (by decide) ?_
  exact kk _ _ _ _ _ _ _ _ _ _ hM1 hl
