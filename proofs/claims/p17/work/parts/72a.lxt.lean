/-- every entry's chain of events is the rows told of it -/
def lXa (x0 : Nat) (L : List Nat) (K : Nat → Nat) (I : Nat → Nat → Int32) (O : Nat → Nat → Option Nat) (F : Nat → Int32) (G : Nat → Nat → Int32) : Prop := ∀ rr r b e i w : Nat, O x0 9 = some rr → (r : Int) < (F 17).toInt → O rr r = some b → O b 3 = some e → (i : Int) < (G 27 r).toInt → O e i = some w → lEv G (r : Int) (G 29 (16 * r + i)).toInt L K I O (F 31).toInt.toNat (O w 1)
/-- loops or seconds, of both sides -/
def lXb (x0 : Nat) (I : Nat → Nat → Int32) (O : Nat → Nat → Option Nat) (F : Nat → Int32) (G : Nat → Nat → Int32) : Prop := ∀ rr r b f : Nat, O x0 9 = some rr → (r : Int) < (F 17).toInt → O rr r = some b → O b 0 = some f → (I f 4).toInt = (G 22 r).toInt
/-- bounds of the reference's races and rows -/
def lXc (F : Nat → Int32) (G : Nat → Nat → Int32) : Prop :=
  (∀ r : Nat, (r : Int) < (F 17).toInt → ((G 24 r).toInt = 9 ∨ (G 24 r).toInt = 10 ∨ (G 24 r).toInt = 11) ∧ (0 ≤ (G 23 r).toInt ∧ (G 23 r).toInt ≤ 600) ∧ (0 ≤ (G 25 r).toInt ∧ (G 25 r).toInt ≤ 3600)) ∧ lTv F G ∧
  (∀ j : Nat, (j : Int) < (F 31).toInt → 0 ≤ (G 32 j).toInt ∧ (G 32 j).toInt < 8 ∧ 0 < (G 28 (G 32 j).toInt.toNat).toInt) ∧ (∀ r : Nat, r < 8 → 0 ≤ (G 28 r).toInt ∧ (G 28 r).toInt ≤ (F 31).toInt)
def lXt (x0 : Nat) (L : List Nat) (K : Nat → Nat) (I : Nat → Nat → Int32) (O : Nat → Nat → Option Nat) (F : Nat → Int32) (G : Nat → Nat → Int32) : Prop := lXa x0 L K I O F G ∧ lXb x0 I O F G ∧ lXc F G
/-- bounds of the reference's formats -/
def lFb (G : Nat → Nat → Int32) : Prop := ∀ g : Nat, g < 8 → ¬ (G 5 g).toInt = 0 → ((G 9 g).toInt = 0 ∨ (G 9 g).toInt = 1) ∧ ((G 11 g).toInt = 9 ∨ (G 11 g).toInt = 10 ∨ (G 11 g).toInt = 11) ∧ (0 ≤ (G 10 g).toInt ∧ (G 10 g).toInt ≤ 600) ∧ (0 ≤ (G 12 g).toInt ∧ (G 12 g).toInt ≤ 3600)
section LXT
variable {x0 rr : Nat} {b f e : Nat → Nat} {w : Nat → Nat → Nat} {L L1 : List Nat} {K K1 : Nat → Nat} {I I1 : Nat → Nat → Int32} {O O1 : Nat → Nat → Option Nat} {F F1 : Nat → Int32} {G G1 : Nat → Nat → Int32} {WI WO : List (Nat × Nat)} {WF WG : List Nat}
theorem zSeq_v2 {k : Nat → Nat} {n : Nat} : ∀ (i x : Nat) (M : Nat → Nat → Int), zSeq k n i x M → ∀ g : Nat, ¬ M g 1 = 0 → (0 ≤ M g 5 ∧ M g 5 ≤ 600) ∧ (0 ≤ M g 7 ∧ M g 7 ≤ 3600) := by
  intro i
  induction i with
  | zero => intro x M h g hg; exact absurd (h.2 g 1) hg
  | succ i ih =>
    intro z M h g hg
    obtain ⟨x, A, f, v, h1, h2, h3, h4, rfl⟩ := h
    by_cases e : g = f
    · subst e
      simp only [if_true]
      obtain ⟨h0, h8, hn, s1, l1, b, eb, s2, w2, c, hc, e2, d, ed, s3, p3, s4, m4, s5, y, sq, s6, s7, ez⟩ := h3
      refine ⟨⟨m4.2.2.2.1, m4.2.2.2.2.1⟩, ?_⟩
      rcases sq.2 with ⟨-, -, q, -⟩ | ⟨-, -, q, -⟩ | ⟨-, -, q, -⟩
      · omega
      · have q1 := q.2.1; have q2 := q.2.2.1; omega
      · exact ⟨q.2.1, q.2.2.1⟩
    · simp only [if_neg e] at hg ⊢
      exact ih x A h1 g hg
theorem lFb_m {k : Nat → Nat} {n c : Nat} {M : Nat → Nat → Int} (h : zOk k n c M) (g : mRc G M) : lFb G := by
  intro j hj h5
  obtain ⟨x, hq, -⟩ := h
  rcases g j hj with ⟨-, g2⟩ | ⟨g1, g2⟩
  · exact absurd g2 h5
  · have e1 := zSeq_v _ _ _ hq j g1
    have e2 := zSeq_v2 _ _ _ hq j g1
    have f4 : (G 9 j).toInt = M j 4 := g2 4 (by omega) (by omega)
    have f5 : (G 10 j).toInt = M j 5 := g2 5 (by omega) (by omega)
    have f6 : (G 11 j).toInt - 9 = M j 6 := g2 6 (by omega) (by omega)
    have f7 : (G 12 j).toInt = M j 7 := g2 7 (by omega) (by omega)
    obtain ⟨x4, x6, -, -⟩ := e1
    obtain ⟨x5, x7⟩ := e2
    exact ⟨by omega, by omega, by omega, by omega⟩
theorem lFb_s (h : lFb G) (hs : ∀ j : Nat, j < 8 → mSame G G1 j) : lFb G1 := by
  intro j hj
  obtain ⟨e5, -, -, e9, e10, e11, e12⟩ := hs j hj
  rw [e5, e9, e10, e11, e12]
  exact h j hj
theorem lFb.fr (h : lFb G) (g : mFr WF WG F G F1 G1) (a : 5 ∉ WG ∧ 9 ∉ WG ∧ 10 ∉ WG ∧ 11 ∉ WG ∧ 12 ∉ WG) : lFb G1 := by
  unfold lFb
  rw [g.2 5 a.1, g.2 9 a.2.1, g.2 10 a.2.2.1, g.2 11 a.2.2.2.1, g.2 12 a.2.2.2.2]
  exact h
theorem lEv_nil {r v : Int} {n : Nat} (h : ∀ j : Nat, j < n → ¬ (G 32 j).toInt = r) : lEv G r v L K I O n none := by
  induction n with
  | zero => rfl
  | succ n ih =>
    simp only [lEv]
    rw [if_neg (fun z => h n (Nat.lt_succ_self n) z.1)]
    exact ih (fun j hj => h j (Nat.lt_succ_of_lt hj))
theorem lWx_of (h : lRx x0 rr b f e w L K I O F G) (t : lXt x0 L K I O F G) (hm : mI F G) : lWx x0 rr b f e w L K I O F G := by
  obtain ⟨tA, tB, t1, t2, -⟩ := t
  obtain ⟨⟨a1, a2, a3⟩, a4, hA, hB, hC, d1, d2, d3, d4⟩ := id h
  have b17 : 0 ≤ (F 17).toInt ∧ (F 17).toInt ≤ 8 := hm.1 17 (0, 8) rfl
  have b15 : 0 ≤ (F 15).toInt ∧ (F 15).toInt ≤ 16 := hm.1 15 (0, 16) rfl
  refine ⟨h, ⟨fun r i hr hi => ?_, fun r hr => ?_, t2, b15.2, b17.2, hC⟩, fun r i hr hi => ?_, fun r hr => ?_, hm⟩
  · obtain ⟨-, -, p5, p6, p7⟩ := hB r i hr hi
    exact ⟨p5, p6, p7⟩
  · obtain ⟨c1, c2, c3⟩ := t1 r hr
    refine ⟨?_, c2, c3⟩
    rcases (hA r hr).2.2.2.2.2 with ⟨q1, q2, q3, -⟩ | ⟨q1, -⟩
    · exact Or.inr (Or.inr ⟨q1, q2, q3⟩)
    · omega
  · exact tA rr r (b r) (e r) i (w r i) a1 hr (hA r hr).1.1 (hA r hr).2.2.1.1 hi (hB r i hr hi).1.1
  · exact tB rr r (b r) (f r) a1 hr (hA r hr).1.1 (hA r hr).2.1.1
theorem lXc_cg (t : lXc F G) (g17 : F1 17 = F 17) (g31 : F1 31 = F 31) (e23 : G1 23 = G 23) (e24 : G1 24 = G 24) (e25 : G1 25 = G 25) (e28 : G1 28 = G 28) (e32 : G1 32 = G 32) (e34 : G1 34 = G 34) (e36 : G1 36 = G 36) : lXc F1 G1 := by
  unfold lXc lTv at *
  rw [g17, g31, e23, e24, e25, e28, e32, e34, e36]
  exact t
theorem lTv_cg2 (g31 : F1 31 = F 31) (e34 : G1 34 = G 34) (e36 : G1 36 = G 36) (a : lTv F G) : lTv F1 G1 := by
  unfold lTv at *
  rw [g31, e34, e36]
  exact a
theorem lXt.fr (h : lRc x0 L K I O F G) (t : lXt x0 L K I O F G) (mx0 : x0 ∈ L) (kx0 : K x0 = 5) (fr : cFr [] WI WO L K I O L1 K1 I1 O1) (g : mFr WF WG F G F1 G1) (i2 : ∀ a : Nat, a ∈ L → K a = 2 → ∀ j : Nat, I1 a j = I a j) (b5 : cin WO 5 9 = false) (b12 : cin WO 12 0 = false) (b3 : cin WO 3 0 = false ∧ cin WO 3 3 = false) (b15 : cin WO 15 0 = false) (b0 : cin WO 0 1 = false) (c1 : ∀ j : Nat, cin WI 1 j = false) (c4 : ∀ j : Nat, cin WO 1 j = false) (c17 : 17 ∉ WF) (c31 : 31 ∉ WF) (cG : ∀ k ∈ ([22, 23, 24, 25, 27, 28, 29, 32, 33, 34, 35, 36, 37] : List Nat), k ∉ WG) : lXt x0 L1 K1 I1 O1 F1 G1 := by
  obtain ⟨rr, b, f, e, w, hx⟩ := h
  obtain ⟨tA, tB, tC⟩ := t
  obtain ⟨⟨a1, a2, a3⟩, a4, hA, hB, -⟩ := id hx
  have g17 := g.1 17 c17
  have g31 := g.1 31 c31
  have ee : ∀ k ∈ ([22, 23, 24, 25, 27, 28, 29, 32, 33, 34, 35, 36, 37] : List Nat), G1 k = G k := fun k hk => g.2 k (cG k hk)
  have x9 : O1 x0 9 = O x0 9 := by
    obtain ⟨-, -, -, u⟩ := fr x0 mx0 List.not_mem_nil
    rw [kx0] at u
    exact u 9 b5
  have o12 : ∀ j : Nat, O1 rr j = O rr j := fun j => by
    obtain ⟨-, -, -, u⟩ := fr rr a2 List.not_mem_nil
    rw [a3] at u
    exact u j b12
  have o3 : ∀ y : Nat, y ∈ L → K y = 3 → O1 y 0 = O y 0 ∧ O1 y 3 = O y 3 := fun y hy hk => by
    obtain ⟨-, -, -, u⟩ := fr y hy List.not_mem_nil
    rw [hk] at u
    exact ⟨u 0 b3.1, u 3 b3.2⟩
  refine ⟨fun rr' r b' e' i w' h9 hr hb he hi hw => ?_, fun rr' r b' f' h9 hr hb hf => ?_, lXc_cg tC g17 g31 (ee 23 (by decide)) (ee 24 (by decide)) (ee 25 (by decide)) (ee 28 (by decide)) (ee 32 (by decide)) (ee 34 (by decide)) (ee 36 (by decide))⟩
  · rw [g17] at hr
    rw [ee 27 (by decide)] at hi
    have e1 : rr' = rr := Option.some.inj (h9.symm.trans (x9.trans a1))
    subst e1
    have Ar := hA r hr
    have e2 : b' = b r := Option.some.inj (hb.symm.trans ((o12 r).trans Ar.1.1))
    subst e2
    have e3 : e' = e r := Option.some.inj (he.symm.trans ((o3 _ Ar.1.2.1 Ar.1.2.2).2.trans Ar.2.2.1.1))
    subst e3
    have o15 : O1 (e r) i = O (e r) i := by
      obtain ⟨-, -, -, u⟩ := fr _ Ar.2.2.1.2.1 List.not_mem_nil
      rw [Ar.2.2.1.2.2] at u
      exact u i b15
    have Br := hB r i hr hi
    have e4 : w' = w r i := Option.some.inj (hw.symm.trans (o15.trans Br.1.1))
    subst e4
    have ow : O1 (w r i) 1 = O (w r i) 1 := by
      obtain ⟨-, -, -, u⟩ := fr _ Br.1.2.1 List.not_mem_nil
      rw [Br.1.2.2] at u
      exact u 1 b0
    rw [ee 29 (by decide), g31, ow]
    refine lEv_same (tA _ r _ _ i _ a1 hr Ar.1.1 Ar.2.2.1.1 hi Br.1.1) (fun a ma ka => ⟨(fr a ma List.not_mem_nil).1, (fr a ma List.not_mem_nil).2.1.trans ka⟩) (fun a ma ka j => ?_) (fun a ma ka j => ?_) (fun j _ => ⟨congrFun (ee 32 (by decide)) j, congrFun (ee 33 (by decide)) j, congrFun (ee 34 (by decide)) j, congrFun (ee 35 (by decide)) j, congrFun (ee 36 (by decide)) j, congrFun (ee 37 (by decide)) j⟩)
    · obtain ⟨-, -, u, -⟩ := fr a ma List.not_mem_nil
      rw [ka] at u
      exact u j (c1 j)
    · obtain ⟨-, -, -, u⟩ := fr a ma List.not_mem_nil
      rw [ka] at u
      exact u j (c4 j)
  · rw [g17] at hr
    have e1 : rr' = rr := Option.some.inj (h9.symm.trans (x9.trans a1))
    subst e1
    have Ar := hA r hr
    have e2 : b' = b r := Option.some.inj (hb.symm.trans ((o12 r).trans Ar.1.1))
    subst e2
    have e3 : f' = f r := Option.some.inj (hf.symm.trans ((o3 _ Ar.1.2.1 Ar.1.2.2).1.trans Ar.2.1.1))
    subst e3
    rw [ee 22 (by decide), i2 _ Ar.2.1.2.1 Ar.2.1.2.2 4]
    exact tB _ r _ _ a1 hr Ar.1.1 Ar.2.1.1
theorem lXt_stay (t : lXt x0 L K I O F G) (g17 : F1 17 = F 17) (g31 : F1 31 = F 31) (gG : G1 = G) : lXt x0 L K I O F1 G1 := by
  subst gG
  obtain ⟨tA, tB, tC⟩ := t
  refine ⟨?_, ?_, lXc_cg tC g17 g31 rfl rfl rfl rfl rfl rfl rfl⟩
  · unfold lXa at *
    rw [g17, g31]
    exact tA
  · unfold lXb at *
    rw [g17]
    exact tB
theorem lXt_tell (h : lRc x0 L K I O F G) (t : lXt x0 L K I O F G) (hm : mI F G) (mx0 : x0 ∈ L) (kx0 : K x0 = 5) (hrr : O x0 9 = some rr) (q6 : (I x0 6).toInt = (F 3).toInt) (fr : cFr [] [(1, 0), (1, 1), (1, 2), (1, 3), (3, 5), (5, 11)] [(0, 1), (1, 4)] L K I O L1 K1 I1 O1) (g : mFr [2, 31] [28, 32, 33, 34, 35, 36, 37] F G F1 G1)
    {b0 es w0 i0 ev : Nat} {p0 p1 p2 p3 p4 : Int32} (hr : 0 ≤ p0.toInt ∧ p0.toInt < (F 17).toInt) (ob : O rr (Int32.toNatClampNeg p0) = some b0) (oe : O b0 3 = some es) (hi : (i0 : Int) < (I b0 4).toInt) (ow : O es i0 = some w0) (ew : (I w0 0).toInt = p1.toInt) (em : ev ∈ L1) (ek : K1 ev = 1) (y0 : (I1 ev 0).toInt = (I x0 6).toInt) (y1 : (I1 ev 1).toInt = p2.toInt) (y2 : (I1 ev 2).toInt = p3.toInt) (y3 : (I1 ev 3).toInt = p4.toInt) (y4 : O1 ev 4 = O w0 1) (y5 : O1 w0 1 = some ev)
    (fw : ∀ a : Nat, a ∈ L → K a = 0 → ¬ a = w0 → ∀ j : Nat, O1 a j = O a j) (f1 : ∀ a : Nat, a ∈ L → K a = 1 → ∀ j : Nat, I1 a j = I a j) (f1o : ∀ a : Nat, a ∈ L → K a = 1 → ∀ j : Nat, O1 a j = O a j) (hv : (p2.toInt = 0 ∧ -1 ≤ p4.toInt ∧ p4.toInt ≤ 200000) ∨ (p2.toInt = 1 ∧ -1 ≤ p4.toInt ∧ p4.toInt ≤ 31) ∨ (p2.toInt = 2 ∧ -1 ≤ p4.toInt ∧ p4.toInt ≤ 9) ∨ (p2.toInt = 3 ∧ -1 ≤ p4.toInt ∧ p4.toInt ≤ 1)) (h400 : (F 31).toInt < 400) (hF : (F1 31).toInt = (F 31).toInt + 1)
    (u28 : G1 28 = upd (G 28) (Int32.toNatClampNeg p0) (G 28 (Int32.toNatClampNeg p0) + 1)) (u32 : G1 32 = upd (G 32) (Int32.toNatClampNeg (F 31)) p0) (u33 : G1 33 = upd (G 33) (Int32.toNatClampNeg (F 31)) p1) (u34 : G1 34 = upd (G 34) (Int32.toNatClampNeg (F 31)) p2) (u35 : G1 35 = upd (G 35) (Int32.toNatClampNeg (F 31)) p3) (u36 : G1 36 = upd (G 36) (Int32.toNatClampNeg (F 31)) p4) (u37 : G1 37 = upd (G 37) (Int32.toNatClampNeg (F 31)) (F 3)) : lXt x0 L1 K1 I1 O1 F1 G1 := by
  obtain ⟨rr', b, f, e, w, hx⟩ := h
  obtain ⟨⟨a1, a2, a3⟩, a4, hA, hB, hC, d1, d2, d3, d4⟩ := id hx
  have er : rr' = rr := Option.some.inj (a1.symm.trans hrr)
  subst er
  obtain ⟨tA, tB, t1, t2, t3, t4⟩ := t
  have b17 : 0 ≤ (F 17).toInt ∧ (F 17).toInt ≤ 8 := hm.1 17 (0, 8) rfl
  have b31 : 0 ≤ (F 31).toInt ∧ (F 31).toInt ≤ 400 := hm.1 31 (0, 400) rfl
  have g17 := g.1 17 (by decide)
  have e22 := g.2 22 (by decide)
  have e23 := g.2 23 (by decide)
  have e24 := g.2 24 (by decide)
  have e25 := g.2 25 (by decide)
  have e27 := g.2 27 (by decide)
  have e29 := g.2 29 (by decide)
  generalize hn : Int32.toNatClampNeg (F 31) = n at u32 u33 u34 u35 u36 u37
  have hn2 : (n : Int) = (F 31).toInt := by rw [mm_nat] at hn; omega
  generalize hq : Int32.toNatClampNeg p0 = r0 at u28 ob
  have hq2 : (r0 : Int) = p0.toInt := by rw [mm_nat] at hq; omega
  have hr0 : (r0 : Int) < (F 17).toInt := by omega
  have A := hA r0 hr0
  have eb : b0 = b r0 := Option.some.inj (ob.symm.trans A.1.1)
  subst eb
  have ee : es = e r0 := Option.some.inj (oe.symm.trans A.2.2.1.1)
  subst ee
  have hi2 : (i0 : Int) < (G 27 r0).toInt := by have := A.2.2.2.2.1.2.1; omega
  have B := hB r0 i0 hr0 hi2
  have ew0 : w0 = w r0 i0 := Option.some.inj (ow.symm.trans B.1.1)
  subst ew0
  have ev29 : (G 29 (16 * r0 + i0)).toInt = p1.toInt := by have := B.2.1; omega
  have x9 : O1 x0 9 = O x0 9 := by
    obtain ⟨-, -, -, u⟩ := fr x0 mx0 List.not_mem_nil
    rw [kx0] at u
    exact u 9 (by rfl)
  have o12 : ∀ j : Nat, O1 rr' j = O rr' j := fun j => by
    obtain ⟨-, -, -, u⟩ := fr rr' a2 List.not_mem_nil
    rw [a3] at u
    exact u j (by rfl)
  have o3 : ∀ y : Nat, y ∈ L → K y = 3 → ∀ j : Nat, O1 y j = O y j := fun y hy hk j => by
    obtain ⟨-, -, -, u⟩ := fr y hy List.not_mem_nil
    rw [hk] at u
    exact u j (by rfl)
  have e28 : ∀ r : Nat, (G1 28 r).toInt = if r = r0 then (G 28 r0).toInt + 1 else (G 28 r).toInt := fun r => by
    rw [u28]
    by_cases c : r = r0
    · rw [if_pos c, c, lUp]
      have q := t4 r0 (by omega)
      exact mm_add rfl (by decide) (by omega)
    · rw [if_neg c, lUn c]
  refine ⟨fun rr2 r b' e' i w' h9 hr1 hb he hi1 hw => ?_, fun rr2 r b' f' h9 hr1 hb hf => ?_, fun r hr1 => ?_, fun j hj => ?_, fun j hj => ?_, fun r hr1 => ?_⟩
  · rw [g17] at hr1
    rw [e27] at hi1
    have e1 : rr2 = rr' := Option.some.inj (h9.symm.trans (x9.trans a1))
    subst e1
    have Ar := hA r hr1
    have e2 : b' = b r := Option.some.inj (hb.symm.trans ((o12 r).trans Ar.1.1))
    subst e2
    have e3 : e' = e r := Option.some.inj (he.symm.trans ((o3 _ Ar.1.2.1 Ar.1.2.2 3).trans Ar.2.2.1.1))
    subst e3
    have o15 : O1 (e r) i = O (e r) i := by
      obtain ⟨-, -, -, u⟩ := fr _ Ar.2.2.1.2.1 List.not_mem_nil
      rw [Ar.2.2.1.2.2] at u
      exact u i (by rfl)
    have Br := hB r i hr1 hi1
    have e4 : w' = w r i := Option.some.inj (hw.symm.trans (o15.trans Br.1.1))
    subst e4
    have old := tA _ r _ _ i _ a1 hr1 Ar.1.1 Ar.2.2.1.1 hi1 Br.1.1
    rw [show (F 31).toInt.toNat = n from by omega] at old
    have keep : ∀ o : Option Nat, lEv G (r : Int) (G 29 (16 * r + i)).toInt L K I O n o → lEv G1 (r : Int) (G 29 (16 * r + i)).toInt L1 K1 I1 O1 n o := fun o ho => lEv_same ho (fun a ma ka => ⟨(fr a ma List.not_mem_nil).1, (fr a ma List.not_mem_nil).2.1.trans ka⟩) f1 f1o (fun j hj => ⟨by rw [u32]; exact lUn (by omega), by rw [u33]; exact lUn (by omega), by rw [u34]; exact lUn (by omega), by rw [u35]; exact lUn (by omega), by rw [u36]; exact lUn (by omega), by rw [u37]; exact lUn (by omega)⟩)
    rw [e29, show (F1 31).toInt.toNat = n + 1 from by omega]
    simp only [lEv]
    rw [u32, u33, u34, u35, u36, u37]
    simp only [lUp]
    by_cases c : r = r0 ∧ i = i0
    · obtain ⟨c1, c2⟩ := c
      subst c1
      subst c2
      rw [if_pos ⟨by omega, ev29.symm⟩]
      exact ⟨ev, y5, em, ek, y0.trans q6, y1, y2, y3, by rw [y4]; exact keep _ old⟩
    · have nc : ¬ (p0.toInt = (r : Int) ∧ p1.toInt = (G 29 (16 * r + i)).toInt) := fun z => by
        have er0 : r = r0 := by omega
        subst er0
        have q1 := Br.2.2.2.2
        have q2 := B.2.2.2.2
        rw [← z.2] at q1
        rw [ev29] at q2
        exact c ⟨rfl, by omega⟩
      rw [if_neg nc, fw _ Br.1.2.1 Br.1.2.2 (fun z => c (d3 r i r0 i0 hr1 hi1 hr0 hi2 z)) 1]
      exact keep _ old
  · rw [g17] at hr1
    have e1 : rr2 = rr' := Option.some.inj (h9.symm.trans (x9.trans a1))
    subst e1
    have Ar := hA r hr1
    have e2 : b' = b r := Option.some.inj (hb.symm.trans ((o12 r).trans Ar.1.1))
    subst e2
    have e3 : f' = f r := Option.some.inj (hf.symm.trans ((o3 _ Ar.1.2.1 Ar.1.2.2 0).trans Ar.2.1.1))
    subst e3
    have o2 : I1 (f r) 4 = I (f r) 4 := by
      obtain ⟨-, -, u, -⟩ := fr _ Ar.2.1.2.1 List.not_mem_nil
      rw [Ar.2.1.2.2] at u
      exact u 4 (by rfl)
    rw [e22, o2]
    exact tB _ r _ _ a1 hr1 Ar.1.1 Ar.2.1.1
  · rw [g17] at hr1
    rw [e23, e24, e25]
    exact t1 r hr1
  · by_cases c : j = n
    · subst c
      rw [u34, u36, lUp, lUp]
      refine ⟨fun z => ?_, fun z => ?_, fun z => ?_, fun z => ?_⟩ <;> omega
    · rw [u34, u36, lUn c, lUn c]
      exact t2 j (by omega)
  · by_cases c : j = n
    · subst c
      rw [u32, lUp, e28, if_pos (show p0.toInt.toNat = r0 by omega)]
      have q := t4 r0 (by omega)
      exact ⟨by omega, by omega, by omega⟩
    · rw [u32, lUn c, e28]
      obtain ⟨q1, q2, q3⟩ := t3 j (by omega)
      refine ⟨q1, q2, ?_⟩
      split
      · have q := t4 r0 (by omega)
        omega
      · exact q3
  · rw [e28]
    have q := t4 r hr1
    have q0 := t4 r0 (by omega)
    split <;> omega
theorem lXt_enter (h : lRc x0 L K I O F G) (t : lXt x0 L K I O F G) (hm : mI F G) (mx0 : x0 ∈ L) (kx0 : K x0 = 5) (hrr : O x0 9 = some rr) (fr : cFr [] [(0, 0), (3, 4)] [(15, 0)] L K I O L1 K1 I1 O1) (g : mFr [2] [27, 29, 30] F G F1 G1)
    {r0 b0 es qe : Nat} {z27 p1 : Int32} (hb0 : O rr r0 = some b0) (he0 : O b0 3 = some es) (hr0 : (r0 : Int) < (F 17).toInt) (n28 : (G 28 r0).toInt ≤ 0) (n27 : (G 27 r0).toInt ≤ 15) (q1 : O1 qe 1 = none) (og : ∀ g : Nat, O1 es g = if g = Int32.toNatClampNeg (I b0 4) then some qe else O es g) (f15 : ∀ a : Nat, a ∈ L → K a = 15 → ¬ a = es → ∀ j : Nat, O1 a j = O a j) (hz : z27.toInt = (G 27 r0).toInt + 1) (u27 : G1 27 = upd (G 27) r0 z27) (u29 : G1 29 = upd (G 29) (16 * r0 + Int32.toNatClampNeg (G 27 r0)) p1) : lXt x0 L1 K1 I1 O1 F1 G1 := by
  obtain ⟨rr', b, f, e, w, hx⟩ := h
  obtain ⟨⟨a1, a2, a3⟩, a4, hA, hB, hC, d1, d2, d3, d4⟩ := id hx
  have er : rr' = rr := Option.some.inj (a1.symm.trans hrr)
  subst er
  obtain ⟨tA, tB, tC⟩ := t
  have b27 : ∀ j : Nat, 0 ≤ (G 27 j).toInt ∧ (G 27 j).toInt ≤ 16 := hm.2.1 27 (0, 16) rfl
  have b17 : 0 ≤ (F 17).toInt ∧ (F 17).toInt ≤ 8 := hm.1 17 (0, 8) rfl
  have g17 := g.1 17 (by decide)
  have g31 := g.1 31 (by decide)
  have e22 := g.2 22 (by decide)
  have e32 := g.2 32 (by decide)
  have e33 := g.2 33 (by decide)
  have e34 := g.2 34 (by decide)
  have e35 := g.2 35 (by decide)
  have e36 := g.2 36 (by decide)
  have e37 := g.2 37 (by decide)
  have A := hA r0 hr0
  have eb : b0 = b r0 := Option.some.inj (hb0.symm.trans A.1.1)
  subst eb
  have ee : es = e r0 := Option.some.inj (he0.symm.trans A.2.2.1.1)
  subst ee
  have m4 := A.2.2.2.2.1.2.1
  have n4 : Int32.toNatClampNeg (I (b r0) 4) = Int32.toNatClampNeg (G 27 r0) := by rw [mm_nat, mm_nat, m4]
  rw [n4] at og
  generalize hn : Int32.toNatClampNeg (G 27 r0) = n at og u29
  have bb := b27 r0
  have hn2 : (n : Int) = (G 27 r0).toInt := by rw [mm_nat] at hn; omega
  have x9 : O1 x0 9 = O x0 9 := by
    obtain ⟨-, -, -, u⟩ := fr x0 mx0 List.not_mem_nil
    rw [kx0] at u
    exact u 9 (by rfl)
  have o12 : ∀ j : Nat, O1 rr' j = O rr' j := fun j => by
    obtain ⟨-, -, -, u⟩ := fr rr' a2 List.not_mem_nil
    rw [a3] at u
    exact u j (by rfl)
  have o3 : ∀ y : Nat, y ∈ L → K y = 3 → ∀ j : Nat, O1 y j = O y j := fun y hy hk j => by
    obtain ⟨-, -, -, u⟩ := fr y hy List.not_mem_nil
    rw [hk] at u
    exact u j (by rfl)
  have keep : ∀ (r v : Int) (m : Nat) (o : Option Nat), lEv G r v L K I O m o → lEv G1 r v L1 K1 I1 O1 m o := fun r v m o ho => lEv_same ho (fun a ma ka => ⟨(fr a ma List.not_mem_nil).1, (fr a ma List.not_mem_nil).2.1.trans ka⟩) (fun a ma ka j => by
    obtain ⟨-, -, u, -⟩ := fr a ma List.not_mem_nil
    rw [ka] at u
    exact u j (by rfl)) (fun a ma ka j => by
    obtain ⟨-, -, -, u⟩ := fr a ma List.not_mem_nil
    rw [ka] at u
    exact u j (by rfl)) (fun j _ => ⟨congrFun e32 j, congrFun e33 j, congrFun e34 j, congrFun e35 j, congrFun e36 j, congrFun e37 j⟩)
  refine ⟨fun rr2 r b' e' i w' h9 hr1 hb he hi1 hw => ?_, fun rr2 r b' f' h9 hr1 hb hf => ?_, lXc_cg tC g17 g31 (g.2 23 (by decide)) (g.2 24 (by decide)) (g.2 25 (by decide)) (g.2 28 (by decide)) e32 e34 e36⟩
  · rw [g17] at hr1
    have e1 : rr2 = rr' := Option.some.inj (h9.symm.trans (x9.trans a1))
    subst e1
    have Ar := hA r hr1
    have e2 : b' = b r := Option.some.inj (hb.symm.trans ((o12 r).trans Ar.1.1))
    subst e2
    have e3 : e' = e r := Option.some.inj (he.symm.trans ((o3 _ Ar.1.2.1 Ar.1.2.2 3).trans Ar.2.2.1.1))
    subst e3
    rw [g31]
    have old : (i : Int) < (G 27 r).toInt → O1 (e r) i = O (e r) i → G1 29 (16 * r + i) = G 29 (16 * r + i) → lEv G1 (r : Int) (G1 29 (16 * r + i)).toInt L1 K1 I1 O1 (F 31).toInt.toNat (O1 w' 1) := fun hi2 o15 g29 => by
      have Br := hB r i hr1 hi2
      have e4 : w' = w r i := Option.some.inj (hw.symm.trans (o15.trans Br.1.1))
      subst e4
      have ow : O1 (w r i) 1 = O (w r i) 1 := by
        obtain ⟨-, -, -, u⟩ := fr _ Br.1.2.1 List.not_mem_nil
        rw [Br.1.2.2] at u
        exact u 1 (by rfl)
      rw [g29, ow]
      exact keep _ _ _ _ (tA _ r _ _ i _ a1 hr1 Ar.1.1 Ar.2.2.1.1 hi2 Br.1.1)
    by_cases c : r = r0
    · subst c
      rw [u27, lUp] at hi1
      by_cases c2 : i = n
      · subst c2
        have e4 : w' = qe := Option.some.inj (hw.symm.trans (by rw [og, if_pos rfl]))
        subst e4
        rw [q1]
        refine lEv_nil (fun j hj => ?_)
        rw [e32]
        have q := tC.2.2.1 j (by omega)
        intro z
        rw [z] at q
        have q3 := q.2.2
        rw [show ((r : Int)).toNat = r from by omega] at q3
        omega
      · exact old (by omega) (by rw [og, if_neg c2]) (by rw [u29]; exact lUn (by omega))
    · rw [u27, lUn c] at hi1
      have bi := b27 r
      exact old hi1 (f15 _ Ar.2.2.1.2.1 Ar.2.2.1.2.2 (fun z => c (d2 r r0 hr1 hr0 z)) i) (by rw [u29]; exact lUn (by omega))
  · rw [g17] at hr1
    have e1 : rr2 = rr' := Option.some.inj (h9.symm.trans (x9.trans a1))
    subst e1
    have Ar := hA r hr1
    have e2 : b' = b r := Option.some.inj (hb.symm.trans ((o12 r).trans Ar.1.1))
    subst e2
    have e3 : f' = f r := Option.some.inj (hf.symm.trans ((o3 _ Ar.1.2.1 Ar.1.2.2 0).trans Ar.2.1.1))
    subst e3
    have o2 : I1 (f r) 4 = I (f r) 4 := by
      obtain ⟨-, -, u, -⟩ := fr _ Ar.2.1.2.1 List.not_mem_nil
      rw [Ar.2.1.2.2] at u
      exact u 4 (by rfl)
    rw [e22, o2]
    exact tB _ r _ _ a1 hr1 Ar.1.1 Ar.2.1.1
theorem lXt_race (h : lRc x0 L K I O F G) (t : lXt x0 L K I O F G) (fb : lFb G) (hm : mI F G) (mx0 : x0 ∈ L) (kx0 : K x0 = 5) (hrr : O x0 9 = some rr) (fr : cFr [] [(5, 10)] [(12, 0)] L K I O L1 K1 I1 O1) (g : mFr [2, 17] [18, 19, 20, 21, 22, 23, 24, 25, 26] F G F1 G1) (h8 : (F 17).toInt < 8) (hF : (F1 17).toInt = (F 17).toInt + 1) (h10 : (I x0 10).toInt = (F 17).toInt)
    {a bn : Nat} {p0 : Int32} (hp : 0 ≤ p0.toInt ∧ p0.toInt < 8) (h5 : ¬ (G 5 (Int32.toNatClampNeg p0)).toInt = 0) (ma : a ∈ L) (ka : K a = 2) (b0 : O1 bn 0 = some a) (og : ∀ g : Nat, O1 rr g = if g = Int32.toNatClampNeg (I x0 10) then some bn else O rr g) (hf4 : (I a 4).toInt = (G 9 (Int32.toNatClampNeg p0)).toInt)
    (u22 : G1 22 = upd (G 22) (Int32.toNatClampNeg (F 17)) (vp_nar .boolean (G 9 (Int32.toNatClampNeg p0)))) (u23 : G1 23 = upd (G 23) (Int32.toNatClampNeg (F 17)) (G 10 (Int32.toNatClampNeg p0))) (u24 : G1 24 = upd (G 24) (Int32.toNatClampNeg (F 17)) (G 11 (Int32.toNatClampNeg p0))) (u25 : G1 25 = upd (G 25) (Int32.toNatClampNeg (F 17)) (G 12 (Int32.toNatClampNeg p0))) : lXt x0 L1 K1 I1 O1 F1 G1 := by
  obtain ⟨rr', b, f, e, w, hx⟩ := h
  obtain ⟨⟨a1, a2, a3⟩, a4, hA, hB, hC, d1, d2, d3, d4⟩ := id hx
  have er : rr' = rr := Option.some.inj (a1.symm.trans hrr)
  subst er
  obtain ⟨tA, tB, t1, t2, t3, t4⟩ := t
  have b17 : 0 ≤ (F 17).toInt ∧ (F 17).toInt ≤ 8 := hm.1 17 (0, 8) rfl
  have hb9 := fb (Int32.toNatClampNeg p0) (by have := mm_nat p0; omega) h5
  obtain ⟨c9, c11, c10, c12⟩ := hb9
  have en : Int32.toNatClampNeg (I x0 10) = Int32.toNatClampNeg (F 17) := by rw [mm_nat, mm_nat, h10]
  rw [en] at og
  rw [nar01 c9] at u22
  generalize hn : Int32.toNatClampNeg (F 17) = n at og u22 u23 u24 u25
  have hn2 : (n : Int) = (F 17).toInt := by rw [mm_nat] at hn; omega
  have g31 := g.1 31 (by decide)
  have e27 := g.2 27 (by decide)
  have e28 := g.2 28 (by decide)
  have e29 := g.2 29 (by decide)
  have e32 := g.2 32 (by decide)
  have e33 := g.2 33 (by decide)
  have e34 := g.2 34 (by decide)
  have e35 := g.2 35 (by decide)
  have e36 := g.2 36 (by decide)
  have e37 := g.2 37 (by decide)
  have hz := d4 n (by omega) (by omega)
  have x9 : O1 x0 9 = O x0 9 := by
    obtain ⟨-, -, -, u⟩ := fr x0 mx0 List.not_mem_nil
    rw [kx0] at u
    exact u 9 (by rfl)
  have oo : ∀ y κ : Nat, y ∈ L → K y = κ → (κ = 3 ∨ κ = 15 ∨ κ = 0 ∨ κ = 1) → ∀ j : Nat, O1 y j = O y j := fun y κ hy hk hc j => by
    obtain ⟨-, -, -, u⟩ := fr y hy List.not_mem_nil
    rw [hk] at u
    rcases hc with hc | hc | hc | hc <;> (subst hc; exact u j (by rfl))
  have ii : ∀ y κ : Nat, y ∈ L → K y = κ → (κ = 1 ∨ κ = 2) → ∀ j : Nat, I1 y j = I y j := fun y κ hy hk hc j => by
    obtain ⟨-, -, u, -⟩ := fr y hy List.not_mem_nil
    rw [hk] at u
    rcases hc with hc | hc <;> (subst hc; exact u j (by rfl))
  refine ⟨fun rr2 r b' e' i w' h9 hr1 hb he hi1 hw => ?_, fun rr2 r b' f' h9 hr1 hb hf => ?_, fun r hr1 => ?_, lTv_cg2 g31 e34 e36 t2, ?_, ?_⟩
  · have e1 : rr2 = rr' := Option.some.inj (h9.symm.trans (x9.trans a1))
    subst e1
    rw [e27] at hi1
    have nr : ¬ r = n := fun z => by
      subst z
      omega
    have hr2 : (r : Int) < (F 17).toInt := by omega
    have Ar := hA r hr2
    have e2 : b' = b r := Option.some.inj (hb.symm.trans (by rw [og, if_neg nr]; exact Ar.1.1))
    subst e2
    have e3 : e' = e r := Option.some.inj (he.symm.trans ((oo _ 3 Ar.1.2.1 Ar.1.2.2 (by omega) 3).trans Ar.2.2.1.1))
    subst e3
    have Br := hB r i hr2 hi1
    have e4 : w' = w r i := Option.some.inj (hw.symm.trans ((oo _ 15 Ar.2.2.1.2.1 Ar.2.2.1.2.2 (by omega) i).trans Br.1.1))
    subst e4
    rw [e29, g31, oo _ 0 Br.1.2.1 Br.1.2.2 (by omega) 1]
    exact lEv_same (tA _ r _ _ i _ a1 hr2 Ar.1.1 Ar.2.2.1.1 hi1 Br.1.1) (fun a ma ka => ⟨(fr a ma List.not_mem_nil).1, (fr a ma List.not_mem_nil).2.1.trans ka⟩) (fun a ma ka j => ii a 1 ma ka (by omega) j) (fun a ma ka j => oo a 1 ma ka (by omega) j) (fun j _ => ⟨congrFun e32 j, congrFun e33 j, congrFun e34 j, congrFun e35 j, congrFun e36 j, congrFun e37 j⟩)
  · have e1 : rr2 = rr' := Option.some.inj (h9.symm.trans (x9.trans a1))
    subst e1
    by_cases nr : r = n
    · subst nr
      have e2 : b' = bn := Option.some.inj (hb.symm.trans (by rw [og, if_pos rfl]))
      subst e2
      have e3 : f' = a := Option.some.inj (hf.symm.trans b0)
      subst e3
      rw [u22, lUp, ii _ 2 ma ka (by omega) 4]
      exact hf4
    · have hr2 : (r : Int) < (F 17).toInt := by omega
      have Ar := hA r hr2
      have e2 : b' = b r := Option.some.inj (hb.symm.trans (by rw [og, if_neg nr]; exact Ar.1.1))
      subst e2
      have e3 : f' = f r := Option.some.inj (hf.symm.trans ((oo _ 3 Ar.1.2.1 Ar.1.2.2 (by omega) 0).trans Ar.2.1.1))
      subst e3
      rw [u22, lUn nr, ii _ 2 Ar.2.1.2.1 Ar.2.1.2.2 (by omega) 4]
      exact tB _ r _ _ a1 hr2 Ar.1.1 Ar.2.1.1
  · rw [u23, u24, u25]
    by_cases nr : r = n
    · subst nr
      simp only [lUp]
      exact ⟨c11, c10, c12⟩
    · simp only [lUn nr]
      exact t1 r (by omega)
  · rw [g31, e28, e32]
    exact t3
  · rw [g31, e28]
    exact t4
end LXT
/-- the racers' nations, of both sides -/
def lNa (x0 : Nat) (L : List Nat) (K : Nat → Nat) (I : Nat → Nat → Int32) (O : Nat → Nat → Option Nat) (F : Nat → Int32) (G : Nat → Nat → Int32) : Prop := ∃ nn : Nat, O x0 7 = some nn ∧ nn ∈ L ∧ K nn = 11 ∧ ∀ j : Nat, (j : Int) < (F 15).toInt → (I nn j).toInt = (G 16 j).toInt
section LNA
variable {x0 nn : Nat} {L L1 : List Nat} {K K1 : Nat → Nat} {I I1 : Nat → Nat → Int32} {O O1 : Nat → Nat → Option Nat} {F F1 : Nat → Int32} {G G1 : Nat → Nat → Int32} {WI WO : List (Nat × Nat)} {WF WG : List Nat}
theorem lNa.fr (h : lNa x0 L K I O F G) (mx0 : x0 ∈ L) (kx0 : K x0 = 5) (fr : cFr [] WI WO L K I O L1 K1 I1 O1) (g : mFr WF WG F G F1 G1) (a : cin WI 11 0 = false) (b : cin WO 5 7 = false) (c15 : 15 ∉ WF) (c16 : 16 ∉ WG) : lNa x0 L1 K1 I1 O1 F1 G1 := by
  obtain ⟨nn, h1, h2, h3, h4⟩ := h
  obtain ⟨-, -, -, u⟩ := fr x0 mx0 List.not_mem_nil
  rw [kx0] at u
  obtain ⟨m1, k1, v, -⟩ := fr nn h2 List.not_mem_nil
  rw [h3] at v k1
  refine ⟨nn, (u 7 b).trans h1, m1, k1, fun j hj => ?_⟩
  rw [g.1 15 c15] at hj
  rw [g.2 16 c16, v j a]
  exact h4 j hj
theorem lNa_racer {p0 r1 r2 : Int32} (h : lNa x0 L K I O F G) (mx0 : x0 ∈ L) (kx0 : K x0 = 5) (hnn : O x0 7 = some nn) (q8 : (I x0 8).toInt = (F 15).toInt) (hm : mI F G) (fr : cFr [] [(5, 8), (11, 0)] [] L K I O L1 K1 I1 O1) (hp1 : (((0 ≤ p0.toInt ∧ p0.toInt ≤ 7) ∧ (I x0 8).toInt < 16 ∧ r1.toInt = (I x0 8).toInt ∧ (I1 x0 8).toInt = (I x0 8).toInt + 1 ∧ (I1 nn (Int32.toNatClampNeg (I x0 8))).toInt = p0.toInt ∧ ∀ j : Nat, ¬ j = Int32.toNatClampNeg (I x0 8) → I1 nn j = I nn j) ∨ (¬ ((0 ≤ p0.toInt ∧ p0.toInt ≤ 7) ∧ (I x0 8).toInt < 16) ∧ r1.toInt = -1 ∧ (I1 x0 8).toInt = (I x0 8).toInt ∧ ∀ j : Nat, I1 nn j = I nn j)))
    (hp2 : (((0 ≤ p0.toInt ∧ p0.toInt ≤ 7) ∧ (F 15).toInt < 16 ∧ r2.toInt = (F 15).toInt ∧ (F1 15).toInt = (F 15).toInt + 1 ∧ G1 16 = upd (G 16) (Int32.toNatClampNeg (F 15)) p0) ∨ (¬ ((0 ≤ p0.toInt ∧ p0.toInt ≤ 7) ∧ (F 15).toInt < 16) ∧ r2.toInt = -1 ∧ (F1 15).toInt = (F 15).toInt ∧ G1 = G))) : r1.toInt = r2.toInt ∧ (I1 x0 8).toInt = (F1 15).toInt ∧ (F 15).toInt ≤ (F1 15).toInt ∧ lNa x0 L1 K1 I1 O1 F1 G1 := by
  obtain ⟨nn', h1, h2, h3, h4⟩ := h
  have en : nn' = nn := Option.some.inj (h1.symm.trans hnn)
  subst en
  have b15 : 0 ≤ (F 15).toInt ∧ (F 15).toInt ≤ 16 := hm.1 15 (0, 16) rfl
  obtain ⟨-, -, -, u⟩ := fr x0 mx0 List.not_mem_nil
  rw [kx0] at u
  obtain ⟨m1, k1, -, -⟩ := fr nn' h2 List.not_mem_nil
  rw [h3] at k1
  have e8 : Int32.toNatClampNeg (I x0 8) = Int32.toNatClampNeg (F 15) := by rw [mm_nat, mm_nat, q8]
  have hn := mm_nat (F 15)
  rcases hp1 with ⟨a1, a2, a3, a4, a5, a6⟩ | ⟨a1, a2, a3, a4⟩
  · rcases hp2 with ⟨c1, c2, c3, c4, c5⟩ | ⟨c1, -⟩
    · refine ⟨by omega, by omega, by omega, nn', (u 7 rfl).trans h1, m1, k1, fun j hj => ?_⟩
      rw [e8] at a5 a6
      by_cases e9 : j = Int32.toNatClampNeg (F 15)
      · rw [c5, e9, lUp]
        exact a5
      · rw [c5, lUn e9, a6 j e9]
        exact h4 j (by omega)
    · exact absurd ⟨a1, by omega⟩ c1
  · rcases hp2 with ⟨c1, c2, -⟩ | ⟨c1, c2, c3, c4⟩
    · exact absurd ⟨c1, by omega⟩ a1
    · refine ⟨by omega, by omega, by omega, nn', (u 7 rfl).trans h1, m1, k1, fun j hj => ?_⟩
      rw [c4, a4 j]
      exact h4 j (by omega)
end LNA
