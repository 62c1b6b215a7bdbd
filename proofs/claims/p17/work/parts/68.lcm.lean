theorem lCan {a b c l s : Int} : ((a = 0 ∧ 1 ≤ b ∧ b ≤ l ∧ -1 ≤ c ∧ c ≤ 200000) ∨ (a = 1 ∧ 0 ≤ b ∧ b < s ∧ -1 ≤ c ∧ c ≤ 31) ∨ (a = 2 ∧ 0 ≤ b ∧ b < s ∧ -1 ≤ c ∧ c ≤ 9) ∨ (a = 3 ∧ b = 0 ∧ -1 ≤ c ∧ c ≤ 1)) ↔ ((a = 0 ∧ 1 ≤ b ∧ b ≤ l) ∨ ((a = 1 ∨ a = 2) ∧ 0 ≤ b ∧ b < s) ∨ (a = 3 ∧ b = 0)) ∧ ((a = 0 ∧ -1 ≤ c ∧ c ≤ 200000) ∨ (a = 1 ∧ -1 ≤ c ∧ c ≤ 31) ∨ (a = 2 ∧ -1 ≤ c ∧ c ≤ 9) ∨ (a = 3 ∧ -1 ≤ c ∧ c ≤ 1)) := by
  constructor
  · intro h
    rcases h with h | h | h | h
    · exact ⟨Or.inl (by omega), Or.inl (by omega)⟩
    · exact ⟨Or.inr (Or.inl (by omega)), Or.inr (Or.inl (by omega))⟩
    · exact ⟨Or.inr (Or.inl (by omega)), Or.inr (Or.inr (Or.inl (by omega)))⟩
    · exact ⟨Or.inr (Or.inr (by omega)), Or.inr (Or.inr (Or.inr (by omega)))⟩
  · intro ⟨h1, h2⟩
    rcases h2 with h2 | h2 | h2 | h2
    · exact Or.inl (by omega)
    · exact Or.inr (Or.inl (by omega))
    · exact Or.inr (Or.inr (Or.inl (by omega)))
    · exact Or.inr (Or.inr (Or.inr (by omega)))
section LCM
variable {x0 rr : Nat} {L L1 : List Nat} {K K1 : Nat → Nat} {I I1 : Nat → Nat → Int32} {O O1 : Nat → Nat → Option Nat} {F F1 : Nat → Int32} {G G1 : Nat → Nat → Int32}
theorem lEnter {p0 p1 r1 r2 : Int32} (h : lRc x0 L K I O F G) (hm : mI F G) (mx0 : x0 ∈ L) (kx0 : K x0 = 5) (hrr : O x0 9 = some rr) (q8 : (I x0 8).toInt = (F 15).toInt) (q10 : (I x0 10).toInt = (F 17).toInt) (fr : cFr [] [(0, 0), (3, 4)] [(15, 0)] L K I O L1 K1 I1 O1) (g : mFr [2] [27, 29, 30] F G F1 G1) :
    ((r1.toInt = -1 ∧ (L1 = L ∧ K1 = K ∧ I1 = I ∧ O1 = O) ∧ (¬ (0 ≤ p0.toInt ∧ p0.toInt < (I x0 10).toInt) ∨ ∃ b : Nat, O rr (Int32.toNatClampNeg p0) = some b ∧ (0 ≤ p0.toInt ∧ p0.toInt < (I x0 10).toInt) ∧ b ∈ L ∧ K b = 3 ∧ (¬ (0 ≤ p1.toInt ∧ p1.toInt < (I x0 8).toInt) ∨ 0 < (I b 5).toInt ∨ ∃ es i w : Nat, O b 3 = some es ∧ (i : Int) < (I b 4).toInt ∧ O es i = some w ∧ (I w 0).toInt = p1.toInt))) ∨ (∃ b es : Nat, O rr (Int32.toNatClampNeg p0) = some b ∧ (0 ≤ p0.toInt ∧ p0.toInt < (I x0 10).toInt) ∧ b ∈ L ∧ K b = 3 ∧ O b 3 = some es ∧ es ∈ L ∧ K es = 15 ∧ (0 ≤ p1.toInt ∧ p1.toInt < (I x0 8).toInt) ∧ (I b 5).toInt ≤ 0 ∧ (∀ i : Nat, (i : Int) < (I b 4).toInt → ∀ w : Nat, O es i = some w → ¬ (I w 0).toInt = p1.toInt) ∧ r1.toInt = (I1 b 4).toInt ∧ (((16 ≤ (I b 4).toInt ∧ (L1 = L ∧ K1 = K ∧ I1 = I ∧ O1 = O)) ∨ ((I b 4).toInt < 16 ∧ ∃ qe : Nat, qe ∉ L ∧ qe ∈ L1 ∧ K1 qe = 0 ∧ (I1 qe 0).toInt = p1.toInt ∧ O1 qe 1 = none ∧ (I1 b 4).toInt = (I b 4).toInt + 1 ∧ (∀ g : Nat, O1 es g = if g = Int32.toNatClampNeg (I b 4) then some qe else O es g))) ∧ (∀ a : Nat, a ∈ L → K a = 0 → ∀ j : Nat, I1 a j = I a j) ∧ (∀ a : Nat, a ∈ L → K a = 3 → ¬ a = b → ∀ j : Nat, I1 a j = I a j) ∧ (∀ a : Nat, a ∈ L → K a = 15 → ¬ a = es → ∀ j : Nat, O1 a j = O a j)))) →
    (((r2.toInt = -1 ∧ G1 = G ∧ ¬ ((0 ≤ p0.toInt ∧ p0.toInt < (F 17).toInt) ∧ (0 ≤ p1.toInt ∧ p1.toInt < (F 15).toInt) ∧ (G 30 (16 * Int32.toNatClampNeg p0 + Int32.toNatClampNeg p1)).toInt < 0 ∧ (G 28 (Int32.toNatClampNeg p0)).toInt ≤ 0)) ∨ (((0 ≤ p0.toInt ∧ p0.toInt < (F 17).toInt) ∧ (0 ≤ p1.toInt ∧ p1.toInt < (F 15).toInt) ∧ (G 30 (16 * Int32.toNatClampNeg p0 + Int32.toNatClampNeg p1)).toInt < 0 ∧ (G 28 (Int32.toNatClampNeg p0)).toInt ≤ 0) ∧ r2.toInt = (G 27 (Int32.toNatClampNeg p0)).toInt + 1 ∧ (G 27 (Int32.toNatClampNeg p0)).toInt ≤ 15 ∧ ∃ z27 : Int32, z27.toInt = (G 27 (Int32.toNatClampNeg p0)).toInt + 1 ∧ G1 27 = upd (G 27) (Int32.toNatClampNeg p0) z27 ∧ G1 29 = upd (G 29) (16 * Int32.toNatClampNeg p0 + Int32.toNatClampNeg (G 27 (Int32.toNatClampNeg p0))) p1 ∧ G1 30 = upd (G 30) (16 * Int32.toNatClampNeg p0 + Int32.toNatClampNeg p1) (G 27 (Int32.toNatClampNeg p0))))) → (r1.toInt = r2.toInt ∧ lRc x0 L1 K1 I1 O1 F1 G1) := by
  obtain ⟨rr', b, f, e, w, hx⟩ := id h
  obtain ⟨⟨a1, a2, a3⟩, a4, hA, hB, hC, d1, d2, d3, d4⟩ := id hx
  have er : rr' = rr := Option.some.inj (a1.symm.trans hrr)
  subst er
  have b17 : 0 ≤ (F 17).toInt ∧ (F 17).toInt ≤ 8 := hm.1 17 (0, 8) rfl
  have b15 : 0 ≤ (F 15).toInt ∧ (F 15).toInt ≤ 16 := hm.1 15 (0, 16) rfl
  have b27 : ∀ j : Nat, 0 ≤ (G 27 j).toInt ∧ (G 27 j).toInt ≤ 16 := hm.2.1 27 (0, 16) rfl
  by_cases hr : 0 ≤ p0.toInt ∧ p0.toInt < (F 17).toInt
  · have hr0 : ((Int32.toNatClampNeg p0 : Nat) : Int) < (F 17).toInt := by rw [mm_nat]; omega
    have A := hA (Int32.toNatClampNeg p0) hr0
    have B := hB (Int32.toNatClampNeg p0)
    have C := hC (Int32.toNatClampNeg p0)
    have b27p := b27 (Int32.toNatClampNeg p0)
    have hr8 : Int32.toNatClampNeg p0 < 8 := by rw [mm_nat]; omega
    have A4 := A.2.2.2.2.1.2.1
    have A5 := A.2.2.2.2.1.2.2
    intro hp1
    rcases hp1 with ⟨u1, ⟨eL, eK, eI, eO⟩, u2⟩ | ⟨b0, es0, ob, inn, mb, kb, oe, me, ke, ir, t5, noe, rq, adp, f0, f3, f15⟩
    · subst eL
      subst eK
      subst eI
      subst eO
      have hno : ¬ ((0 ≤ p0.toInt ∧ p0.toInt < (F 17).toInt) ∧ (0 ≤ p1.toInt ∧ p1.toInt < (F 15).toInt) ∧ (G 30 (16 * Int32.toNatClampNeg p0 + Int32.toNatClampNeg p1)).toInt < 0 ∧ (G 28 (Int32.toNatClampNeg p0)).toInt ≤ 0) := by
        intro ⟨c1, c2, c3, c4⟩
        rcases u2 with u2 | ⟨b0, ob, inn, mb, kb, u3⟩
        · exact u2 (by omega)
        · have eb : b (Int32.toNatClampNeg p0) = b0 := Option.some.inj (A.1.1.symm.trans ob)
          rw [eb] at A4 A5
          rcases u3 with u3 | u3 | ⟨es, i, w0, oe, hi, ow, ew⟩
          · exact u3 (by omega)
          · omega
          · have A3 := A.2.2.1.1
            rw [eb] at A3
            have ee : e (Int32.toNatClampNeg p0) = es := Option.some.inj (A3.symm.trans oe)
            obtain ⟨⟨s1, -, -⟩, s4, s5, s6, s7⟩ := B i hr0 (by omega)
            rw [ee] at s1
            have ei : w (Int32.toNatClampNeg p0) i = w0 := Option.some.inj (s1.symm.trans ow)
            rw [ei] at s4
            rw [show (G 29 (16 * Int32.toNatClampNeg p0 + i)).toInt.toNat = Int32.toNatClampNeg p1 from by rw [mm_nat p1]; omega] at s7
            omega
      intro hp2
      rcases hp2 with ⟨v1, v2, v3⟩ | ⟨v1, -⟩
      · exact ⟨by omega, lRc_stay h (g.1 17 (by decide)) (g.1 15 (by decide)) (g.1 31 (by decide)) v2⟩
      · exact absurd v1 hno
    · have eb : b (Int32.toNatClampNeg p0) = b0 := Option.some.inj (A.1.1.symm.trans ob)
      rw [eb] at A4 A5
      have A3 := A.2.2.1.1
      rw [eb] at A3
      have ee : e (Int32.toNatClampNeg p0) = es0 := Option.some.inj (A3.symm.trans oe)
      have hp16 : Int32.toNatClampNeg p1 < 16 := by rw [mm_nat]; omega
      have hneg : (G 30 (16 * Int32.toNatClampNeg p0 + Int32.toNatClampNeg p1)).toInt < 0 := by
        rcases Int.lt_or_le (G 30 (16 * Int32.toNatClampNeg p0 + Int32.toNatClampNeg p1)).toInt 0 with q | q
        · exact q
        · exfalso
          obtain ⟨c1, c2, c3⟩ := C (Int32.toNatClampNeg p1) hr8 hp16 q
          obtain ⟨⟨s1, -, -⟩, s4, -⟩ := B (G 30 (16 * Int32.toNatClampNeg p0 + Int32.toNatClampNeg p1)).toInt.toNat hr0 (by omega)
          rw [ee] at s1
          rw [c3] at s4
          exact noe _ (by omega) _ s1 (by rw [s4, mm_nat]; omega)
      intro hp2
      rcases hp2 with ⟨v1, v2, v3⟩ | ⟨v1, v2, v3, z27, v4, u27, u29, u30⟩
      · exact absurd ⟨hr, by omega, hneg, by omega⟩ v3
      · rcases adp with ⟨full, -⟩ | ⟨lt, qe, ql, qm, qk, q0, q1, c4, og⟩
        · omega
        · exact ⟨by omega, lRc_enter h hm mx0 kx0 hrr fr g (r0 := Int32.toNatClampNeg p0) (v0 := Int32.toNatClampNeg p1) ob oe hr0 (by rw [mm_nat]; omega) v3 hneg ql qm qk q0 c4 og f0 f3 f15 v4 (by rw [mm_nat]; omega) u27 u29 u30⟩
  · intro hp1
    rcases hp1 with ⟨u1, ⟨eL, eK, eI, eO⟩, -⟩ | ⟨b0, es0, ob, inn, -⟩
    · subst eL
      subst eK
      subst eI
      subst eO
      intro hp2
      rcases hp2 with ⟨v1, v2, v3⟩ | ⟨v1, -⟩
      · exact ⟨by omega, lRc_stay h (g.1 17 (by decide)) (g.1 15 (by decide)) (g.1 31 (by decide)) v2⟩
      · exact absurd v1.1 hr
    · exfalso; omega
theorem lTell {p0 p1 p2 p3 p4 r1 r2 : Int32} (h : lRc x0 L K I O F G) (hm : mI F G) (mx0 : x0 ∈ L) (kx0 : K x0 = 5) (hrr : O x0 9 = some rr) (q10 : (I x0 10).toInt = (F 17).toInt) (fr : cFr [] [(1, 0), (1, 1), (1, 2), (1, 3), (3, 5), (5, 11)] [(0, 1), (1, 4)] L K I O L1 K1 I1 O1) (g : mFr [2, 31] [28, 32, 33, 34, 35, 36, 37] F G F1 G1) :
    ((r1.toInt = -1 ∧ (L1 = L ∧ K1 = K ∧ I1 = I ∧ O1 = O) ∧ (¬ (0 ≤ p0.toInt ∧ p0.toInt < (I x0 10).toInt) ∨ 400 ≤ (I x0 11).toInt ∨ ∃ b : Nat, O rr (Int32.toNatClampNeg p0) = some b ∧ (0 ≤ p0.toInt ∧ p0.toInt < (I x0 10).toInt) ∧ b ∈ L ∧ K b = 3 ∧ ((∃ es : Nat, O b 3 = some es ∧ (∀ i : Nat, (i : Int) < (I b 4).toInt → ∀ w : Nat, O es i = some w → ¬ (I w 0).toInt = p1.toInt)) ∨ (∃ fo : Nat, O b 0 = some fo ∧ ¬ ((p2.toInt = 0 ∧ 1 ≤ p3.toInt ∧ p3.toInt ≤ (I fo 1).toInt) ∨ ((p2.toInt = 1 ∨ p2.toInt = 2) ∧ 0 ≤ p3.toInt ∧ p3.toInt < (I fo 2).toInt) ∨ (p2.toInt = 3 ∧ p3.toInt = 0))) ∨ ¬ ((p2.toInt = 0 ∧ -1 ≤ p4.toInt ∧ p4.toInt ≤ 200000) ∨ (p2.toInt = 1 ∧ -1 ≤ p4.toInt ∧ p4.toInt ≤ 31) ∨ (p2.toInt = 2 ∧ -1 ≤ p4.toInt ∧ p4.toInt ≤ 9) ∨ (p2.toInt = 3 ∧ -1 ≤ p4.toInt ∧ p4.toInt ≤ 1))))) ∨ (∃ b es fo w i ev : Nat, O rr (Int32.toNatClampNeg p0) = some b ∧ (0 ≤ p0.toInt ∧ p0.toInt < (I x0 10).toInt) ∧ b ∈ L ∧ K b = 3 ∧ O b 3 = some es ∧ O b 0 = some fo ∧ ((i : Int) < (I b 4).toInt ∧ O es i = some w ∧ (I w 0).toInt = p1.toInt) ∧ w ∈ L ∧ K w = 0 ∧ ((p2.toInt = 0 ∧ 1 ≤ p3.toInt ∧ p3.toInt ≤ (I fo 1).toInt) ∨ ((p2.toInt = 1 ∨ p2.toInt = 2) ∧ 0 ≤ p3.toInt ∧ p3.toInt < (I fo 2).toInt) ∨ (p2.toInt = 3 ∧ p3.toInt = 0)) ∧ ((p2.toInt = 0 ∧ -1 ≤ p4.toInt ∧ p4.toInt ≤ 200000) ∨ (p2.toInt = 1 ∧ -1 ≤ p4.toInt ∧ p4.toInt ≤ 31) ∨ (p2.toInt = 2 ∧ -1 ≤ p4.toInt ∧ p4.toInt ≤ 9) ∨ (p2.toInt = 3 ∧ -1 ≤ p4.toInt ∧ p4.toInt ≤ 1)) ∧ (I x0 11).toInt < 400 ∧ ev ∉ L ∧ ev ∈ L1 ∧ K1 ev = 1 ∧ (I1 ev 0).toInt = (I x0 6).toInt ∧ (I1 ev 1).toInt = p2.toInt ∧ (I1 ev 2).toInt = p3.toInt ∧ (I1 ev 3).toInt = p4.toInt ∧ O1 ev 4 = O w 1 ∧ O1 w 1 = some ev ∧ (I1 b 5).toInt = ((I b 5) + 1).toInt ∧ (I1 x0 11).toInt = (I x0 11).toInt + 1 ∧ r1.toInt = (I x0 11).toInt + 1 ∧ (∀ a : Nat, a ∈ L → K a = 3 → ¬ a = b → ∀ j : Nat, I1 a j = I a j) ∧ (∀ a : Nat, a ∈ L → K a = 0 → ¬ a = w → ∀ j : Nat, O1 a j = O a j) ∧ (∀ a : Nat, a ∈ L → K a = 1 → ∀ j : Nat, I1 a j = I a j) ∧ (∀ a : Nat, a ∈ L → K a = 1 → ∀ j : Nat, O1 a j = O a j))) →
    ((r2.toInt = -1 ∧ G1 = G ∧ (F1 31).toInt = (F 31).toInt ∧ ¬ (((0 ≤ p0.toInt ∧ p0.toInt < (F 17).toInt) ∧ (0 ≤ p1.toInt ∧ p1.toInt < (F 15).toInt) ∧ 0 ≤ (G 30 (16 * Int32.toNatClampNeg p0 + Int32.toNatClampNeg p1)).toInt) ∧ ((p2.toInt = 0 ∧ 1 ≤ p3.toInt ∧ p3.toInt ≤ (G 19 (Int32.toNatClampNeg p0)).toInt ∧ -1 ≤ p4.toInt ∧ p4.toInt ≤ 200000) ∨ (p2.toInt = 1 ∧ 0 ≤ p3.toInt ∧ p3.toInt < (G 20 (Int32.toNatClampNeg p0)).toInt ∧ -1 ≤ p4.toInt ∧ p4.toInt ≤ 31) ∨ (p2.toInt = 2 ∧ 0 ≤ p3.toInt ∧ p3.toInt < (G 20 (Int32.toNatClampNeg p0)).toInt ∧ -1 ≤ p4.toInt ∧ p4.toInt ≤ 9) ∨ (p2.toInt = 3 ∧ p3.toInt = 0 ∧ -1 ≤ p4.toInt ∧ p4.toInt ≤ 1)) ∧ (F 31).toInt < 400)) ∨ ((((0 ≤ p0.toInt ∧ p0.toInt < (F 17).toInt) ∧ (0 ≤ p1.toInt ∧ p1.toInt < (F 15).toInt) ∧ 0 ≤ (G 30 (16 * Int32.toNatClampNeg p0 + Int32.toNatClampNeg p1)).toInt) ∧ ((p2.toInt = 0 ∧ 1 ≤ p3.toInt ∧ p3.toInt ≤ (G 19 (Int32.toNatClampNeg p0)).toInt ∧ -1 ≤ p4.toInt ∧ p4.toInt ≤ 200000) ∨ (p2.toInt = 1 ∧ 0 ≤ p3.toInt ∧ p3.toInt < (G 20 (Int32.toNatClampNeg p0)).toInt ∧ -1 ≤ p4.toInt ∧ p4.toInt ≤ 31) ∨ (p2.toInt = 2 ∧ 0 ≤ p3.toInt ∧ p3.toInt < (G 20 (Int32.toNatClampNeg p0)).toInt ∧ -1 ≤ p4.toInt ∧ p4.toInt ≤ 9) ∨ (p2.toInt = 3 ∧ p3.toInt = 0 ∧ -1 ≤ p4.toInt ∧ p4.toInt ≤ 1)) ∧ (F 31).toInt < 400) ∧ r2.toInt = (F 31).toInt + 1 ∧ (F1 31).toInt = (F 31).toInt + 1 ∧ G1 28 = upd (G 28) (Int32.toNatClampNeg p0) (G 28 (Int32.toNatClampNeg p0) + 1) ∧ G1 32 = upd (G 32) (Int32.toNatClampNeg (F 31)) p0 ∧ G1 33 = upd (G 33) (Int32.toNatClampNeg (F 31)) p1 ∧ G1 34 = upd (G 34) (Int32.toNatClampNeg (F 31)) p2 ∧ G1 35 = upd (G 35) (Int32.toNatClampNeg (F 31)) p3 ∧ G1 36 = upd (G 36) (Int32.toNatClampNeg (F 31)) p4 ∧ G1 37 = upd (G 37) (Int32.toNatClampNeg (F 31)) (F 3))) → (r1.toInt = r2.toInt ∧ lRc x0 L1 K1 I1 O1 F1 G1) := by
  obtain ⟨rr', b, f, e, w, hx⟩ := id h
  obtain ⟨⟨a1, a2, a3⟩, a4, hA, hB, hC, d1, d2, d3, d4⟩ := id hx
  have er : rr' = rr := Option.some.inj (a1.symm.trans hrr)
  subst er
  have b17 : 0 ≤ (F 17).toInt ∧ (F 17).toInt ≤ 8 := hm.1 17 (0, 8) rfl
  have b15 : 0 ≤ (F 15).toInt ∧ (F 15).toInt ≤ 16 := hm.1 15 (0, 16) rfl
  have b27 : ∀ j : Nat, 0 ≤ (G 27 j).toInt ∧ (G 27 j).toInt ≤ 16 := hm.2.1 27 (0, 16) rfl
  have h31 : (I x0 11).toInt = (F 31).toInt := a4
  by_cases hr : 0 ≤ p0.toInt ∧ p0.toInt < (F 17).toInt
  · have hr0 : ((Int32.toNatClampNeg p0 : Nat) : Int) < (F 17).toInt := by rw [mm_nat]; omega
    have A := hA (Int32.toNatClampNeg p0) hr0
    have B := hB (Int32.toNatClampNeg p0)
    have C := hC (Int32.toNatClampNeg p0)
    have b27p := b27 (Int32.toNatClampNeg p0)
    have hr8 : Int32.toNatClampNeg p0 < 8 := by rw [mm_nat]; omega
    have A4 := A.2.2.2.2.1.2.1
    have A3 := A.2.2.1.1
    have A0 := A.2.1.1
    obtain ⟨-, F1_, F2_, -⟩ := A.2.2.2.1
    intro hp1
    rcases hp1 with ⟨u1, ⟨eL, eK, eI, eO⟩, u2⟩ | ⟨b0, es, fo, w0, i, ev, ob, inn, mb, kb, oe, of_, ⟨hi, ow, ew⟩, mw, kw, he, hv, h4, el, em, ek, x0_, x1_, x2_, x3_, x4_, x5_, c5, c11, rq, f3, fw, f1, f1o⟩
    · subst eL
      subst eK
      subst eI
      subst eO
      intro hp2
      rcases hp2 with ⟨v1, v2, v3, v4⟩ | ⟨⟨⟨-, v2, v3⟩, v4, v5⟩, -⟩
      · exact ⟨by omega, lRc_stay h (g.1 17 (by decide)) (g.1 15 (by decide)) (Int32.toInt_inj.mp v3) v2⟩
      · exfalso
        rcases u2 with u2 | u2 | ⟨b0, ob, inn, mb, kb, u3⟩
        · exact u2 (by omega)
        · omega
        · have eb : b (Int32.toNatClampNeg p0) = b0 := Option.some.inj (A.1.1.symm.trans ob)
          rw [eb] at A4 A3 A0
          rcases u3 with ⟨es, oe, noe⟩ | ⟨fo, of_, u3⟩ | u3
          · have ee : e (Int32.toNatClampNeg p0) = es := Option.some.inj (A3.symm.trans oe)
            have hp16 : Int32.toNatClampNeg p1 < 16 := by rw [mm_nat]; omega
            obtain ⟨c1, c2, c3⟩ := C (Int32.toNatClampNeg p1) hr8 hp16 v3
            obtain ⟨⟨s1, -, -⟩, s4, -⟩ := B (G 30 (16 * Int32.toNatClampNeg p0 + Int32.toNatClampNeg p1)).toInt.toNat hr0 (by omega)
            rw [ee] at s1
            rw [c3] at s4
            exact noe _ (by omega) _ s1 (by rw [s4, mm_nat]; omega)
          · have ef : f (Int32.toNatClampNeg p0) = fo := Option.some.inj (A0.symm.trans of_)
            rw [ef] at F1_ F2_
            rw [F1_, F2_] at u3
            exact u3 (lCan.mp v4).1
          · exact u3 (lCan.mp v4).2
    · have eb : b (Int32.toNatClampNeg p0) = b0 := Option.some.inj (A.1.1.symm.trans ob)
      rw [eb] at A4 A3 A0
      have ee : e (Int32.toNatClampNeg p0) = es := Option.some.inj (A3.symm.trans oe)
      have ef : f (Int32.toNatClampNeg p0) = fo := Option.some.inj (A0.symm.trans of_)
      rw [ef] at F1_ F2_
      obtain ⟨⟨s1, -, -⟩, s4, s5, s6, s7⟩ := B i hr0 (by omega)
      rw [ee] at s1
      have ei : w (Int32.toNatClampNeg p0) i = w0 := Option.some.inj (s1.symm.trans ow)
      rw [ei] at s4
      rw [show (G 29 (16 * Int32.toNatClampNeg p0 + i)).toInt.toNat = Int32.toNatClampNeg p1 from by rw [mm_nat p1]; omega] at s7
      intro hp2
      rcases hp2 with ⟨v1, v2, v3, v4⟩ | ⟨-, v2, v3, u28, -⟩
      · exfalso
        rw [F1_, F2_] at he
        exact v4 ⟨⟨hr, by clear v4; omega, by clear v4; omega⟩, lCan.mpr ⟨he, hv⟩, by clear v4; omega⟩
      · exact ⟨by omega, lRc_tell h hm mx0 kx0 hrr fr g (r0 := Int32.toNatClampNeg p0) ob hr0 c5 f3 u28 (by omega)⟩
  · intro hp1
    rcases hp1 with ⟨u1, ⟨eL, eK, eI, eO⟩, -⟩ | ⟨b0, es, fo, w0, i, ev, ob, inn, -⟩
    · subst eL
      subst eK
      subst eI
      subst eO
      intro hp2
      rcases hp2 with ⟨v1, v2, v3, v4⟩ | ⟨⟨v1, -⟩, -⟩
      · exact ⟨by omega, lRc_stay h (g.1 17 (by decide)) (g.1 15 (by decide)) (Int32.toInt_inj.mp v3) v2⟩
      · exact absurd v1.1 hr
    · exfalso; omega
theorem lEntry {p0 p1 r1 r2 : Int32} (h : lRc x0 L K I O F G) (hm : mI F G) (mx0 : x0 ∈ L) (kx0 : K x0 = 5) (hrr : O x0 9 = some rr) (q10 : (I x0 10).toInt = (F 17).toInt) (fr : cFr [] [] [] L K I O L1 K1 I1 O1) (g : mFr [2] [] F G F1 G1) :
    ((L1 = L ∧ K1 = K ∧ I1 = I ∧ O1 = O) ∧ (((r1.toInt = -1 ∧ (¬ (0 ≤ p0.toInt ∧ p0.toInt < (I x0 10).toInt) ∨ ∃ b : Nat, O rr (Int32.toNatClampNeg p0) = some b ∧ (0 ≤ p0.toInt ∧ p0.toInt < (I x0 10).toInt) ∧ ¬ (0 ≤ p1.toInt ∧ p1.toInt < (I b 4).toInt))) ∨ (∃ b es w : Nat, O rr (Int32.toNatClampNeg p0) = some b ∧ (0 ≤ p0.toInt ∧ p0.toInt < (I x0 10).toInt) ∧ O b 3 = some es ∧ (0 ≤ p1.toInt ∧ p1.toInt < (I b 4).toInt) ∧ O es (Int32.toNatClampNeg p1) = some w ∧ r1.toInt = (I w 0).toInt)))) →
    ((r2.toInt = -1 ∧ ¬ ((0 ≤ p0.toInt ∧ p0.toInt < (F 17).toInt) ∧ 0 ≤ p1.toInt ∧ p1.toInt < (G 27 (Int32.toNatClampNeg p0)).toInt)) ∨ (((0 ≤ p0.toInt ∧ p0.toInt < (F 17).toInt) ∧ 0 ≤ p1.toInt ∧ p1.toInt < (G 27 (Int32.toNatClampNeg p0)).toInt) ∧ r2.toInt = (G 29 (16 * Int32.toNatClampNeg p0 + Int32.toNatClampNeg p1)).toInt)) → (r1.toInt = r2.toInt) := by
  obtain ⟨rr', b, f, e, w, hx⟩ := id h
  obtain ⟨⟨a1, a2, a3⟩, a4, hA, hB, hC, d1, d2, d3, d4⟩ := id hx
  have er : rr' = rr := Option.some.inj (a1.symm.trans hrr)
  subst er
  have b17 : 0 ≤ (F 17).toInt ∧ (F 17).toInt ≤ 8 := hm.1 17 (0, 8) rfl
  have b15 : 0 ≤ (F 15).toInt ∧ (F 15).toInt ≤ 16 := hm.1 15 (0, 16) rfl
  have b27 : ∀ j : Nat, 0 ≤ (G 27 j).toInt ∧ (G 27 j).toInt ≤ 16 := hm.2.1 27 (0, 16) rfl
  by_cases hr : 0 ≤ p0.toInt ∧ p0.toInt < (F 17).toInt
  · have hr0 : ((Int32.toNatClampNeg p0 : Nat) : Int) < (F 17).toInt := by rw [mm_nat]; omega
    have A := hA (Int32.toNatClampNeg p0) hr0
    have A4 := A.2.2.2.2.1.2.1
    have A3 := A.2.2.1.1
    intro hp1
    obtain ⟨-, hp1⟩ := hp1
    rcases hp1 with ⟨u1, u2⟩ | ⟨b0, es, w0, ob, inn, oe, hi, ow, ew⟩
    · intro hp2
      rcases hp2 with ⟨v1, v2⟩ | ⟨v1, v2⟩
      · omega
      · exfalso
        rcases u2 with u2 | ⟨b0, ob, inn, u3⟩
        · exact u2 (by omega)
        · have eb : b (Int32.toNatClampNeg p0) = b0 := Option.some.inj (A.1.1.symm.trans ob)
          rw [eb] at A4
          exact u3 (by omega)
    · have eb : b (Int32.toNatClampNeg p0) = b0 := Option.some.inj (A.1.1.symm.trans ob)
      rw [eb] at A4 A3
      have ee : e (Int32.toNatClampNeg p0) = es := Option.some.inj (A3.symm.trans oe)
      intro hp2
      rcases hp2 with ⟨v1, v2⟩ | ⟨v1, v2⟩
      · exact absurd ⟨hr, by omega, by omega⟩ v2
      · obtain ⟨⟨s1, -, -⟩, s4, -⟩ := hB (Int32.toNatClampNeg p0) (Int32.toNatClampNeg p1) hr0 (by rw [mm_nat p1]; omega)
        rw [ee] at s1
        have ei : w (Int32.toNatClampNeg p0) (Int32.toNatClampNeg p1) = w0 := Option.some.inj (s1.symm.trans ow)
        rw [ei] at s4
        omega
  · intro hp1
    obtain ⟨-, hp1⟩ := hp1
    rcases hp1 with ⟨u1, -⟩ | ⟨b0, es, w0, ob, inn, -⟩
    · intro hp2
      rcases hp2 with ⟨v1, -⟩ | ⟨v1, -⟩
      · omega
      · exact absurd v1.1 hr
    · exfalso; omega
theorem lRace {p0 p1 r1 r2 : Int32} (h : lRc x0 L K I O F G) (hm : mI F G) (mx0 : x0 ∈ L) (kx0 : K x0 = 5) (hrr : O x0 9 = some rr) (q10 : (I x0 10).toInt = (F 17).toInt) {fo : Option Nat} (hg : (0 ≤ p0.toInt ∧ p0.toInt < 8) → (fo = none ∧ (G 5 (Int32.toNatClampNeg p0)).toInt = 0) ∨ (¬ (G 5 (Int32.toNatClampNeg p0)).toInt = 0 ∧ ∃ a : Nat, fo = some a ∧ a ∈ L ∧ K a = 2 ∧ ((I a 0).toInt = p0.toInt ∧ (I a 1).toInt = (G 5 (Int32.toNatClampNeg p0)).toInt ∧ (I a 2).toInt = (G 6 (Int32.toNatClampNeg p0)).toInt ∧ (I a 3).toInt = (G 8 (Int32.toNatClampNeg p0)).toInt ∧ (I a 5).toInt = (G 10 (Int32.toNatClampNeg p0)).toInt ∧ (I a 6).toInt + 9 = (G 11 (Int32.toNatClampNeg p0)).toInt ∧ (I a 7).toInt = (G 12 (Int32.toNatClampNeg p0)).toInt))) (fr : cFr [] [(5, 10)] [(12, 0)] L K I O L1 K1 I1 O1) (g : mFr [2, 17] [18, 19, 20, 21, 22, 23, 24, 25, 26] F G F1 G1) :
    ((r1.toInt = -1 ∧ (L1 = L ∧ K1 = K ∧ I1 = I ∧ O1 = O) ∧ (¬ (0 ≤ p0.toInt ∧ p0.toInt < 8) ∨ 8 ≤ (I x0 10).toInt ∨ fo = none ∨ (∃ a : Nat, fo = some a ∧ (((I a 6).toInt = 2 ∧ ¬ (0 ≤ p1.toInt ∧ p1.toInt < (I x0 10).toInt)) ∨ (¬ (I a 6).toInt = 2 ∧ ¬ p1.toInt = -1))))) ∨ (∃ a b es : Nat, fo = some a ∧ r1.toInt = (I x0 10).toInt ∧ (I1 x0 10).toInt = (I x0 10).toInt + 1 ∧ (0 ≤ p0.toInt ∧ p0.toInt < 8) ∧ (I x0 10).toInt < 8 ∧ (((I a 6).toInt = 2 ∧ (0 ≤ p1.toInt ∧ p1.toInt < (I x0 10).toInt) ∧ O1 b 1 = O rr (Int32.toNatClampNeg p1)) ∨ (¬ (I a 6).toInt = 2 ∧ p1.toInt = -1 ∧ O1 b 1 = none)) ∧ b ∉ L ∧ b ∈ L1 ∧ K1 b = 3 ∧ O1 b 0 = some a ∧ (I1 b 2).toInt = p1.toInt ∧ (I1 b 4).toInt = 0 ∧ (I1 b 5).toInt = 0 ∧ O1 b 3 = some es ∧ es ∉ L ∧ es ∈ L1 ∧ K1 es = 15 ∧ (∀ g : Nat, O1 rr g = if g = Int32.toNatClampNeg (I x0 10) then some b else O rr g))) →
    ((((r2.toInt = -1 ∧ G1 = G ∧ (F1 17).toInt = (F 17).toInt ∧ (¬ (0 ≤ p0.toInt ∧ p0.toInt < 8) ∨ (G 5 (Int32.toNatClampNeg p0)).toInt = 0 ∨ 8 ≤ (F 17).toInt ∨ ((G 11 (Int32.toNatClampNeg p0)).toInt = 11 ∧ ¬ (0 ≤ p1.toInt ∧ p1.toInt < (F 17).toInt)) ∨ (¬ (G 11 (Int32.toNatClampNeg p0)).toInt = 11 ∧ ¬ p1.toInt = -1))) ∨ (r2.toInt = (F 17).toInt ∧ (F1 17).toInt = (F 17).toInt + 1 ∧ (0 ≤ p0.toInt ∧ p0.toInt < 8) ∧ ¬ (G 5 (Int32.toNatClampNeg p0)).toInt = 0 ∧ (F 17).toInt < 8 ∧ (((G 11 (Int32.toNatClampNeg p0)).toInt = 11 ∧ (0 ≤ p1.toInt ∧ p1.toInt < (F 17).toInt)) ∨ (¬ (G 11 (Int32.toNatClampNeg p0)).toInt = 11 ∧ p1.toInt = -1)) ∧ G1 18 = upd (G 18) (Int32.toNatClampNeg (F 17)) p0 ∧ G1 19 = upd (G 19) (Int32.toNatClampNeg (F 17)) (G 5 (Int32.toNatClampNeg p0)) ∧ G1 20 = upd (G 20) (Int32.toNatClampNeg (F 17)) (G 6 (Int32.toNatClampNeg p0)) ∧ G1 21 = upd (G 21) (Int32.toNatClampNeg (F 17)) (G 8 (Int32.toNatClampNeg p0)) ∧ G1 22 = upd (G 22) (Int32.toNatClampNeg (F 17)) (vp_nar .boolean (G 9 (Int32.toNatClampNeg p0))) ∧ G1 23 = upd (G 23) (Int32.toNatClampNeg (F 17)) (G 10 (Int32.toNatClampNeg p0)) ∧ G1 24 = upd (G 24) (Int32.toNatClampNeg (F 17)) (G 11 (Int32.toNatClampNeg p0)) ∧ G1 25 = upd (G 25) (Int32.toNatClampNeg (F 17)) (G 12 (Int32.toNatClampNeg p0)) ∧ G1 26 = upd (G 26) (Int32.toNatClampNeg (F 17)) p1)) ∧ mR3 F1 G1)) → (r1.toInt = r2.toInt ∧ (I1 x0 10).toInt = (F1 17).toInt ∧ lRc x0 L1 K1 I1 O1 F1 G1) := by
  by_cases hr : 0 ≤ p0.toInt ∧ p0.toInt < 8
  · rcases hg hr with ⟨a, b⟩ | ⟨a, x, b, mx, kx, xf⟩
    · intro hp1
      rcases hp1 with ⟨u1, ⟨eL, eK, eI, eO⟩, -⟩ | ⟨y, _, _, u5, -⟩
      · subst eL
        subst eK
        subst eI
        subst eO
        intro hp2
        obtain ⟨hp2, -⟩ := hp2
        rcases hp2 with ⟨v1, v2, v3, -⟩ | ⟨-, -, -, v4, -⟩
        · exact ⟨by omega, by omega, lRc_stay h (Int32.toInt_inj.mp v3) (g.1 15 (by decide)) (g.1 31 (by decide)) v2⟩
        · exact absurd b v4
      · rw [a] at u5
        cases u5
    · intro hp1
      rcases hp1 with ⟨u1, ⟨eL, eK, eI, eO⟩, u3⟩ | ⟨y, bn, es, u5, u1, u2, u3, u4, u6, bl, bm, bk, b0, b2, b4, b5, b3, el, em, ek, og⟩
      · subst eL
        subst eK
        subst eI
        subst eO
        intro hp2
        obtain ⟨hp2, -⟩ := hp2
        rcases hp2 with ⟨v1, v2, v3, -⟩ | ⟨-, -, -, -, v5, v6, -⟩
        · exact ⟨by omega, by omega, lRc_stay h (Int32.toInt_inj.mp v3) (g.1 15 (by decide)) (g.1 31 (by decide)) v2⟩
        · exfalso
          rcases u3 with u3 | u3 | u3 | ⟨y, u5, u6⟩
          · exact u3 hr
          · omega
          · rw [b] at u3
            cases u3
          · rw [b] at u5
            cases u5
            omega
      · rw [b] at u5
        cases u5
        intro hp2
        obtain ⟨hp2, -⟩ := hp2
        rcases hp2 with ⟨-, -, -, v4⟩ | ⟨v1, v2, -, -, v5, v6, w18, w19, w20, w21, w22, w23, w24, w25, w26⟩
        · omega
        · exact ⟨by omega, by omega, lRc_race h hm mx0 kx0 hrr fr g v5 v2 q10 mx kx bl bm bk b0 b2 b4 b5 b3 el em ek og u6 xf w18 w19 w20 w21 w22 w23 w24 w25 w26⟩
  · intro hp1
    rcases hp1 with ⟨u1, ⟨eL, eK, eI, eO⟩, -⟩ | ⟨y, bn, es, u5, u1, u2, u3, -⟩
    · subst eL
      subst eK
      subst eI
      subst eO
      intro hp2
      obtain ⟨hp2, -⟩ := hp2
      rcases hp2 with ⟨v1, v2, v3, -⟩ | ⟨-, -, v3, -⟩
      · exact ⟨by omega, by omega, lRc_stay h (Int32.toInt_inj.mp v3) (g.1 15 (by decide)) (g.1 31 (by decide)) v2⟩
      · exact absurd v3 hr
    · exact absurd u3 hr
end LCM
