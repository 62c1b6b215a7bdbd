section LCQ
variable {x0 rr : Nat} {b f e : Nat → Nat} {w : Nat → Nat → Nat} {L : List Nat} {K : Nat → Nat} {I I1 : Nat → Nat → Int32} {O : Nat → Nat → Option Nat} {F F1 : Nat → Int32} {G G1 : Nat → Nat → Int32} {WF WG : List Nat}
/-- both sides have worked out the same -/
theorem lWk (hx : lWx x0 rr b f e w L K I O F G) (hg : ∀ k : Nat, 16 ≤ k → k ≤ 37 → G1 k = G k) {d n : Int} (hn : n < (F 17).toInt) (u : ∀ u t : Nat, (u : Int) ≤ n → (t : Int) < (G 27 u).toInt → wkP F (cGv w I1 G) d u t) (v : ∀ u t : Nat, (u : Int) ≤ n → (t : Int) < (G 27 u).toInt → wkP F G1 d u t) : ∀ r i : Nat, (r : Int) ≤ n → (i : Int) < (G 27 r).toInt → (G1 45 (wkI G r i)).toInt = (cGv w I1 G 45 (wkI G r i)).toInt ∧ (G1 46 (wkI G r i)).toInt = (cGv w I1 G 46 (wkI G r i)).toInt ∧ (G1 47 (wkI G r i)).toInt = (cGv w I1 G 47 (wkI G r i)).toInt ∧ (G1 48 (wkI G r i)).toInt = (cGv w I1 G 48 (wkI G r i)).toInt ∧ (G1 49 (wkI G r i)).toInt = (cGv w I1 G 49 (wkI G r i)).toInt := by
  obtain ⟨-, hW, -, -, -⟩ := hx
  have hE : wkE (cGv w I1 G) G1 := fun k a b => (hg k a b).trans (cGv_e k a b).symm
  intro r i hr hi
  exact wkP_uq (F := F) (G := cGv w I1 G) (G1 := G1) (lWr_cg cGv_e hW) hE (d := d) (n := (n + 1).toNat) (by omega) (fun r i hr hi => u r i (by omega) hi) (fun r i hr hi => v r i (by omega) hi) r (by omega) i hi
/-- both cups are the same -/
theorem lCu (hx : lWx x0 rr b f e w L K I O F G) {Gw : Nat → Nat → Int32} (w2 : ∀ k : Nat, 16 ≤ k → k ≤ 37 → Gw k = G k) {d : Int} (u1 : ∀ u t : Nat, (u : Int) < (F 17).toInt → (t : Int) < (G 27 u).toInt → wkP F (cGv w I1 G) d u t) (w1 : ∀ u t : Nat, (u : Int) < (F 17).toInt → (t : Int) < (G 27 u).toInt → wkP F Gw d u t) (v : Int) : cuA Gw v (F 17).toInt.toNat = cuA (cGv w I1 G) v (F 17).toInt.toNat := by
  have uq := lWk (G1 := Gw) (I1 := I1) hx w2 (d := d) (n := (F 17).toInt - 1) (by omega) (fun u t h1 h2 => u1 u t (by omega) h2) (fun u t h1 h2 => w1 u t (by omega) h2)
  have hm := hx.2.2.2.2
  refine cuA_cg ((w2 27 (by omega) (by omega)).trans (cGv_e 27 (by omega) (by omega)).symm) ((w2 29 (by omega) (by omega)).trans (cGv_e 29 (by omega) (by omega)).symm) (fun j _ => ?_) (fun r j hr hj => ?_)
  · rw [cGv_e 27 (by omega) (by omega)]
    exact (hm.2.1 27 (0, 16) rfl j).1
  · rw [cGv_e 27 (by omega) (by omega)] at hj
    have q := uq r j (by omega) hj
    exact ⟨q.2.1, q.2.2.1⟩
theorem lStarters {p0 p1 r1 r2 : Int32} (hx : lWx x0 rr b f e w L K I O F G) (q6 : (I x0 6).toInt = (F 3).toInt) (g : mFr [2] [45, 46, 47, 48, 49, 51] F G F1 G1) :
    ((r1.toInt = -1 ∧ ¬ ((0 ≤ p0.toInt ∧ p0.toInt ≤ 7) ∧ (0 ≤ p1.toInt ∧ p1.toInt ≤ (I x0 6).toInt))) ∨ (((0 ≤ p0.toInt ∧ p0.toInt ≤ 7) ∧ (0 ≤ p1.toInt ∧ p1.toInt ≤ (I x0 6).toInt)) ∧ (∀ u t : Nat, (u : Int) < (F 17).toInt → (t : Int) < (G 27 u).toInt → wkP F (cGv w I1 G) p1.toInt u t) ∧ r1.toInt = (if srN (fun j => (G 16 j).toInt) (fun j => cuA (cGv w I1 G) (j : Int) (F 17).toInt.toNat) p0.toInt (Int32.toNatClampNeg (F 15)) (Int32.toNatClampNeg (F 15)) > 4 then 4 else srN (fun j => (G 16 j).toInt) (fun j => cuA (cGv w I1 G) (j : Int) (F 17).toInt.toNat) p0.toInt (Int32.toNatClampNeg (F 15)) (Int32.toNatClampNeg (F 15))))) →
    ((r2.toInt = -1 ∧ ¬ ((0 ≤ p0.toInt ∧ p0.toInt ≤ 7) ∧ (0 ≤ p1.toInt ∧ p1.toInt ≤ (F 3).toInt))) ∨ (((0 ≤ p0.toInt ∧ p0.toInt ≤ 7) ∧ (0 ≤ p1.toInt ∧ p1.toInt ≤ (F 3).toInt)) ∧ ∃ Gw : Nat → Nat → Int32, (∀ u t : Nat, (u : Int) < (F 17).toInt → (t : Int) < (G 27 u).toInt → wkP F Gw p1.toInt u t) ∧ (∀ k : Nat, 16 ≤ k → k ≤ 37 → Gw k = G k) ∧ r2.toInt = (if srN (fun j => (G 16 j).toInt) (fun j => cuA Gw (j : Int) (F 17).toInt.toNat) p0.toInt (Int32.toNatClampNeg (F 15)) (Int32.toNatClampNeg (F 15)) > 4 then 4 else srN (fun j => (G 16 j).toInt) (fun j => cuA Gw (j : Int) (F 17).toInt.toNat) p0.toInt (Int32.toNatClampNeg (F 15)) (Int32.toNatClampNeg (F 15))))) → r1.toInt = r2.toInt := by
  intro hp1 hp2
  rcases hp1 with ⟨u1, u2⟩ | ⟨⟨c1, c4⟩, u1, u2⟩
  · rcases hp2 with ⟨v1, -⟩ | ⟨⟨v1, v2⟩, -⟩
    · omega
    · exact absurd ⟨v1, by omega⟩ u2
  · rcases hp2 with ⟨v1, v2⟩ | ⟨-, Gw, w1, w2, w3⟩
    · exact absurd ⟨c1, by omega⟩ v2
    · have e9 := lCu hx w2 u1 w1
      rw [u2, w3]
      simp only [e9]
end LCQ
section LCX
variable {x0 rr : Nat} {L L1 : List Nat} {K K1 : Nat → Nat} {I I1 : Nat → Nat → Int32} {O O1 : Nat → Nat → Option Nat} {F F1 : Nat → Int32} {G G1 : Nat → Nat → Int32}
theorem lRaceX {p0 p1 r1 r2 : Int32} (h : lRc x0 L K I O F G) (t : lXt x0 L K I O F G) (hm : mI F G) (mx0 : x0 ∈ L) (kx0 : K x0 = 5) (hrr : O x0 9 = some rr) (q10 : (I x0 10).toInt = (F 17).toInt) (fb : lFb G) {fo : Option Nat} (hg4 : (0 ≤ p0.toInt ∧ p0.toInt < 8) → ¬ (G 5 (Int32.toNatClampNeg p0)).toInt = 0 → ∀ a : Nat, fo = some a → a ∈ L ∧ K a = 2 ∧ (I a 4).toInt = (G 9 (Int32.toNatClampNeg p0)).toInt) (fr : cFr [] [(5, 10)] [(12, 0)] L K I O L1 K1 I1 O1) (g : mFr [2, 17] [18, 19, 20, 21, 22, 23, 24, 25, 26] F G F1 G1) (hr12 : r1.toInt = r2.toInt) :
    ((r1.toInt = -1 ∧ (L1 = L ∧ K1 = K ∧ I1 = I ∧ O1 = O) ∧ (¬ (0 ≤ p0.toInt ∧ p0.toInt < 8) ∨ 8 ≤ (I x0 10).toInt ∨ fo = none ∨ (∃ a : Nat, fo = some a ∧ (((I a 6).toInt = 2 ∧ ¬ (0 ≤ p1.toInt ∧ p1.toInt < (I x0 10).toInt)) ∨ (¬ (I a 6).toInt = 2 ∧ ¬ p1.toInt = -1))))) ∨ (∃ a b es : Nat, fo = some a ∧ r1.toInt = (I x0 10).toInt ∧ (I1 x0 10).toInt = (I x0 10).toInt + 1 ∧ (0 ≤ p0.toInt ∧ p0.toInt < 8) ∧ (I x0 10).toInt < 8 ∧ (((I a 6).toInt = 2 ∧ (0 ≤ p1.toInt ∧ p1.toInt < (I x0 10).toInt) ∧ O1 b 1 = O rr (Int32.toNatClampNeg p1)) ∨ (¬ (I a 6).toInt = 2 ∧ p1.toInt = -1 ∧ O1 b 1 = none)) ∧ b ∉ L ∧ b ∈ L1 ∧ K1 b = 3 ∧ O1 b 0 = some a ∧ (I1 b 2).toInt = p1.toInt ∧ (I1 b 4).toInt = 0 ∧ (I1 b 5).toInt = 0 ∧ O1 b 3 = some es ∧ es ∉ L ∧ es ∈ L1 ∧ K1 es = 15 ∧ (∀ g : Nat, O1 rr g = if g = Int32.toNatClampNeg (I x0 10) then some b else O rr g))) →
    ((((r2.toInt = -1 ∧ G1 = G ∧ (F1 17).toInt = (F 17).toInt ∧ (¬ (0 ≤ p0.toInt ∧ p0.toInt < 8) ∨ (G 5 (Int32.toNatClampNeg p0)).toInt = 0 ∨ 8 ≤ (F 17).toInt ∨ ((G 11 (Int32.toNatClampNeg p0)).toInt = 11 ∧ ¬ (0 ≤ p1.toInt ∧ p1.toInt < (F 17).toInt)) ∨ (¬ (G 11 (Int32.toNatClampNeg p0)).toInt = 11 ∧ ¬ p1.toInt = -1))) ∨ (r2.toInt = (F 17).toInt ∧ (F1 17).toInt = (F 17).toInt + 1 ∧ (0 ≤ p0.toInt ∧ p0.toInt < 8) ∧ ¬ (G 5 (Int32.toNatClampNeg p0)).toInt = 0 ∧ (F 17).toInt < 8 ∧ (((G 11 (Int32.toNatClampNeg p0)).toInt = 11 ∧ (0 ≤ p1.toInt ∧ p1.toInt < (F 17).toInt)) ∨ (¬ (G 11 (Int32.toNatClampNeg p0)).toInt = 11 ∧ p1.toInt = -1)) ∧ G1 18 = upd (G 18) (Int32.toNatClampNeg (F 17)) p0 ∧ G1 19 = upd (G 19) (Int32.toNatClampNeg (F 17)) (G 5 (Int32.toNatClampNeg p0)) ∧ G1 20 = upd (G 20) (Int32.toNatClampNeg (F 17)) (G 6 (Int32.toNatClampNeg p0)) ∧ G1 21 = upd (G 21) (Int32.toNatClampNeg (F 17)) (G 8 (Int32.toNatClampNeg p0)) ∧ G1 22 = upd (G 22) (Int32.toNatClampNeg (F 17)) (vp_nar .boolean (G 9 (Int32.toNatClampNeg p0))) ∧ G1 23 = upd (G 23) (Int32.toNatClampNeg (F 17)) (G 10 (Int32.toNatClampNeg p0)) ∧ G1 24 = upd (G 24) (Int32.toNatClampNeg (F 17)) (G 11 (Int32.toNatClampNeg p0)) ∧ G1 25 = upd (G 25) (Int32.toNatClampNeg (F 17)) (G 12 (Int32.toNatClampNeg p0)) ∧ G1 26 = upd (G 26) (Int32.toNatClampNeg (F 17)) p1)) ∧ mR3 F1 G1)) → lXt x0 L1 K1 I1 O1 F1 G1 := by
  have b17 : 0 ≤ (F 17).toInt ∧ (F 17).toInt ≤ 8 := hm.1 17 (0, 8) rfl
  intro hp1 hp2
  obtain ⟨hp2, -⟩ := hp2
  rcases hp1 with ⟨u1, ⟨eL, eK, eI, eO⟩, -⟩ | ⟨y, bn, es, u5, u1, u2, u3, u4, u6, bl, bm, bk, b0, b2, b4, b5, b3, el, em, ek, og⟩
  · rcases hp2 with ⟨v1, v2, v3, -⟩ | ⟨v1, -⟩
    · subst eL
      subst eK
      subst eI
      subst eO
      exact lXt_stay t (Int32.toInt_inj.mp v3) (g.1 31 (by decide)) v2
    · exfalso; omega
  · rcases hp2 with ⟨v1, -⟩ | ⟨v1, v2, v3, v4, v5, v6, w18, w19, w20, w21, w22, w23, w24, w25, w26⟩
    · exfalso; omega
    · obtain ⟨m, k, h4⟩ := hg4 v3 v4 y u5
      exact lXt_race h t fb hm mx0 kx0 hrr fr g v5 v2 q10 v3 v4 m k b0 og h4 w22 w23 w24 w25
theorem lEnterX {p0 p1 r1 r2 : Int32} (h : lRc x0 L K I O F G) (t : lXt x0 L K I O F G) (hm : mI F G) (mx0 : x0 ∈ L) (kx0 : K x0 = 5) (hrr : O x0 9 = some rr) (q10 : (I x0 10).toInt = (F 17).toInt) (fr : cFr [] [(0, 0), (3, 4)] [(15, 0)] L K I O L1 K1 I1 O1) (g : mFr [2] [27, 29, 30] F G F1 G1) (hr12 : r1.toInt = r2.toInt) :
    ((r1.toInt = -1 ∧ (L1 = L ∧ K1 = K ∧ I1 = I ∧ O1 = O) ∧ (¬ (0 ≤ p0.toInt ∧ p0.toInt < (I x0 10).toInt) ∨ ∃ b : Nat, O rr (Int32.toNatClampNeg p0) = some b ∧ (0 ≤ p0.toInt ∧ p0.toInt < (I x0 10).toInt) ∧ b ∈ L ∧ K b = 3 ∧ (¬ (0 ≤ p1.toInt ∧ p1.toInt < (I x0 8).toInt) ∨ 0 < (I b 5).toInt ∨ ∃ es i w : Nat, O b 3 = some es ∧ (i : Int) < (I b 4).toInt ∧ O es i = some w ∧ (I w 0).toInt = p1.toInt))) ∨ (∃ b es : Nat, O rr (Int32.toNatClampNeg p0) = some b ∧ (0 ≤ p0.toInt ∧ p0.toInt < (I x0 10).toInt) ∧ b ∈ L ∧ K b = 3 ∧ O b 3 = some es ∧ es ∈ L ∧ K es = 15 ∧ (0 ≤ p1.toInt ∧ p1.toInt < (I x0 8).toInt) ∧ (I b 5).toInt ≤ 0 ∧ (∀ i : Nat, (i : Int) < (I b 4).toInt → ∀ w : Nat, O es i = some w → ¬ (I w 0).toInt = p1.toInt) ∧ r1.toInt = (I1 b 4).toInt ∧ (((16 ≤ (I b 4).toInt ∧ (L1 = L ∧ K1 = K ∧ I1 = I ∧ O1 = O)) ∨ ((I b 4).toInt < 16 ∧ ∃ qe : Nat, qe ∉ L ∧ qe ∈ L1 ∧ K1 qe = 0 ∧ (I1 qe 0).toInt = p1.toInt ∧ O1 qe 1 = none ∧ (I1 b 4).toInt = (I b 4).toInt + 1 ∧ (∀ g : Nat, O1 es g = if g = Int32.toNatClampNeg (I b 4) then some qe else O es g))) ∧ (∀ a : Nat, a ∈ L → K a = 0 → ∀ j : Nat, I1 a j = I a j) ∧ (∀ a : Nat, a ∈ L → K a = 3 → ¬ a = b → ∀ j : Nat, I1 a j = I a j) ∧ (∀ a : Nat, a ∈ L → K a = 15 → ¬ a = es → ∀ j : Nat, O1 a j = O a j)))) →
    (((r2.toInt = -1 ∧ G1 = G ∧ ¬ ((0 ≤ p0.toInt ∧ p0.toInt < (F 17).toInt) ∧ (0 ≤ p1.toInt ∧ p1.toInt < (F 15).toInt) ∧ (G 30 (16 * Int32.toNatClampNeg p0 + Int32.toNatClampNeg p1)).toInt < 0 ∧ (G 28 (Int32.toNatClampNeg p0)).toInt ≤ 0)) ∨ (((0 ≤ p0.toInt ∧ p0.toInt < (F 17).toInt) ∧ (0 ≤ p1.toInt ∧ p1.toInt < (F 15).toInt) ∧ (G 30 (16 * Int32.toNatClampNeg p0 + Int32.toNatClampNeg p1)).toInt < 0 ∧ (G 28 (Int32.toNatClampNeg p0)).toInt ≤ 0) ∧ r2.toInt = (G 27 (Int32.toNatClampNeg p0)).toInt + 1 ∧ (G 27 (Int32.toNatClampNeg p0)).toInt ≤ 15 ∧ ∃ z27 : Int32, z27.toInt = (G 27 (Int32.toNatClampNeg p0)).toInt + 1 ∧ G1 27 = upd (G 27) (Int32.toNatClampNeg p0) z27 ∧ G1 29 = upd (G 29) (16 * Int32.toNatClampNeg p0 + Int32.toNatClampNeg (G 27 (Int32.toNatClampNeg p0))) p1 ∧ G1 30 = upd (G 30) (16 * Int32.toNatClampNeg p0 + Int32.toNatClampNeg p1) (G 27 (Int32.toNatClampNeg p0))))) → lXt x0 L1 K1 I1 O1 F1 G1 := by
  have b27 : ∀ j : Nat, 0 ≤ (G 27 j).toInt ∧ (G 27 j).toInt ≤ 16 := hm.2.1 27 (0, 16) rfl
  have b27p := b27 (Int32.toNatClampNeg p0)
  intro hp1 hp2
  rcases hp1 with ⟨u1, ⟨eL, eK, eI, eO⟩, -⟩ | ⟨b0, es, ob, inn, mb, kb, oe, me, ke, ir, t5, noe, rq, adp, f0, f3, f15⟩
  · rcases hp2 with ⟨v1, v2, v3⟩ | ⟨v1, v2, -⟩
    · subst eL
      subst eK
      subst eI
      subst eO
      exact lXt_stay t (g.1 17 (by decide)) (g.1 31 (by decide)) v2
    · exfalso; omega
  · have hr0 : ((Int32.toNatClampNeg p0 : Nat) : Int) < (F 17).toInt := by rw [mm_nat]; omega
    have m4 : (I b0 4).toInt = (G 27 (Int32.toNatClampNeg p0)).toInt := by
      obtain ⟨rr', b, f, e, w, hx⟩ := id h
      obtain ⟨⟨a1, a2, a3⟩, a4, hA, -⟩ := id hx
      have er : rr' = rr := Option.some.inj (a1.symm.trans hrr)
      subst er
      have A := hA _ hr0
      have eb : b (Int32.toNatClampNeg p0) = b0 := Option.some.inj (A.1.1.symm.trans ob)
      have q := A.2.2.2.2.1.2.1
      rw [eb] at q
      exact q
    rcases hp2 with ⟨v1, v2, v3⟩ | ⟨v1, v2, v3, z27, v4, u27, u29, u30⟩
    · exfalso
      rcases adp with ⟨full, eL, eK, eI, eO⟩ | ⟨lt, qe, ql, qm, qk, q0, q1, c4, og⟩
      · rw [eI] at rq
        omega
      · omega
    · rcases adp with ⟨full, -⟩ | ⟨lt, qe, ql, qm, qk, q0, q1, c4, og⟩
      · exfalso; omega
      · exact lXt_enter h t hm mx0 kx0 hrr fr g ob oe hr0 v1.2.2.2 v3 q1 og f15 v4 u27 u29
theorem lTellX {p0 p1 p2 p3 p4 r1 r2 : Int32} (h : lRc x0 L K I O F G) (t : lXt x0 L K I O F G) (hm : mI F G) (mx0 : x0 ∈ L) (kx0 : K x0 = 5) (hrr : O x0 9 = some rr) (q10 : (I x0 10).toInt = (F 17).toInt) (q6 : (I x0 6).toInt = (F 3).toInt) (fr : cFr [] [(1, 0), (1, 1), (1, 2), (1, 3), (3, 5), (5, 11)] [(0, 1), (1, 4)] L K I O L1 K1 I1 O1) (g : mFr [2, 31] [28, 32, 33, 34, 35, 36, 37] F G F1 G1) (hr12 : r1.toInt = r2.toInt) :
    ((r1.toInt = -1 ∧ (L1 = L ∧ K1 = K ∧ I1 = I ∧ O1 = O) ∧ (¬ (0 ≤ p0.toInt ∧ p0.toInt < (I x0 10).toInt) ∨ 400 ≤ (I x0 11).toInt ∨ ∃ b : Nat, O rr (Int32.toNatClampNeg p0) = some b ∧ (0 ≤ p0.toInt ∧ p0.toInt < (I x0 10).toInt) ∧ b ∈ L ∧ K b = 3 ∧ ((∃ es : Nat, O b 3 = some es ∧ (∀ i : Nat, (i : Int) < (I b 4).toInt → ∀ w : Nat, O es i = some w → ¬ (I w 0).toInt = p1.toInt)) ∨ (∃ fo : Nat, O b 0 = some fo ∧ ¬ ((p2.toInt = 0 ∧ 1 ≤ p3.toInt ∧ p3.toInt ≤ (I fo 1).toInt) ∨ ((p2.toInt = 1 ∨ p2.toInt = 2) ∧ 0 ≤ p3.toInt ∧ p3.toInt < (I fo 2).toInt) ∨ (p2.toInt = 3 ∧ p3.toInt = 0))) ∨ ¬ ((p2.toInt = 0 ∧ -1 ≤ p4.toInt ∧ p4.toInt ≤ 200000) ∨ (p2.toInt = 1 ∧ -1 ≤ p4.toInt ∧ p4.toInt ≤ 31) ∨ (p2.toInt = 2 ∧ -1 ≤ p4.toInt ∧ p4.toInt ≤ 9) ∨ (p2.toInt = 3 ∧ -1 ≤ p4.toInt ∧ p4.toInt ≤ 1))))) ∨ (∃ b es fo w i ev : Nat, O rr (Int32.toNatClampNeg p0) = some b ∧ (0 ≤ p0.toInt ∧ p0.toInt < (I x0 10).toInt) ∧ b ∈ L ∧ K b = 3 ∧ O b 3 = some es ∧ O b 0 = some fo ∧ ((i : Int) < (I b 4).toInt ∧ O es i = some w ∧ (I w 0).toInt = p1.toInt) ∧ w ∈ L ∧ K w = 0 ∧ ((p2.toInt = 0 ∧ 1 ≤ p3.toInt ∧ p3.toInt ≤ (I fo 1).toInt) ∨ ((p2.toInt = 1 ∨ p2.toInt = 2) ∧ 0 ≤ p3.toInt ∧ p3.toInt < (I fo 2).toInt) ∨ (p2.toInt = 3 ∧ p3.toInt = 0)) ∧ ((p2.toInt = 0 ∧ -1 ≤ p4.toInt ∧ p4.toInt ≤ 200000) ∨ (p2.toInt = 1 ∧ -1 ≤ p4.toInt ∧ p4.toInt ≤ 31) ∨ (p2.toInt = 2 ∧ -1 ≤ p4.toInt ∧ p4.toInt ≤ 9) ∨ (p2.toInt = 3 ∧ -1 ≤ p4.toInt ∧ p4.toInt ≤ 1)) ∧ (I x0 11).toInt < 400 ∧ ev ∉ L ∧ ev ∈ L1 ∧ K1 ev = 1 ∧ (I1 ev 0).toInt = (I x0 6).toInt ∧ (I1 ev 1).toInt = p2.toInt ∧ (I1 ev 2).toInt = p3.toInt ∧ (I1 ev 3).toInt = p4.toInt ∧ O1 ev 4 = O w 1 ∧ O1 w 1 = some ev ∧ (I1 b 5).toInt = ((I b 5) + 1).toInt ∧ (I1 x0 11).toInt = (I x0 11).toInt + 1 ∧ r1.toInt = (I x0 11).toInt + 1 ∧ (∀ a : Nat, a ∈ L → K a = 3 → ¬ a = b → ∀ j : Nat, I1 a j = I a j) ∧ (∀ a : Nat, a ∈ L → K a = 0 → ¬ a = w → ∀ j : Nat, O1 a j = O a j) ∧ (∀ a : Nat, a ∈ L → K a = 1 → ∀ j : Nat, I1 a j = I a j) ∧ (∀ a : Nat, a ∈ L → K a = 1 → ∀ j : Nat, O1 a j = O a j))) →
    ((r2.toInt = -1 ∧ G1 = G ∧ (F1 31).toInt = (F 31).toInt ∧ ¬ (((0 ≤ p0.toInt ∧ p0.toInt < (F 17).toInt) ∧ (0 ≤ p1.toInt ∧ p1.toInt < (F 15).toInt) ∧ 0 ≤ (G 30 (16 * Int32.toNatClampNeg p0 + Int32.toNatClampNeg p1)).toInt) ∧ ((p2.toInt = 0 ∧ 1 ≤ p3.toInt ∧ p3.toInt ≤ (G 19 (Int32.toNatClampNeg p0)).toInt ∧ -1 ≤ p4.toInt ∧ p4.toInt ≤ 200000) ∨ (p2.toInt = 1 ∧ 0 ≤ p3.toInt ∧ p3.toInt < (G 20 (Int32.toNatClampNeg p0)).toInt ∧ -1 ≤ p4.toInt ∧ p4.toInt ≤ 31) ∨ (p2.toInt = 2 ∧ 0 ≤ p3.toInt ∧ p3.toInt < (G 20 (Int32.toNatClampNeg p0)).toInt ∧ -1 ≤ p4.toInt ∧ p4.toInt ≤ 9) ∨ (p2.toInt = 3 ∧ p3.toInt = 0 ∧ -1 ≤ p4.toInt ∧ p4.toInt ≤ 1)) ∧ (F 31).toInt < 400)) ∨ ((((0 ≤ p0.toInt ∧ p0.toInt < (F 17).toInt) ∧ (0 ≤ p1.toInt ∧ p1.toInt < (F 15).toInt) ∧ 0 ≤ (G 30 (16 * Int32.toNatClampNeg p0 + Int32.toNatClampNeg p1)).toInt) ∧ ((p2.toInt = 0 ∧ 1 ≤ p3.toInt ∧ p3.toInt ≤ (G 19 (Int32.toNatClampNeg p0)).toInt ∧ -1 ≤ p4.toInt ∧ p4.toInt ≤ 200000) ∨ (p2.toInt = 1 ∧ 0 ≤ p3.toInt ∧ p3.toInt < (G 20 (Int32.toNatClampNeg p0)).toInt ∧ -1 ≤ p4.toInt ∧ p4.toInt ≤ 31) ∨ (p2.toInt = 2 ∧ 0 ≤ p3.toInt ∧ p3.toInt < (G 20 (Int32.toNatClampNeg p0)).toInt ∧ -1 ≤ p4.toInt ∧ p4.toInt ≤ 9) ∨ (p2.toInt = 3 ∧ p3.toInt = 0 ∧ -1 ≤ p4.toInt ∧ p4.toInt ≤ 1)) ∧ (F 31).toInt < 400) ∧ r2.toInt = (F 31).toInt + 1 ∧ (F1 31).toInt = (F 31).toInt + 1 ∧ G1 28 = upd (G 28) (Int32.toNatClampNeg p0) (G 28 (Int32.toNatClampNeg p0) + 1) ∧ G1 32 = upd (G 32) (Int32.toNatClampNeg (F 31)) p0 ∧ G1 33 = upd (G 33) (Int32.toNatClampNeg (F 31)) p1 ∧ G1 34 = upd (G 34) (Int32.toNatClampNeg (F 31)) p2 ∧ G1 35 = upd (G 35) (Int32.toNatClampNeg (F 31)) p3 ∧ G1 36 = upd (G 36) (Int32.toNatClampNeg (F 31)) p4 ∧ G1 37 = upd (G 37) (Int32.toNatClampNeg (F 31)) (F 3))) → lXt x0 L1 K1 I1 O1 F1 G1 := by
  have b31 : 0 ≤ (F 31).toInt ∧ (F 31).toInt ≤ 400 := hm.1 31 (0, 400) rfl
  have q11 : (I x0 11).toInt = (F 31).toInt := by
    obtain ⟨_, _, _, _, _, _, q11, _⟩ := id h
    exact q11
  intro hp1 hp2
  rcases hp1 with ⟨u1, ⟨eL, eK, eI, eO⟩, -⟩ | ⟨b0, es, fo, w0, i, ev, ob, inn, mb, kb, oe, of_, ⟨hi, ow, ew⟩, mw, kw, he, hv, h4, el, em, ek, x0_, x1_, x2_, x3_, x4_, x5_, c5, c11, rq, f3, fw, f1, f1o⟩
  · rcases hp2 with ⟨v1, v2, v3, -⟩ | ⟨-, v2, -⟩
    · subst eL
      subst eK
      subst eI
      subst eO
      exact lXt_stay t (g.1 17 (by decide)) (Int32.toInt_inj.mp v3) v2
    · exfalso; omega
  · rcases hp2 with ⟨v1, -⟩ | ⟨⟨⟨v1, -⟩, -, v5⟩, v2, v3, u28, u32, u33, u34, u35, u36, u37⟩
    · exfalso
      clear he hv
      omega
    · exact lXt_tell h t hm mx0 kx0 hrr q6 fr g v1 ob oe hi ow ew em ek x0_ x1_ x2_ x3_ x4_ x5_ fw f1 f1o hv v5 v3 u28 u32 u33 u34 u35 u36 u37
end LCX
