/-- what working out needs of the reference's state -/
def lWr (F : Nat → Int32) (G : Nat → Nat → Int32) : Prop :=
  (∀ r i : Nat, (r : Int) < (F 17).toInt → (i : Int) < (G 27 r).toInt → 0 ≤ (G 29 (16 * r + i)).toInt ∧ (G 29 (16 * r + i)).toInt < (F 15).toInt ∧ (G 30 (16 * r + (G 29 (16 * r + i)).toInt.toNat)).toInt = (i : Int)) ∧
  (∀ r : Nat, (r : Int) < (F 17).toInt → ((G 24 r).toInt = 9 ∨ (G 24 r).toInt = 10 ∨ ((G 24 r).toInt = 11 ∧ 0 ≤ (G 26 r).toInt ∧ (G 26 r).toInt < (r : Int))) ∧ (0 ≤ (G 23 r).toInt ∧ (G 23 r).toInt ≤ 600) ∧ (0 ≤ (G 25 r).toInt ∧ (G 25 r).toInt ≤ 3600)) ∧ lTv F G ∧ (F 15).toInt ≤ 16 ∧ (F 17).toInt ≤ 8 ∧ (∀ r v : Nat, r < 8 → v < 16 → lEo F G r v)
/-- the place of an entry's racer -/
abbrev wkI (G : Nat → Nat → Int32) (r i : Nat) : Nat := 16 * r + (G 29 (16 * r + i)).toInt.toNat
/-- an entry is worked out for a day -/
def wkP (F : Nat → Int32) (G : Nat → Nat → Int32) (d : Int) (r i : Nat) : Prop := wkO F G (r : Int) (G 29 (16 * r + i)).toInt d (G 45 (wkI G r i)).toInt (G 46 (wkI G r i)).toInt (G 47 (wkI G r i)).toInt (G 48 (wkI G r i)).toInt (G 49 (wkI G r i)).toInt
/-- alike but for what is worked out -/
def wkE (G G1 : Nat → Nat → Int32) : Prop := ∀ k : Nat, 16 ≤ k → k ≤ 37 → G1 k = G k
section WKP
variable {F : Nat → Int32} {G G1 : Nat → Nat → Int32}
theorem wkE.sy (h : wkE G G1) : wkE G1 G := fun k a b => (h k a b).symm
theorem lMn_cg {p n : Nat} {x : Int} (h30 : G1 30 = G 30) (h : ∀ u : Nat, u < n → 0 ≤ (G 30 (16 * p + u)).toInt → G1 46 (16 * p + u) = G 46 (16 * p + u)) (a : lMn G p n x) : lMn G1 p n x := by
  unfold lMn at *
  rw [h30]
  rcases a with ⟨a, b⟩ | ⟨a, ⟨w, w1, w2, w3⟩, b⟩
  · exact Or.inl ⟨a, fun w hw h0 => by rw [h w hw h0]; exact b w hw h0⟩
  · exact Or.inr ⟨a, ⟨w, w1, w2, by rw [h w w1 w2]; exact w3⟩, fun u hu h0 h1 => by rw [h u hu h0] at h1 ⊢; exact b u hu h0 h1⟩
theorem lMn_uq {p n : Nat} {x y : Int} (a : lMn G p n x) (b : lMn G p n y) : x = y := by
  rcases a with ⟨a1, a2⟩ | ⟨a1, ⟨w, w1, w2, w3⟩, a3⟩
  · rcases b with ⟨b1, b2⟩ | ⟨b1, ⟨u, u1, u2, u3⟩, b3⟩
    · omega
    · have := a2 u u1 u2
      omega
  · rcases b with ⟨b1, b2⟩ | ⟨b1, ⟨u, u1, u2, u3⟩, b3⟩
    · have := b2 w w1 w2
      omega
    · have := a3 u u1 u2 (by omega)
      have := b3 w w1 w2 (by omega)
      omega
theorem wkS_cg {ra r v : Nat} {s : Int} (h : wkE G G1) (hl : ((G 24 r).toInt = 9 ∨ (G 24 r).toInt = 10) ∨ ∀ u : Nat, u < 16 → 0 ≤ (G 30 (16 * (G 26 r).toInt.toNat + u)).toInt → G1 46 (16 * (G 26 r).toInt.toNat + u) = G 46 (16 * (G 26 r).toInt.toNat + u)) (hv : v < 16) (ha : ra ≤ 16) (a : wkS G ra r v s) : wkS G1 ra r v s := by
  unfold wkS at *
  rw [h 24 (by omega) (by omega), h 25 (by omega) (by omega), h 26 (by omega) (by omega), h 30 (by omega) (by omega)]
  rcases a with a | a | ⟨n9, n10, a⟩
  · exact Or.inl a
  · exact Or.inr (Or.inl a)
  · rcases hl with hl | hl
    · clear a
      omega
    · refine Or.inr (Or.inr ⟨n9, n10, ?_⟩)
      rcases a with ⟨a, b⟩ | ⟨a, b, mi, c, e⟩
      · refine Or.inl ⟨?_, b⟩
        rcases Int.lt_or_le (G 30 (16 * (G 26 r).toInt.toNat + v)).toInt 0 with q | q
        · exact Or.inl q
        · rw [hl v hv q]
          exact a
      · refine Or.inr ⟨a, by rw [hl v hv a]; exact b, mi, lMn_cg (h 30 (by omega) (by omega)) (fun u hu h0 => hl u (by omega) h0) c, ?_⟩
        rw [hl v hv a]
        exact e
theorem wkS_uq {ra r v : Nat} {s t : Int} (a : wkS G ra r v s) (b : wkS G ra r v t) : s = t := by
  rcases a with ⟨a1, a2⟩ | ⟨a1, a2⟩ | ⟨a1, a2, a3⟩
  · rcases b with ⟨b1, b2⟩ | ⟨b1, b2⟩ | ⟨b1, b2, b3⟩
    · omega
    · omega
    · clear b3
      omega
  · rcases b with ⟨b1, b2⟩ | ⟨b1, b2⟩ | ⟨b1, b2, b3⟩
    · omega
    · rw [a2, b2]
    · clear b3
      omega
  · rcases b with ⟨b1, b2⟩ | ⟨b1, b2⟩ | ⟨b1, b2, b3⟩
    · clear a3
      omega
    · clear a3
      omega
    · rcases a3 with ⟨a3, a4⟩ | ⟨a3, a4, m1, a5, a6⟩
      · rcases b3 with ⟨b3, b4⟩ | ⟨b3, b4, m2, b5, b6⟩
        · omega
        · omega
      · rcases b3 with ⟨b3, b4⟩ | ⟨b3, b4, m2, b5, b6⟩
        · omega
        · rw [lMn_uq a5 b5] at a6
          rw [a6, b6]
theorem wkO_cg {r v d s l hh ml mh : Int} (h : wkE G G1) (hs : wkS G (Int32.toNatClampNeg (F 15)) r.toNat v.toNat s → wkS G1 (Int32.toNatClampNeg (F 15)) r.toNat v.toNat s) (a : wkO F G r v d s l hh ml mh) : wkO F G1 r v d s l hh ml mh := by
  have hk : ∀ (y k : Int) (n : Nat), kN G1 r v y k d n = kN G r v y k d n := fun y k n => kN_cg ⟨h 32 (by omega) (by omega), h 33 (by omega) (by omega), h 34 (by omega) (by omega), h 35 (by omega) (by omega), h 36 (by omega) (by omega), h 37 (by omega) (by omega)⟩
  have e19 := h 19 (by omega) (by omega)
  have e20 := h 20 (by omega) (by omega)
  have e22 := h 22 (by omega) (by omega)
  have e23 := h 23 (by omega) (by omega)
  have m1 : wkMl F G1 r v d = wkMl F G r v d := funext fun j => by unfold wkMl; rw [hk]
  have m2 : wkMh F G1 r v d = wkMh F G r v d := funext fun j => by unfold wkMh; rw [hk]
  have m3 : wkA F G1 r v d = wkA F G r v d := funext fun j => by unfold wkA; rw [hk, hk, e22, e23]
  have m4 : wkB F G1 r v d = wkB F G r v d := funext fun j => by unfold wkB; rw [hk, hk, e22, e23]
  unfold wkO at *
  rw [m1, m2, m3, m4, e19, e20, hk, hk]
  exact ⟨hs a.1, a.2⟩
theorem lWr_by (W : lWr F G) {r : Nat} (hr : (r : Int) < (F 17).toInt) : ((G 24 r).toInt = 9 ∨ (G 24 r).toInt = 10) ∨ (0 ≤ (G 26 r).toInt ∧ (G 26 r).toInt < (r : Int)) := by
  have := (W.2.1 r hr).1
  omega
theorem wkI_ne (W : lWr F G) {r i t j : Nat} (hr : (r : Int) < (F 17).toInt) (hi : (i : Int) < (G 27 r).toInt) (ht : (t : Int) < (F 17).toInt) (hj : (j : Int) < (G 27 t).toInt) (ne : ¬ (r = t ∧ i = j)) : ¬ wkI G r i = wkI G t j := fun z => by
  have a := W.1 r i hr hi
  have b := W.1 t j ht hj
  have c := W.2.2.2.1
  have e : r = t := by unfold wkI at z; omega
  subst e
  unfold wkI at z
  rw [z] at a
  omega
theorem wkP_keep (W : lWr F G) (h : wkE G G1) {x : Nat} {d : Int} (hx : ∀ j : Nat, ¬ j = x → G1 45 j = G 45 j ∧ G1 46 j = G 46 j ∧ G1 47 j = G 47 j ∧ G1 48 j = G 48 j ∧ G1 49 j = G 49 j) {r i t j : Nat} (hr : (r : Int) < (F 17).toInt) (hi : (i : Int) < (G 27 r).toInt) (ht : (t : Int) < (F 17).toInt) (hj : (j : Int) < (G 27 t).toInt) (ex : x = wkI G t j) (le : r ≤ t) (ne : ¬ (r = t ∧ i = j)) (p : wkP F G d r i) : wkP F G1 d r i := by
  have nx := wkI_ne W hr hi ht hj ne
  rw [← ex] at nx
  have e29 := h 29 (by omega) (by omega)
  have a := W.1 r i hr hi
  have b := W.1 t j ht hj
  have c := W.2.2.2.1
  unfold wkP at *
  rw [e29]
  obtain ⟨v5, v6, v7, v8, v9⟩ := hx (wkI G r i) nx
  rw [show wkI G1 r i = wkI G r i from by unfold wkI; rw [e29], v5, v6, v7, v8, v9]
  refine wkO_cg h (fun q => wkS_cg h ?_ (by omega) (by rw [mm_nat]; omega) q) p
  rcases lWr_by W hr with q | q
  · rw [show ((r : Int)).toNat = r from by omega]
    exact Or.inl q
  · rw [show ((r : Int)).toNat = r from by omega]
    refine Or.inr (fun u hu _ => (hx _ ?_).2.1)
    rw [ex]
    unfold wkI
    omega
theorem wkP_new (W : lWr F G) (h : wkE G G1) {x : Nat} {d : Int} (hx : ∀ j : Nat, ¬ j = x → G1 45 j = G 45 j ∧ G1 46 j = G 46 j ∧ G1 47 j = G 47 j ∧ G1 48 j = G 48 j ∧ G1 49 j = G 49 j) {r i : Nat} (hr : (r : Int) < (F 17).toInt) (hi : (i : Int) < (G 27 r).toInt) (ex : x = wkI G r i) (o : wkO F G (r : Int) (G 29 (16 * r + i)).toInt d (G1 45 x).toInt (G1 46 x).toInt (G1 47 x).toInt (G1 48 x).toInt (G1 49 x).toInt) : wkP F G1 d r i := by
  have e29 := h 29 (by omega) (by omega)
  have a := W.1 r i hr hi
  have c := W.2.2.2.1
  subst ex
  unfold wkP
  rw [e29]
  rw [show wkI G1 r i = wkI G r i from by unfold wkI; rw [e29]]
  refine wkO_cg h (fun q => wkS_cg h ?_ (by omega) (by rw [mm_nat]; omega) q) o
  rcases lWr_by W hr with q | q
  · rw [show ((r : Int)).toNat = r from by omega]
    exact Or.inl q
  · rw [show ((r : Int)).toNat = r from by omega]
    refine Or.inr (fun u hu _ => (hx _ ?_).2.1)
    unfold wkI
    omega
/-- what is worked out is determined -/
theorem wkP_uq (W : lWr F G) (h : wkE G G1) {d : Int} {n : Nat} (hn : (n : Int) ≤ (F 17).toInt) (p : ∀ r i : Nat, r < n → (i : Int) < (G 27 r).toInt → wkP F G d r i) (q : ∀ r i : Nat, r < n → (i : Int) < (G 27 r).toInt → wkP F G1 d r i) : ∀ r : Nat, r < n → ∀ i : Nat, (i : Int) < (G 27 r).toInt → (G1 45 (wkI G r i)).toInt = (G 45 (wkI G r i)).toInt ∧ (G1 46 (wkI G r i)).toInt = (G 46 (wkI G r i)).toInt ∧ (G1 47 (wkI G r i)).toInt = (G 47 (wkI G r i)).toInt ∧ (G1 48 (wkI G r i)).toInt = (G 48 (wkI G r i)).toInt ∧ (G1 49 (wkI G r i)).toInt = (G 49 (wkI G r i)).toInt := by
  intro r
  induction r using Nat.strongRecOn with
  | ind r ih =>
    intro hr i hi
    have e29 := h 29 (by omega) (by omega)
    have hr2 : (r : Int) < (F 17).toInt := by omega
    have a := W.1 r i hr2 hi
    have c := W.2.2.2.1
    have P := p r i hr hi
    have Q := q r i hr hi
    unfold wkP at P Q
    rw [e29, show wkI G1 r i = wkI G r i from by unfold wkI; rw [e29]] at Q
    have hb : ((G1 24 ((r : Int)).toNat).toInt = 9 ∨ (G1 24 ((r : Int)).toNat).toInt = 10) ∨ ∀ u : Nat, u < 16 → 0 ≤ (G1 30 (16 * (G1 26 ((r : Int)).toNat).toInt.toNat + u)).toInt → G 46 (16 * (G1 26 ((r : Int)).toNat).toInt.toNat + u) = G1 46 (16 * (G1 26 ((r : Int)).toNat).toInt.toNat + u) := by
      rw [h 24 (by omega) (by omega), h 26 (by omega) (by omega), h 30 (by omega) (by omega), show ((r : Int)).toNat = r from by omega]
      rcases lWr_by W hr2 with z | z
      · exact Or.inl z
      · refine Or.inr (fun u hu h0 => ?_)
        have h8 := W.2.2.2.2.1
        obtain ⟨c1, c2, c3⟩ := W.2.2.2.2.2 (G 26 r).toInt.toNat u (by omega) hu h0
        have e := (ih (G 26 r).toInt.toNat (by omega) (by omega) (G 30 (16 * (G 26 r).toInt.toNat + u)).toInt.toNat (by omega)).2.1
        unfold wkI at e
        rw [c3, show ((u : Int)).toNat = u from by omega] at e
        exact (Int32.toInt_inj.mp e).symm
    have Q2 := wkO_cg h.sy (fun z => wkS_cg h.sy hb (by omega) (by rw [mm_nat]; omega) z) Q
    have es := wkS_uq Q2.1 P.1
    obtain ⟨-, q2, q3, q4, q5⟩ := Q2
    obtain ⟨-, p2, p3, p4, p5⟩ := P
    rw [es] at q4 q5
    exact ⟨es, q4.trans p4.symm, q5.trans p5.symm, q2.trans p2.symm, q3.trans p3.symm⟩
end WKP
/-- what the class's object of an entry has in a field, by the place of its racer -/
def cGf (w : Nat → Nat → Nat) (I : Nat → Nat → Int32) (G : Nat → Nat → Int32) (c : Nat) : Nat → Int32 := fun j => if j < 128 ∧ 0 ≤ (G 30 j).toInt then I (w (j / 16) (G 30 j).toInt.toNat) c else 0
/-- the reference's state as the class's objects have what is worked out -/
def cGv (w : Nat → Nat → Nat) (I : Nat → Nat → Int32) (G : Nat → Nat → Int32) : Nat → Nat → Int32 := fun k => if k = 45 then cGf w I G 2 else if k = 46 then cGf w I G 3 else if k = 47 then cGf w I G 4 else if k = 48 then cGf w I G 6 else if k = 49 then cGf w I G 7 else G k
section CGV
variable {F : Nat → Int32} {G : Nat → Nat → Int32} {w : Nat → Nat → Nat} {I I1 : Nat → Nat → Int32}
theorem cGv_e : wkE G (cGv w I G) := fun k a b => by
  unfold cGv
  rw [if_neg (by omega), if_neg (by omega), if_neg (by omega), if_neg (by omega), if_neg (by omega)]
theorem cGf_at (W : lWr F G) {r i : Nat} (hr : (r : Int) < (F 17).toInt) (hi : (i : Int) < (G 27 r).toInt) (c : Nat) : cGf w I G c (wkI G r i) = I (w r i) c := by
  have a := W.1 r i hr hi
  have d := W.2.2.2.1
  have d8 := W.2.2.2.2.1
  unfold cGf wkI
  rw [if_pos ⟨by omega, by omega⟩, show (16 * r + (G 29 (16 * r + i)).toInt.toNat) / 16 = r from by omega, show (G 30 (16 * r + (G 29 (16 * r + i)).toInt.toNat)).toInt.toNat = i from by omega]
theorem cGv_at (W : lWr F G) {r i : Nat} (hr : (r : Int) < (F 17).toInt) (hi : (i : Int) < (G 27 r).toInt) : cGv w I G 45 (wkI G r i) = I (w r i) 2 ∧ cGv w I G 46 (wkI G r i) = I (w r i) 3 ∧ cGv w I G 47 (wkI G r i) = I (w r i) 4 ∧ cGv w I G 48 (wkI G r i) = I (w r i) 6 ∧ cGv w I G 49 (wkI G r i) = I (w r i) 7 :=
  ⟨cGf_at W hr hi 2, cGf_at W hr hi 3, cGf_at W hr hi 4, cGf_at W hr hi 6, cGf_at W hr hi 7⟩
/-- a place that counts is an entry's -/
theorem cG_en (W : lWr F G) {j : Nat} (h : j < 128 ∧ 0 ≤ (G 30 j).toInt) : ((j / 16 : Nat) : Int) < (F 17).toInt ∧ ((G 30 j).toInt.toNat : Int) < (G 27 (j / 16)).toInt ∧ j = wkI G (j / 16) (G 30 j).toInt.toNat := by
  have e : j = 16 * (j / 16) + j % 16 := by omega
  have q := W.2.2.2.2.2 (j / 16) (j % 16) (by omega) (by omega)
  unfold lEo at q
  rw [← e] at q
  obtain ⟨c1, c2, c3⟩ := q h.2
  refine ⟨c1, by omega, ?_⟩
  unfold wkI
  omega
/-- objects of other entries are left: all other places are -/
theorem cGv_step (W : lWr F G) {r i : Nat} (inj : ∀ t j : Nat, (t : Int) < (F 17).toInt → (j : Int) < (G 27 t).toInt → ¬ (t = r ∧ j = i) → ∀ c : Nat, I1 (w t j) c = I (w t j) c) : ∀ j : Nat, ¬ j = wkI G r i → cGv w I1 G 45 j = cGv w I G 45 j ∧ cGv w I1 G 46 j = cGv w I G 46 j ∧ cGv w I1 G 47 j = cGv w I G 47 j ∧ cGv w I1 G 48 j = cGv w I G 48 j ∧ cGv w I1 G 49 j = cGv w I G 49 j := fun j hj => by
  have q : ∀ c : Nat, cGf w I1 G c j = cGf w I G c j := fun c => by
    unfold cGf
    by_cases h : j < 128 ∧ 0 ≤ (G 30 j).toInt
    · rw [if_pos h, if_pos h]
      obtain ⟨c1, c2, c3⟩ := cG_en W h
      refine inj _ _ c1 c2 (fun z => hj ?_) c
      rw [z.1, z.2] at c3
      exact c3
    · rw [if_neg h, if_neg h]
  exact ⟨q 2, q 3, q 4, q 6, q 7⟩
end CGV
section WKA
variable {F : Nat → Int32} {G Gc Gn : Nat → Nat → Int32}
theorem lTv_cg (h : wkE G Gc) (a : lTv F G) : lTv F Gc := by
  unfold lTv at *
  rw [h 34 (by omega) (by omega), h 36 (by omega) (by omega)]
  exact a
theorem lWr_cg (h : wkE G Gc) (a : lWr F G) : lWr F Gc := by
  obtain ⟨a1, a2, a3, a4, a5, a6⟩ := a
  unfold lWr lEo at *
  rw [h 23 (by omega) (by omega), h 24 (by omega) (by omega), h 25 (by omega) (by omega), h 26 (by omega) (by omega), h 27 (by omega) (by omega), h 29 (by omega) (by omega), h 30 (by omega) (by omega)]
  exact ⟨a1, a2, lTv_cg h a3, a4, a5, a6⟩
theorem wkAll_step {d : Int} {r i x : Nat} (hW : lWr F G) (hc : wkE G Gc) (hn : wkE Gc Gn) (hx : ∀ j : Nat, ¬ j = x → Gn 45 j = Gc 45 j ∧ Gn 46 j = Gc 46 j ∧ Gn 47 j = Gc 47 j ∧ Gn 48 j = Gc 48 j ∧ Gn 49 j = Gc 49 j) (hr : (r : Int) < (F 17).toInt) (hi : (i : Int) < (G 27 r).toInt) (ex : x = wkI Gc r i) (o : wkO F Gc (r : Int) (Gc 29 (16 * r + i)).toInt d (Gn 45 x).toInt (Gn 46 x).toInt (Gn 47 x).toInt (Gn 48 x).toInt (Gn 49 x).toInt)
    (A1 : ∀ u t : Nat, u < r → (t : Int) < (G 27 u).toInt → wkP F Gc d u t) (A2 : ∀ t : Nat, t < i → wkP F Gc d r t) : (∀ u t : Nat, u < r → (t : Int) < (G 27 u).toInt → wkP F Gn d u t) ∧ ∀ t : Nat, t < i + 1 → wkP F Gn d r t := by
  have W := lWr_cg hc hW
  have e27 := hc 27 (by omega) (by omega)
  have hi2 : (i : Int) < (Gc 27 r).toInt := by rw [e27]; exact hi
  refine ⟨fun u t hu ht => ?_, fun t ht => ?_⟩
  · exact wkP_keep W hn hx (by omega) (by rw [e27]; exact ht) hr hi2 ex (by omega) (by omega) (A1 u t hu ht)
  · by_cases e : t = i
    · subst e
      exact wkP_new W hn hx hr hi2 ex o
    · exact wkP_keep W hn hx hr (by omega) hr hi2 ex (Nat.le_refl r) (by omega) (A2 t (by omega))
end WKA
/-- the places counted over the entries below i -/
def plN (G : Nat → Nat → Int32) (f : Int) (r v : Nat) : Nat → Int
  | 0 => 1
  | i + 1 => plN G f r v i + (if ¬ (G 29 (16 * r + i)).toInt = (v : Int) ∧ 0 ≤ (G 46 (16 * r + (G 29 (16 * r + i)).toInt.toNat)).toInt ∧ ((f = 0 ∧ (G 46 (16 * r + (G 29 (16 * r + i)).toInt.toNat)).toInt < (G 47 (16 * r + v)).toInt) ∨ (¬ f = 0 ∧ (G 47 (16 * r + (G 29 (16 * r + i)).toInt.toNat)).toInt < (G 46 (16 * r + v)).toInt)) then 1 else 0)
theorem wkP_F {F F1 : Nat → Int32} {G : Nat → Nat → Int32} {d : Int} {r i : Nat} (h15 : F1 15 = F 15) (h31 : F1 31 = F 31) (p : wkP F1 G d r i) : wkP F G d r i := by
  unfold wkP wkO wkMl wkMh wkA wkB at *
  rw [h15, h31] at p
  exact p
