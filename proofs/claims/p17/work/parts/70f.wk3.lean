/-- what working out needs of both sides -/
def lWx (y0 rr : Nat) (b f e : Nat → Nat) (w : Nat → Nat → Nat) (L : List Nat) (K : Nat → Nat) (I : Nat → Nat → Int32) (O : Nat → Nat → Option Nat) (F : Nat → Int32) (G : Nat → Nat → Int32) : Prop :=
  lRx y0 rr b f e w L K I O F G ∧ lWr F G ∧ (∀ r i : Nat, (r : Int) < (F 17).toInt → (i : Int) < (G 27 r).toInt → lEv G (r : Int) (G 29 (16 * r + i)).toInt L K I O (F 31).toInt.toNat (O (w r i) 1)) ∧ (∀ r : Nat, (r : Int) < (F 17).toInt → (I (f r) 4).toInt = (G 22 r).toInt) ∧ mI F G
section LWX
variable {y0 rr : Nat} {b f e : Nat → Nat} {w : Nat → Nat → Nat} {L L1 : List Nat} {K K1 : Nat → Nat} {I I1 : Nat → Nat → Int32} {O O1 : Nat → Nat → Option Nat} {F : Nat → Int32} {G : Nat → Nat → Int32} {WI : List (Nat × Nat)}
theorem lWx.fr (h : lWx y0 rr b f e w L K I O F G) (my : y0 ∈ L) (ky : K y0 = 5) (fr : cFr [] WI [] L K I O L1 K1 I1 O1) (a2 : ∀ j : Nat, cin WI 2 j = false) (a3 : cin WI 3 2 = false ∧ cin WI 3 4 = false ∧ cin WI 3 5 = false) (a0 : cin WI 0 0 = false) (a5 : cin WI 5 11 = false) (a1 : ∀ j : Nat, cin WI 1 j = false) : lWx y0 rr b f e w L1 K1 I1 O1 F G := by
  obtain ⟨h1, h2, h3, h4, h5⟩ := h
  have oo : ∀ a : Nat, a ∈ L → ∀ j : Nat, O1 a j = O a j := fun a ma j => (fr a ma List.not_mem_nil).2.2.2 j rfl
  have i2 := lRf2 fr a2
  have hR : lRx y0 rr b f e w L1 K1 I1 O1 F G := by
    obtain ⟨-, -, i1, -⟩ := fr y0 my List.not_mem_nil
    rw [ky] at i1
    refine lRx_same h1 fr i2 (fun a ma ka => ?_) (fun a ma ka => ?_) (i1 11 a5) (oo y0 my 9) (fun a ma _ j => oo a ma j) (fun a ma _ => ⟨oo a ma 0, oo a ma 1, oo a ma 3⟩) (fun a ma _ j => oo a ma j) rfl (Int.le_refl _) rfl (fun _ _ => rfl)
    · obtain ⟨-, -, u, -⟩ := fr a ma List.not_mem_nil
      rw [ka] at u
      exact ⟨u 2 a3.1, u 4 a3.2.1, u 5 a3.2.2⟩
    · obtain ⟨-, -, u, -⟩ := fr a ma List.not_mem_nil
      rw [ka] at u
      exact u 0 a0
  refine ⟨hR, h2, fun r i hr hi => ?_, fun r hr => ?_, h5⟩
  · rw [oo _ (h1.2.2.2.1 r i hr hi).1.2.1 1]
    exact lEv_fr (h3 r i hr hi) fr a1 rfl
  · have q := (h1.2.2.1 r hr).2.1
    rw [i2 _ q.2.1 q.2.2 4]
    exact h4 r hr
/-- events in their bounds, of a race and a racer -/
theorem lWx_bd (h : lWr F G) (r v d : Int) : ∀ k : Int, (-1 ≤ kN G r v 0 k d (F 31).toInt.toNat ∧ kN G r v 0 k d (F 31).toInt.toNat ≤ 200000) ∧ (-1 ≤ kN G r v 1 k d (F 31).toInt.toNat ∧ kN G r v 1 k d (F 31).toInt.toNat ≤ 31) ∧ (-1 ≤ kN G r v 2 k d (F 31).toInt.toNat ∧ kN G r v 2 k d (F 31).toInt.toNat ≤ 9) ∧ (-1 ≤ kN G r v 3 k d (F 31).toInt.toNat ∧ kN G r v 3 k d (F 31).toInt.toNat ≤ 1) := fun k => ⟨lTv_0 h.2.2.1, lTv_1 h.2.2.1, lTv_2 h.2.2.1, lTv_3 h.2.2.1⟩
end LWX
/-- the least over entries below n -/
def lMe (lo : Nat → Int) (n : Nat) (x : Int) : Prop := (x = -1 ∧ ∀ t : Nat, t < n → lo t < 0) ∨ (0 ≤ x ∧ (∃ t : Nat, t < n ∧ lo t = x) ∧ ∀ t : Nat, t < n → 0 ≤ lo t → x ≤ lo t)
section LME
variable {lo : Nat → Int} {n : Nat} {x : Int}
theorem lMe_0 : lMe lo 0 (-1) := Or.inl ⟨rfl, fun t ht => absurd ht (Nat.not_lt_zero t)⟩
theorem lMe_skip (h : lMe lo n x) (c : lo n < 0) : lMe lo (n + 1) x := by
  rcases h with ⟨a, b⟩ | ⟨a, ⟨w, w1, w2⟩, b⟩
  · refine Or.inl ⟨a, fun u hu => ?_⟩
    by_cases e : u = n
    · subst e; exact c
    · exact b u (by omega)
  · refine Or.inr ⟨a, ⟨w, by omega, w2⟩, fun u hu h0 => ?_⟩
    by_cases e : u = n
    · subst e; omega
    · exact b u (by omega) h0
theorem lMe_keep (h : lMe lo n x) (c : 0 ≤ x) (d : x ≤ lo n) : lMe lo (n + 1) x := by
  rcases h with ⟨a, b⟩ | ⟨a, ⟨w, w1, w2⟩, b⟩
  · omega
  · refine Or.inr ⟨a, ⟨w, by omega, w2⟩, fun u hu h0 => ?_⟩
    by_cases e : u = n
    · subst e; exact d
    · exact b u (by omega) h0
theorem lMe_take (h : lMe lo n x) (c : 0 ≤ lo n) (d : x < 0 ∨ lo n < x) : lMe lo (n + 1) (lo n) := by
  refine Or.inr ⟨c, ⟨n, by omega, rfl⟩, fun u hu h0 => ?_⟩
  by_cases e : u = n
  · subst e; omega
  · rcases h with ⟨a, b⟩ | ⟨a, -, b⟩
    · have := b u (by omega); omega
    · have := b u (by omega) h0; omega
theorem lMe_cg {lo1 : Nat → Int} (h : ∀ t : Nat, t < n → lo1 t = lo t) (a : lMe lo n x) : lMe lo1 n x := by
  rcases a with ⟨a, b⟩ | ⟨a, ⟨w, w1, w2⟩, b⟩
  · exact Or.inl ⟨a, fun t ht => by rw [h t ht]; exact b t ht⟩
  · exact Or.inr ⟨a, ⟨w, w1, by rw [h w w1]; exact w2⟩, fun t ht h0 => by rw [h t ht] at h0 ⊢; exact b t ht h0⟩
end LME
/-- over the entries of a race, or over the racers that have one -/
theorem lMe_n {F : Nat → Int32} {G : Nat → Nat → Int32} {r : Nat} {x : Int} (W : lWr F G) (hr : (r : Int) < (F 17).toInt) (h0 : 0 ≤ (G 27 r).toInt) (a : lMe (fun i => (G 46 (wkI G r i)).toInt) (G 27 r).toInt.toNat x) : lMn G r (Int32.toNatClampNeg (F 15)) x := by
  have d8 := W.2.2.2.2.1
  have d16 := W.2.2.2.1
  have hb : ∀ u : Nat, u < Int32.toNatClampNeg (F 15) → 0 ≤ (G 30 (16 * r + u)).toInt → (G 30 (16 * r + u)).toInt.toNat < (G 27 r).toInt.toNat ∧ wkI G r (G 30 (16 * r + u)).toInt.toNat = 16 * r + u := fun u hu h1 => by
    rw [mm_nat] at hu
    obtain ⟨c1, c2, c3⟩ := W.2.2.2.2.2 r u (by omega) (by omega) h1
    refine ⟨by omega, ?_⟩
    unfold wkI
    rw [c3]
    omega
  rcases a with ⟨a, b⟩ | ⟨a, ⟨t, t1, t2⟩, b⟩
  · refine Or.inl ⟨a, fun u hu h1 => ?_⟩
    obtain ⟨c1, c2⟩ := hb u hu h1
    have q := b _ c1
    dsimp only at q
    rw [c2] at q
    exact q
  · refine Or.inr ⟨a, ?_, fun u hu h1 h2 => ?_⟩
    · have q := W.1 r t hr (by omega)
      refine ⟨(G 29 (16 * r + t)).toInt.toNat, by rw [mm_nat]; omega, by omega, t2⟩
    · obtain ⟨c1, c2⟩ := hb u hu h1
      have q := b _ c1
      dsimp only at q
      rw [c2] at q
      exact q h2
section LRI
variable {y0 rr : Nat} {b f e : Nat → Nat} {w : Nat → Nat → Nat} {L : List Nat} {K : Nat → Nat} {I : Nat → Nat → Int32} {O : Nat → Nat → Option Nat} {F : Nat → Int32} {G : Nat → Nat → Int32}
/-- no entry of a racer: no place -/
theorem lRx_no (h : lRx y0 rr b f e w L K I O F G) {r : Nat} (hr : (r : Int) < (F 17).toInt) (h8 : r < 8) {p : Int} (hp : 0 ≤ p ∧ p < 16) (n : ∀ i : Nat, (i : Int) < (I (b r) 4).toInt → ∀ x : Nat, O (e r) i = some x → ¬ (I x 0).toInt = p) : (G 30 (16 * r + p.toNat)).toInt < 0 := by
  rcases Int.lt_or_le (G 30 (16 * r + p.toNat)).toInt 0 with q | q
  · exact q
  · exfalso
    obtain ⟨-, -, hA, hB, hC, -⟩ := h
    obtain ⟨c1, c2, c3⟩ := hC r p.toNat h8 (by omega) q
    have a4 := (hA r hr).2.2.2.2.1.2.1
    obtain ⟨⟨s1, -, -⟩, s4, -⟩ := hB r (G 30 (16 * r + p.toNat)).toInt.toNat hr (by omega)
    rw [c3] at s4
    exact n _ (by omega) _ s1 (by omega)
/-- an entry of a racer: its place -/
theorem lRx_is (h : lRx y0 rr b f e w L K I O F G) {r i x : Nat} (hr : (r : Int) < (F 17).toInt) {p : Int} (hi : (i : Int) < (I (b r) 4).toInt) (o : O (e r) i = some x) (q : (I x 0).toInt = p) : x = w r i ∧ (i : Int) < (G 27 r).toInt ∧ (G 29 (16 * r + i)).toInt = p ∧ (G 30 (16 * r + p.toNat)).toInt = (i : Int) ∧ wkI G r i = 16 * r + p.toNat := by
  obtain ⟨-, -, hA, hB, -⟩ := h
  have a4 := (hA r hr).2.2.2.2.1.2.1
  have hi2 : (i : Int) < (G 27 r).toInt := by omega
  obtain ⟨⟨s1, -, -⟩, s4, s5, s6, s7⟩ := hB r i hr hi2
  have ex : x = w r i := Option.some.inj (o.symm.trans s1)
  subst ex
  have e9 : (G 29 (16 * r + i)).toInt = p := by omega
  refine ⟨rfl, hi2, e9, ?_, by unfold wkI; rw [e9]⟩
  rw [e9] at s7
  exact s7
end LRI
/-- the start of a racer in a race, as the class's objects have it -/
def wkSv (w : Nat → Nat → Nat) (I : Nat → Nat → Int32) (G : Nat → Nat → Int32) (ra r v : Nat) (s : Int) : Prop :=
  ((G 24 r).toInt = 9 ∧ s = 0) ∨ ((G 24 r).toInt = 10 ∧ s = 10 * (G 25 r).toInt * (G 30 (16 * r + v)).toInt) ∨
  (¬ (G 24 r).toInt = 9 ∧ ¬ (G 24 r).toInt = 10 ∧ ((((G 30 (16 * (G 26 r).toInt.toNat + v)).toInt < 0 ∨ (cGf w I G 3 (16 * (G 26 r).toInt.toNat + v)).toInt < 0) ∧ s = -1) ∨
    (0 ≤ (G 30 (16 * (G 26 r).toInt.toNat + v)).toInt ∧ 0 ≤ (cGf w I G 3 (16 * (G 26 r).toInt.toNat + v)).toInt ∧ ∃ mi : Int, lMn (cGv w I G) (G 26 r).toInt.toNat ra mi ∧ s = if ((cGf w I G 3 (16 * (G 26 r).toInt.toNat + v)).toInt - mi) / 10 * 10 < 10 * (G 25 r).toInt then ((cGf w I G 3 (16 * (G 26 r).toInt.toNat + v)).toInt - mi) / 10 * 10 else 10 * (G 25 r).toInt)))
theorem wkSv_to {w : Nat → Nat → Nat} {I : Nat → Nat → Int32} {G : Nat → Nat → Int32} {ra r v : Nat} {s : Int} (h : wkSv w I G ra r v s) : wkS (cGv w I G) ra r v s := h
/-- the least is no more than one that counts -/
theorem lMn_le {G : Nat → Nat → Int32} {p n u : Nat} {x : Int} (h : lMn G p n x) (hu : u < n) (h0 : 0 ≤ (G 30 (16 * p + u)).toInt) (h1 : 0 ≤ (G 46 (16 * p + u)).toInt) : 0 ≤ x ∧ x ≤ (G 46 (16 * p + u)).toInt := by
  rcases h with ⟨a, b⟩ | ⟨a, -, b⟩
  · have := b u hu h0
    omega
  · exact ⟨a, b u hu h0 h1⟩
section WKR
variable {F : Nat → Int32} {G Gc Gn : Nat → Nat → Int32}
theorem wkO_of {r v d s l hh ml mh : Int} (h : wkE G Gn) (hs : wkS Gn (Int32.toNatClampNeg (F 15)) r.toNat v.toNat s) (a2 : ml = sumS (wkMl F G r v d) (G 20 r.toNat).toInt.toNat) (a3 : mh = sumS (wkMh F G r v d) (G 20 r.toNat).toInt.toNat) (a4 : l = lowS s (kN G r v 0 (G 19 r.toNat).toInt d (F 31).toInt.toNat) (sumS (wkA F G r v d) (G 20 r.toNat).toInt.toNat) (kN G r v 3 0 d (F 31).toInt.toNat)) (a5 : hh = lowS s (kN G r v 0 (G 19 r.toNat).toInt d (F 31).toInt.toNat) (sumS (wkB F G r v d) (G 20 r.toNat).toInt.toNat) (kN G r v 3 0 d (F 31).toInt.toNat)) : wkO F Gn r v d s l hh ml mh := by
  have hk : ∀ (y k : Int) (n : Nat), kN Gn r v y k d n = kN G r v y k d n := fun y k n => kN_cg ⟨h 32 (by omega) (by omega), h 33 (by omega) (by omega), h 34 (by omega) (by omega), h 35 (by omega) (by omega), h 36 (by omega) (by omega), h 37 (by omega) (by omega)⟩
  have e19 := h 19 (by omega) (by omega)
  have e20 := h 20 (by omega) (by omega)
  have e22 := h 22 (by omega) (by omega)
  have e23 := h 23 (by omega) (by omega)
  have m1 : wkMl F Gn r v d = wkMl F G r v d := funext fun j => by unfold wkMl; rw [hk]
  have m2 : wkMh F Gn r v d = wkMh F G r v d := funext fun j => by unfold wkMh; rw [hk]
  have m3 : wkA F Gn r v d = wkA F G r v d := funext fun j => by unfold wkA; rw [hk, hk, e22, e23]
  have m4 : wkB F Gn r v d = wkB F G r v d := funext fun j => by unfold wkB; rw [hk, hk, e22, e23]
  unfold wkO
  rw [m1, m2, m3, m4, e19, e20, hk, hk]
  exact ⟨hs, a2, a3, a4, a5⟩
theorem wkR_step {d : Int} {r i x : Nat} (hW : lWr F G) (hc : wkE G Gc) (hn : wkE Gc Gn) (hx : ∀ j : Nat, ¬ j = x → Gn 45 j = Gc 45 j ∧ Gn 46 j = Gc 46 j ∧ Gn 47 j = Gc 47 j ∧ Gn 48 j = Gc 48 j ∧ Gn 49 j = Gc 49 j) (hr : (r : Int) < (F 17).toInt) (hi : (i : Int) < (G 27 r).toInt) (ex : x = wkI Gc r i) (o : wkO F Gc (r : Int) (Gc 29 (16 * r + i)).toInt d (Gn 45 x).toInt (Gn 46 x).toInt (Gn 47 x).toInt (Gn 48 x).toInt (Gn 49 x).toInt)
    (A2 : ∀ t : Nat, t < i → wkP F Gc d r t) : ∀ t : Nat, t < i + 1 → wkP F Gn d r t := by
  have W := lWr_cg hc hW
  have e27 := hc 27 (by omega) (by omega)
  have hi2 : (i : Int) < (Gc 27 r).toInt := by rw [e27]; exact hi
  intro t ht
  by_cases e : t = i
  · subst e
    exact wkP_new W hn hx hr hi2 ex o
  · exact wkP_keep W hn hx hr (by omega) hr hi2 ex (Nat.le_refl r) (by omega) (A2 t (by omega))
/-- another race's work leaves what is worked out -/
theorem wkP_far {d : Int} {r0 : Nat} (W : lWr F Gc) (h : wkE Gc Gn) (hx : ∀ j : Nat, ¬ j / 16 = r0 → Gn 45 j = Gc 45 j ∧ Gn 46 j = Gc 46 j ∧ Gn 47 j = Gc 47 j ∧ Gn 48 j = Gc 48 j ∧ Gn 49 j = Gc 49 j) {r i : Nat} (hr : (r : Int) < (F 17).toInt) (hi : (i : Int) < (Gc 27 r).toInt) (le : r < r0) (p : wkP F Gc d r i) : wkP F Gn d r i := by
  have e29 := h 29 (by omega) (by omega)
  have a := W.1 r i hr hi
  have c := W.2.2.2.1
  unfold wkP at *
  rw [e29]
  obtain ⟨v5, v6, v7, v8, v9⟩ := hx (wkI Gc r i) (by unfold wkI; omega)
  rw [show wkI Gn r i = wkI Gc r i from by unfold wkI; rw [e29], v5, v6, v7, v8, v9]
  refine wkO_cg h (fun q => wkS_cg h ?_ (by omega) (by rw [mm_nat]; omega) q) p
  rcases lWr_by W hr with q | q
  · rw [show ((r : Int)).toNat = r from by omega]
    exact Or.inl q
  · rw [show ((r : Int)).toNat = r from by omega]
    exact Or.inr (fun u hu _ => (hx _ (by omega)).2.1)
/-- a start is in its bounds -/
theorem wkS_bd {r v : Nat} {s : Int} (W : lWr F G) (h : wkE G Gn) (hr : (r : Int) < (F 17).toInt) (hv : (v : Int) < (F 15).toInt) (h30 : 0 ≤ (G 30 (16 * r + v)).toInt ∧ (G 30 (16 * r + v)).toInt ≤ 15) (a : wkS Gn (Int32.toNatClampNeg (F 15)) r v s) : -1 ≤ s ∧ s ≤ 1000000 := by
  have q := (W.2.1 r hr).2.2
  unfold wkS at a
  rw [h 24 (by omega) (by omega), h 25 (by omega) (by omega), h 26 (by omega) (by omega), h 30 (by omega) (by omega)] at a
  rcases a with ⟨-, a⟩ | ⟨-, a⟩ | ⟨-, -, ⟨-, a⟩ | ⟨a, b, mi, c, e⟩⟩
  · omega
  · have m := wk_mul (a := 10 * (G 25 r).toInt) (b := (G 30 (16 * r + v)).toInt) (by omega) (by omega)
    have m0 : 0 ≤ 10 * (G 25 r).toInt * (G 30 (16 * r + v)).toInt := Int.mul_nonneg (by omega) (by omega)
    omega
  · omega
  · have l := lMn_le c (u := v) (by rw [mm_nat]; omega) (by rw [h 30 (by omega) (by omega)]; exact a) b
    split at e <;> omega
end WKR
section LHL
variable {y0 rr : Nat} {b f e : Nat → Nat} {w : Nat → Nat → Nat} {L : List Nat} {K : Nat → Nat} {I I1 : Nat → Nat → Int32} {O : Nat → Nat → Option Nat} {F : Nat → Int32} {G : Nat → Nat → Int32}
/-- places of other races, while a race is worked out -/
theorem cGv_far (h : lRx y0 rr b f e w L K I O F G) (W : lWr F G) {r : Nat} (hr : (r : Int) < (F 17).toInt) (w3 : ∀ a : Nat, a ∈ L → K a = 0 → (∀ t : Nat, (t : Int) < (G 27 r).toInt → ¬ a = w r t) → ∀ j : Nat, I1 a j = I a j) : ∀ j : Nat, ¬ j / 16 = r → cGv w I1 G 45 j = cGv w I G 45 j ∧ cGv w I1 G 46 j = cGv w I G 46 j ∧ cGv w I1 G 47 j = cGv w I G 47 j ∧ cGv w I1 G 48 j = cGv w I G 48 j ∧ cGv w I1 G 49 j = cGv w I G 49 j := fun j hj => by
  obtain ⟨-, -, -, hB, -, -, -, d3, -⟩ := h
  have q : ∀ c : Nat, cGf w I1 G c j = cGf w I G c j := fun c => by
    unfold cGf
    by_cases g : j < 128 ∧ 0 ≤ (G 30 j).toInt
    · rw [if_pos g, if_pos g]
      obtain ⟨c1, c2, c3⟩ := cG_en W g
      obtain ⟨⟨-, m, k⟩, -⟩ := hB _ _ c1 c2
      exact w3 _ m k (fun t ht z => hj (d3 _ _ _ _ c1 c2 hr ht z).1) c
    · rw [if_neg g, if_neg g]
  exact ⟨q 2, q 3, q 4, q 6, q 7⟩
theorem lHle_fr (h : lRx y0 rr b f e w L K I O F G) (W : lWr F G) {r ra : Nat} (hr : (r : Int) < (F 17).toInt) (h11 : (G 24 r).toInt = 11) (w3 : ∀ a : Nat, a ∈ L → K a = 0 → (∀ t : Nat, (t : Int) < (G 27 r).toInt → ¬ a = w r t) → ∀ j : Nat, I1 a j = I a j) (w4 : ∀ a : Nat, a ∈ L → K a = 3 → ¬ a = b r → ∀ j : Nat, I1 a j = I a j) (ha : ra ≤ 16)
    (hle : lMn (cGv w I G) (G 26 r).toInt.toNat ra (I (b (G 26 r).toInt.toNat) 6).toInt ∧ ∀ j : Nat, (j : Int) < (G 27 (G 26 r).toInt.toNat).toInt → -1 ≤ (I (w (G 26 r).toInt.toNat j) 3).toInt) : lMn (cGv w I1 G) (G 26 r).toInt.toNat ra (I1 (b (G 26 r).toInt.toNat) 6).toInt ∧ ∀ j : Nat, (j : Int) < (G 27 (G 26 r).toInt.toNat).toInt → -1 ≤ (I1 (w (G 26 r).toInt.toNat j) 3).toInt := by
  have q := cGv_far h W hr w3
  obtain ⟨-, -, hA, hB, -, d1, -, d3, -⟩ := h
  have hby := (W.2.1 r hr).1
  have hb : (((G 26 r).toInt.toNat : Nat) : Int) < (F 17).toInt := by omega
  obtain ⟨⟨-, mb, kb⟩, -⟩ := hA _ hb
  rw [w4 _ mb kb (fun z => by have := d1 _ _ hb hr z; omega) 6]
  refine ⟨lMn_cg (G := cGv w I G) (G1 := cGv w I1 G) rfl (fun u hu _ => (q _ (by omega)).2.1) hle.1, fun j hj => ?_⟩
  obtain ⟨⟨-, mw, kw⟩, -⟩ := hB _ j hb hj
  rw [w3 _ mw kw (fun t ht z => by have := (d3 _ _ _ _ hb hj hr ht z).1; omega) 3]
  exact hle.2 j hj
end LHL
theorem sumS_nn {g : Nat → Int} (h : ∀ j : Nat, 0 ≤ g j) (n : Nat) : 0 ≤ sumS g n := by
  induction n with
  | zero => exact Int.le_refl 0
  | succ n ih => rw [sumS_s]; have := h n; omega
theorem lowS_nn {s en a sk : Int} (ha : 0 ≤ a) : -1 ≤ lowS s en a sk := by
  unfold lowS
  split <;> omega
section WKX
variable {y0 rr : Nat} {b f e : Nat → Nat} {w : Nat → Nat → Nat} {L : List Nat} {K : Nat → Nat} {I I1 : Nat → Nat → Int32} {O : Nat → Nat → Option Nat} {F : Nat → Int32} {G : Nat → Nat → Int32}
theorem wkX_step (h : lRx y0 rr b f e w L K I O F G) (W : lWr F G) {r ra : Nat} {d : Int} (hr : (r : Int) < (F 17).toInt) (ha : ra ≤ 16) (w3 : ∀ a : Nat, a ∈ L → K a = 0 → (∀ t : Nat, (t : Int) < (G 27 r).toInt → ¬ a = w r t) → ∀ j : Nat, I1 a j = I a j) (w4 : ∀ a : Nat, a ∈ L → K a = 3 → ¬ a = b r → ∀ j : Nat, I1 a j = I a j) (p1 : ∀ t : Nat, (t : Int) < (G 27 r).toInt → wkP F (cGv w I1 G) d r t) (p2 : lMn (cGv w I1 G) r ra (I1 (b r) 6).toInt)
    (V1 : ∀ u t : Nat, u < r → (t : Int) < (G 27 u).toInt → wkP F (cGv w I G) d u t) (V2 : ∀ u : Nat, u < r → lMn (cGv w I G) u ra (I (b u) 6).toInt) : (∀ u t : Nat, u < r + 1 → (t : Int) < (G 27 u).toInt → wkP F (cGv w I1 G) d u t) ∧ (∀ u : Nat, u < r + 1 → lMn (cGv w I1 G) u ra (I1 (b u) 6).toInt) ∧ ∀ u t : Nat, u < r → (t : Int) < (G 27 u).toInt → ∀ c : Nat, I1 (w u t) c = I (w u t) c := by
  have q := cGv_far h W hr w3
  obtain ⟨-, -, hA, hB, -, d1, -, d3, -⟩ := h
  refine ⟨fun u t hu ht => ?_, fun u hu => ?_, fun u t hu ht c => ?_⟩
  · by_cases z : u = r
    · subst z; exact p1 t ht
    · exact wkP_far (Gc := cGv w I G) (lWr_cg cGv_e W) (fun k a b => (cGv_e k a b).trans (cGv_e k a b).symm) q (by omega) ht (by omega) (V1 u t (by omega) ht)
  · by_cases z : u = r
    · subst z; exact p2
    · have hu2 : (u : Int) < (F 17).toInt := by omega
      obtain ⟨⟨-, mb, kb⟩, -⟩ := hA u hu2
      rw [w4 _ mb kb (fun y => z (d1 _ _ hu2 hr y)) 6]
      exact lMn_cg (G := cGv w I G) (G1 := cGv w I1 G) rfl (fun v hv _ => (q _ (by omega)).2.1) (V2 u (by omega))
  · have hu2 : (u : Int) < (F 17).toInt := by omega
    obtain ⟨⟨-, mw, kw⟩, -⟩ := hB u t hu2 ht
    exact w3 _ mw kw (fun x hx y => by have := (d3 _ _ _ _ hu2 ht hr hx y).1; omega) c
end WKX
theorem plN_s {y0 rr : Nat} {b f e : Nat → Nat} {w : Nat → Nat → Nat} {L : List Nat} {K : Nat → Nat} {I : Nat → Nat → Int32} {O : Nat → Nat → Option Nat} {F : Nat → Int32} {G : Nat → Nat → Int32} (h : lRx y0 rr b f e w L K I O F G) (W : lWr F G) {r ti i : Nat} (hr : (r : Int) < (F 17).toInt) (ht : (ti : Int) < (G 27 r).toInt) (hi : (i : Int) < (G 27 r).toInt) (fl : Int) : plN (cGv w I G) fl r (G 29 (16 * r + ti)).toInt.toNat (i + 1) = plN (cGv w I G) fl r (G 29 (16 * r + ti)).toInt.toNat i + (if ¬ w r i = w r ti ∧ 0 ≤ (I (w r i) 3).toInt ∧ ((fl = 0 ∧ (I (w r i) 3).toInt < (I (w r ti) 4).toInt) ∨ (¬ fl = 0 ∧ (I (w r i) 4).toInt < (I (w r ti) 3).toInt)) then 1 else 0) := by
  obtain ⟨-, -, -, -, -, -, -, d3, -⟩ := h
  have a := W.1 r i hr hi
  have c := W.1 r ti hr ht
  have e29 : cGv w I G 29 = G 29 := rfl
  have ie : (G 29 (16 * r + i)).toInt = (((G 29 (16 * r + ti)).toInt.toNat : Nat) : Int) ↔ w r i = w r ti := by
    constructor
    · intro z
      have q : (G 29 (16 * r + i)).toInt.toNat = (G 29 (16 * r + ti)).toInt.toNat := by omega
      rw [q] at a
      rw [show i = ti from by omega]
    · intro z
      rw [(d3 r i r ti hr hi hr ht z).2]
      omega
  simp only [plN]
  rw [e29, show cGv w I G 46 (16 * r + (G 29 (16 * r + i)).toInt.toNat) = I (w r i) 3 from (cGv_at W hr hi).2.1, show cGv w I G 47 (16 * r + (G 29 (16 * r + i)).toInt.toNat) = I (w r i) 4 from (cGv_at W hr hi).2.2.1]
  rw [show cGv w I G 46 (16 * r + (G 29 (16 * r + ti)).toInt.toNat) = I (w r ti) 3 from (cGv_at W hr ht).2.1, show cGv w I G 47 (16 * r + (G 29 (16 * r + ti)).toInt.toNat) = I (w r ti) 4 from (cGv_at W hr ht).2.2.1]
  simp only [ie]
