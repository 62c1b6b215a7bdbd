/-- a race of both sides -/
def lRa (b f e : Nat → Nat) (rr r : Nat) (L : List Nat) (K : Nat → Nat) (I : Nat → Nat → Int32) (O : Nat → Nat → Option Nat) (G : Nat → Nat → Int32) : Prop :=
  (O rr r = some (b r) ∧ b r ∈ L ∧ K (b r) = 3) ∧ (O (b r) 0 = some (f r) ∧ f r ∈ L ∧ K (f r) = 2) ∧ (O (b r) 3 = some (e r) ∧ e r ∈ L ∧ K (e r) = 15) ∧
  ((I (f r) 0).toInt = (G 18 r).toInt ∧ (I (f r) 1).toInt = (G 19 r).toInt ∧ (I (f r) 2).toInt = (G 20 r).toInt ∧ (I (f r) 3).toInt = (G 21 r).toInt ∧ (I (f r) 5).toInt = (G 23 r).toInt ∧ (I (f r) 6).toInt + 9 = (G 24 r).toInt ∧ (I (f r) 7).toInt = (G 25 r).toInt) ∧
  ((I (b r) 2).toInt = (G 26 r).toInt ∧ (I (b r) 4).toInt = (G 27 r).toInt ∧ (I (b r) 5).toInt = (G 28 r).toInt) ∧
  (((G 24 r).toInt = 11 ∧ 0 ≤ (G 26 r).toInt ∧ (G 26 r).toInt < (r : Int) ∧ O (b r) 1 = some (b (G 26 r).toInt.toNat)) ∨ (¬ (G 24 r).toInt = 11 ∧ O (b r) 1 = none))
/-- an entry of both sides -/
def lEn (e : Nat → Nat) (w : Nat → Nat → Nat) (r i : Nat) (L : List Nat) (K : Nat → Nat) (I : Nat → Nat → Int32) (O : Nat → Nat → Option Nat) (F : Nat → Int32) (G : Nat → Nat → Int32) : Prop :=
  (O (e r) i = some (w r i) ∧ w r i ∈ L ∧ K (w r i) = 0) ∧ (I (w r i) 0).toInt = (G 29 (16 * r + i)).toInt ∧ 0 ≤ (G 29 (16 * r + i)).toInt ∧ (G 29 (16 * r + i)).toInt < (F 15).toInt ∧ (G 30 (16 * r + (G 29 (16 * r + i)).toInt.toNat)).toInt = (i : Int)
/-- the place of a racer's entry -/
def lEo (F : Nat → Int32) (G : Nat → Nat → Int32) (r v : Nat) : Prop := 0 ≤ (G 30 (16 * r + v)).toInt → (r : Int) < (F 17).toInt ∧ (G 30 (16 * r + v)).toInt < (G 27 r).toInt ∧ (G 29 (16 * r + (G 30 (16 * r + v)).toInt.toNat)).toInt = (v : Int)
def lRx (x0 rr : Nat) (b f e : Nat → Nat) (w : Nat → Nat → Nat) (L : List Nat) (K : Nat → Nat) (I : Nat → Nat → Int32) (O : Nat → Nat → Option Nat) (F : Nat → Int32) (G : Nat → Nat → Int32) : Prop :=
  (O x0 9 = some rr ∧ rr ∈ L ∧ K rr = 12) ∧ (I x0 11).toInt = (F 31).toInt ∧
  (∀ r : Nat, (r : Int) < (F 17).toInt → lRa b f e rr r L K I O G) ∧
  (∀ r i : Nat, (r : Int) < (F 17).toInt → (i : Int) < (G 27 r).toInt → lEn e w r i L K I O F G) ∧
  (∀ r v : Nat, r < 8 → v < 16 → lEo F G r v) ∧
  (∀ r t : Nat, (r : Int) < (F 17).toInt → (t : Int) < (F 17).toInt → b r = b t → r = t) ∧
  (∀ r t : Nat, (r : Int) < (F 17).toInt → (t : Int) < (F 17).toInt → e r = e t → r = t) ∧
  (∀ r i t j : Nat, (r : Int) < (F 17).toInt → (i : Int) < (G 27 r).toInt → (t : Int) < (F 17).toInt → (j : Int) < (G 27 t).toInt → w r i = w t j → r = t ∧ i = j) ∧
  (∀ r : Nat, (F 17).toInt ≤ (r : Int) → r < 8 → (G 27 r).toInt = 0 ∧ (G 28 r).toInt = 0)
/-- races, entries and the number of events of both sides -/
def lRc (x0 : Nat) (L : List Nat) (K : Nat → Nat) (I : Nat → Nat → Int32) (O : Nat → Nat → Option Nat) (F : Nat → Int32) (G : Nat → Nat → Int32) : Prop := ∃ (rr : Nat) (b f e : Nat → Nat) (w : Nat → Nat → Nat), lRx x0 rr b f e w L K I O F G
section LRC
variable {x0 rr : Nat} {b f e : Nat → Nat} {w : Nat → Nat → Nat} {L L1 : List Nat} {K K1 : Nat → Nat} {I I1 : Nat → Nat → Int32} {O O1 : Nat → Nat → Option Nat} {F F1 : Nat → Int32} {G G1 : Nat → Nat → Int32} {WI WO : List (Nat × Nat)} {WF WG : List Nat}
theorem lRx_same (h : lRx x0 rr b f e w L K I O F G) (fr : cFr [] WI WO L K I O L1 K1 I1 O1) (i2 : ∀ a : Nat, a ∈ L → K a = 2 → ∀ j : Nat, I1 a j = I a j) (i3 : ∀ a : Nat, a ∈ L → K a = 3 → I1 a 2 = I a 2 ∧ I1 a 4 = I a 4 ∧ I1 a 5 = I a 5) (i0 : ∀ a : Nat, a ∈ L → K a = 0 → I1 a 0 = I a 0) (i5 : I1 x0 11 = I x0 11) (o9 : O1 x0 9 = O x0 9)
    (o12 : ∀ a : Nat, a ∈ L → K a = 12 → ∀ j : Nat, O1 a j = O a j) (o3 : ∀ a : Nat, a ∈ L → K a = 3 → O1 a 0 = O a 0 ∧ O1 a 1 = O a 1 ∧ O1 a 3 = O a 3) (o15 : ∀ a : Nat, a ∈ L → K a = 15 → ∀ j : Nat, O1 a j = O a j) (g17 : F1 17 = F 17) (g15 : (F 15).toInt ≤ (F1 15).toInt) (g31 : F1 31 = F 31) (gG : ∀ k ∈ ([18, 19, 20, 21, 22, 23, 24, 25, 26, 27, 28, 29, 30] : List Nat), G1 k = G k) : lRx x0 rr b f e w L1 K1 I1 O1 F1 G1 := by
  obtain ⟨⟨a1, a2, a3⟩, a4, hA, hB, hC, d1, d2, d3, d4⟩ := h
  have e18 := gG 18 (by decide)
  have e19 := gG 19 (by decide)
  have e20 := gG 20 (by decide)
  have e21 := gG 21 (by decide)
  have e23 := gG 23 (by decide)
  have e24 := gG 24 (by decide)
  have e25 := gG 25 (by decide)
  have e26 := gG 26 (by decide)
  have e27 := gG 27 (by decide)
  have e28 := gG 28 (by decide)
  have e29 := gG 29 (by decide)
  have e30 := gG 30 (by decide)
  unfold lRx lRa lEn lEo
  rw [g17, g31, e18, e19, e20, e21, e23, e24, e25, e26, e27, e28, e29, e30]
  refine ⟨⟨o9.trans a1, (fr rr a2 List.not_mem_nil).1, (fr rr a2 List.not_mem_nil).2.1.trans a3⟩, by rw [i5]; exact a4, fun r hr => ?_, fun r i hr hi => ?_, hC, d1, d2, d3, d4⟩
  · obtain ⟨⟨p1, p2, p3⟩, ⟨p4, p5, p6⟩, ⟨p7, p8, p9⟩, q0, q1, q2⟩ := hA r hr
    refine ⟨⟨(o12 rr a2 a3 r).trans p1, (fr _ p2 List.not_mem_nil).1, (fr _ p2 List.not_mem_nil).2.1.trans p3⟩, ⟨(o3 _ p2 p3).1.trans p4, (fr _ p5 List.not_mem_nil).1, (fr _ p5 List.not_mem_nil).2.1.trans p6⟩, ⟨(o3 _ p2 p3).2.2.trans p7, (fr _ p8 List.not_mem_nil).1, (fr _ p8 List.not_mem_nil).2.1.trans p9⟩, ?_, ?_, ?_⟩
    · simp only [i2 _ p5 p6]
      exact q0
    · rw [(i3 _ p2 p3).1, (i3 _ p2 p3).2.1, (i3 _ p2 p3).2.2]
      exact q1
    · rw [(o3 _ p2 p3).2.1]
      exact q2
  · obtain ⟨⟨p1, p2, p3⟩, p4, p5, p6, p7⟩ := hB r i hr hi
    obtain ⟨-, -, ⟨-, s8, s9⟩, -⟩ := hA r hr
    exact ⟨⟨(o15 _ s8 s9 i).trans p1, (fr _ p2 List.not_mem_nil).1, (fr _ p2 List.not_mem_nil).2.1.trans p3⟩, by rw [i0 _ p2 p3]; exact p4, p5, by omega, p7⟩
theorem lRc.fr (h : lRc x0 L K I O F G) (mx0 : x0 ∈ L) (kx0 : K x0 = 5) (fr : cFr [] WI WO L K I O L1 K1 I1 O1) (g : mFr WF WG F G F1 G1) (i2 : ∀ a : Nat, a ∈ L → K a = 2 → ∀ j : Nat, I1 a j = I a j) (a3 : cin WI 3 2 = false ∧ cin WI 3 4 = false ∧ cin WI 3 5 = false) (a0 : cin WI 0 0 = false) (a5 : cin WI 5 11 = false) (b5 : cin WO 5 9 = false) (b12 : cin WO 12 0 = false) (b3 : cin WO 3 0 = false ∧ cin WO 3 1 = false ∧ cin WO 3 3 = false) (b15 : cin WO 15 0 = false) (c17 : 17 ∉ WF) (c31 : 31 ∉ WF) (c15 : (F 15).toInt ≤ (F1 15).toInt) (cG : ∀ k ∈ ([18, 19, 20, 21, 22, 23, 24, 25, 26, 27, 28, 29, 30] : List Nat), k ∉ WG) : lRc x0 L1 K1 I1 O1 F1 G1 := by
  obtain ⟨rr, b, f, e, w, hx⟩ := h
  obtain ⟨-, -, i1, o1⟩ := fr x0 mx0 List.not_mem_nil
  rw [kx0] at i1 o1
  refine ⟨rr, b, f, e, w, lRx_same hx fr i2 (fun a ma ka => ?_) (fun a ma ka => ?_) (i1 11 a5) (o1 9 b5) (fun a ma ka j => ?_) (fun a ma ka => ?_) (fun a ma ka j => ?_) (g.1 17 c17) c15 (g.1 31 c31) (fun k hk => g.2 k (cG k hk))⟩
  · obtain ⟨-, -, u, -⟩ := fr a ma List.not_mem_nil
    rw [ka] at u
    exact ⟨u 2 a3.1, u 4 a3.2.1, u 5 a3.2.2⟩
  · obtain ⟨-, -, u, -⟩ := fr a ma List.not_mem_nil
    rw [ka] at u
    exact u 0 a0
  · obtain ⟨-, -, -, u⟩ := fr a ma List.not_mem_nil
    rw [ka] at u
    exact u j b12
  · obtain ⟨-, -, -, u⟩ := fr a ma List.not_mem_nil
    rw [ka] at u
    exact ⟨u 0 b3.1, u 1 b3.2.1, u 3 b3.2.2⟩
  · obtain ⟨-, -, -, u⟩ := fr a ma List.not_mem_nil
    rw [ka] at u
    exact u j b15
theorem lRf2 (fr : cFr [] WI WO L K I O L1 K1 I1 O1) (a2 : ∀ j : Nat, cin WI 2 j = false) : ∀ a : Nat, a ∈ L → K a = 2 → ∀ j : Nat, I1 a j = I a j := fun a ma ka j => by
  obtain ⟨-, -, u, -⟩ := fr a ma List.not_mem_nil
  rw [ka] at u
  exact u j (a2 j)
theorem lRc_stay (h : lRc x0 L K I O F G) (g17 : F1 17 = F 17) (g15 : F1 15 = F 15) (g31 : F1 31 = F 31) (gG : G1 = G) : lRc x0 L K I O F1 G1 := by
  subst gG
  obtain ⟨rr, b, f, e, w, hx⟩ := h
  exact ⟨rr, b, f, e, w, lRx_same hx (cFr.rf (WI := []) (WO := [])) (fun _ _ _ _ => rfl) (fun _ _ _ => ⟨rfl, rfl, rfl⟩) (fun _ _ _ => rfl) rfl rfl (fun _ _ _ _ => rfl) (fun _ _ _ => ⟨rfl, rfl, rfl⟩) (fun _ _ _ _ => rfl) g17 (by rw [g15]; exact Int.le_refl _) g31 (fun _ _ => rfl)⟩
theorem lUp {g : Nat → Int32} {n : Nat} {x : Int32} : upd g n x n = x := by simp [upd]
theorem lUn {g : Nat → Int32} {n j : Nat} {x : Int32} (h : ¬ j = n) : upd g n x j = g j := by simp [upd, h]
theorem lRc_race (h : lRc x0 L K I O F G) (hm : mI F G) (mx0 : x0 ∈ L) (kx0 : K x0 = 5) (hrr : O x0 9 = some rr) (fr : cFr [] [(5, 10)] [(12, 0)] L K I O L1 K1 I1 O1) (g : mFr [2, 17] [18, 19, 20, 21, 22, 23, 24, 25, 26] F G F1 G1) (h8 : (F 17).toInt < 8) (hF : (F1 17).toInt = (F 17).toInt + 1) (h10 : (I x0 10).toInt = (F 17).toInt)
    {a bn es : Nat} {p0 p1 : Int32} (ma : a ∈ L) (ka : K a = 2) (bl : bn ∉ L) (bm : bn ∈ L1) (bk : K1 bn = 3) (b0 : O1 bn 0 = some a) (b2 : (I1 bn 2).toInt = p1.toInt) (b4 : (I1 bn 4).toInt = 0) (b5 : (I1 bn 5).toInt = 0) (b3 : O1 bn 3 = some es) (el : es ∉ L) (em : es ∈ L1) (ek : K1 es = 15) (og : ∀ g : Nat, O1 rr g = if g = Int32.toNatClampNeg (I x0 10) then some bn else O rr g)
    (hby : ((I a 6).toInt = 2 ∧ (0 ≤ p1.toInt ∧ p1.toInt < (I x0 10).toInt) ∧ O1 bn 1 = O rr (Int32.toNatClampNeg p1)) ∨ (¬ (I a 6).toInt = 2 ∧ p1.toInt = -1 ∧ O1 bn 1 = none))
    (hf : (I a 0).toInt = p0.toInt ∧ (I a 1).toInt = (G 5 (Int32.toNatClampNeg p0)).toInt ∧ (I a 2).toInt = (G 6 (Int32.toNatClampNeg p0)).toInt ∧ (I a 3).toInt = (G 8 (Int32.toNatClampNeg p0)).toInt ∧ (I a 5).toInt = (G 10 (Int32.toNatClampNeg p0)).toInt ∧ (I a 6).toInt + 9 = (G 11 (Int32.toNatClampNeg p0)).toInt ∧ (I a 7).toInt = (G 12 (Int32.toNatClampNeg p0)).toInt)
    {z22 : Int32} (u18 : G1 18 = upd (G 18) (Int32.toNatClampNeg (F 17)) p0) (u19 : G1 19 = upd (G 19) (Int32.toNatClampNeg (F 17)) (G 5 (Int32.toNatClampNeg p0))) (u20 : G1 20 = upd (G 20) (Int32.toNatClampNeg (F 17)) (G 6 (Int32.toNatClampNeg p0))) (u21 : G1 21 = upd (G 21) (Int32.toNatClampNeg (F 17)) (G 8 (Int32.toNatClampNeg p0))) (u22 : G1 22 = upd (G 22) (Int32.toNatClampNeg (F 17)) z22) (u23 : G1 23 = upd (G 23) (Int32.toNatClampNeg (F 17)) (G 10 (Int32.toNatClampNeg p0))) (u24 : G1 24 = upd (G 24) (Int32.toNatClampNeg (F 17)) (G 11 (Int32.toNatClampNeg p0))) (u25 : G1 25 = upd (G 25) (Int32.toNatClampNeg (F 17)) (G 12 (Int32.toNatClampNeg p0))) (u26 : G1 26 = upd (G 26) (Int32.toNatClampNeg (F 17)) p1) : lRc x0 L1 K1 I1 O1 F1 G1 := by
  obtain ⟨rr', b, f, e, w, ⟨a1, a2, a3⟩, a4, hA, hB, hC, d1, d2, d3, d4⟩ := h
  have er : rr' = rr := Option.some.inj (a1.symm.trans hrr)
  subst er
  have b17 : 0 ≤ (F 17).toInt ∧ (F 17).toInt ≤ 8 := hm.1 17 (0, 8) rfl
  have en : Int32.toNatClampNeg (I x0 10) = Int32.toNatClampNeg (F 17) := by rw [mm_nat, mm_nat, h10]
  rw [en] at og
  rw [h10] at hby
  generalize hn : Int32.toNatClampNeg (F 17) = n at og u18 u19 u20 u21 u22 u23 u24 u25 u26
  have hn2 : (n : Int) = (F 17).toInt := by rw [mm_nat] at hn; omega
  have e27 := g.2 27 (by decide)
  have e28 := g.2 28 (by decide)
  have e29 := g.2 29 (by decide)
  have e30 := g.2 30 (by decide)
  have g15 := g.1 15 (by decide)
  have g31 := g.1 31 (by decide)
  have hz := d4 n (by omega) (by omega)
  have k2 : ∀ y : Nat, y ∈ L → y ∈ L1 ∧ K1 y = K y := fun y hy => ⟨(fr y hy List.not_mem_nil).1, (fr y hy List.not_mem_nil).2.1⟩
  have i2 : ∀ y : Nat, y ∈ L → ¬ K y = 5 → ∀ j : Nat, I1 y j = I y j := fun y hy hk j => (fr y hy List.not_mem_nil).2.2.1 j (by
    have q9 : ((K y, if 10 ≤ K y ∧ K y < 20 then 0 else j) == ((5, 10) : Nat × Nat)) = false := by
      rw [beq_eq_false_iff_ne]
      intro c
      exact hk (congrArg Prod.fst c)
    unfold cin
    rw [List.contains_cons, q9]
    rfl)
  have o2 : ∀ y : Nat, y ∈ L → ¬ K y = 12 → ∀ j : Nat, O1 y j = O y j := fun y hy hk j => (fr y hy List.not_mem_nil).2.2.2 j (by
    have q9 : ((K y, if 10 ≤ K y ∧ K y < 20 then 0 else j) == ((12, 0) : Nat × Nat)) = false := by
      rw [beq_eq_false_iff_ne]
      intro c
      exact hk (congrArg Prod.fst c)
    unfold cin
    rw [List.contains_cons, q9]
    rfl)
  have x9 : O1 x0 9 = O x0 9 := o2 x0 mx0 (by omega) 9
  have x11 : I1 x0 11 = I x0 11 := by
    obtain ⟨-, -, u, -⟩ := fr x0 mx0 List.not_mem_nil
    rw [kx0] at u
    exact u 11 (by decide)
  refine ⟨rr', va_up b n bn, va_up f n a, va_up e n es, w, ⟨x9.trans a1, (k2 _ a2).1, (k2 _ a2).2.trans a3⟩, by rw [x11, g31]; exact a4, fun r hr => ?_, fun r i hr hi => ?_, fun r v hr hv h0 => ?_, fun r t hr ht hq => ?_, fun r t hr ht hq => ?_, fun r i t j hr hi ht hj hq => ?_, fun r hr h9 => ?_⟩
  · by_cases er : r = n
    · subst er
      unfold lRa
      rw [va_up_self, va_up_self, va_up_self, u18, u19, u20, u21, u23, u24, u25, u26, e27, e28]
      simp only [lUp]
      refine ⟨⟨by rw [og, if_pos rfl], bm, bk⟩, ⟨b0, (k2 _ ma).1, (k2 _ ma).2.trans ka⟩, ⟨b3, em, ek⟩, ?_, ⟨b2, by rw [b4]; exact hz.1.symm, by rw [b5]; exact hz.2.symm⟩, ?_⟩
      · simp only [i2 a ma (by omega)]
        exact hf
      · rcases hby with ⟨c1, c2, c3⟩ | ⟨c1, c2, c3⟩
        · refine Or.inl ⟨by omega, by omega, by omega, ?_⟩
          have c4 := (hA p1.toInt.toNat (by omega)).1.1
          rw [va_up_ne _ _ (show p1.toInt.toNat ≠ r from by omega), c3, mm_nat]
          exact c4
        · exact Or.inr ⟨by omega, c3⟩
    · obtain ⟨⟨p1', p2, p3⟩, ⟨p4, p5, p6⟩, ⟨p7, p8, p9⟩, q0, q1, q2⟩ := hA r (by omega)
      unfold lRa
      rw [va_up_ne _ _ er, va_up_ne _ _ er, va_up_ne _ _ er, u18, u19, u20, u21, u23, u24, u25, u26, e27, e28]
      simp only [lUn er]
      refine ⟨⟨by rw [og, if_neg er]; exact p1', (k2 _ p2).1, (k2 _ p2).2.trans p3⟩, ⟨(o2 _ p2 (by omega) 0).trans p4, (k2 _ p5).1, (k2 _ p5).2.trans p6⟩, ⟨(o2 _ p2 (by omega) 3).trans p7, (k2 _ p8).1, (k2 _ p8).2.trans p9⟩, ?_, ?_, ?_⟩
      · simp only [i2 _ p5 (show ¬ K (f r) = 5 from by omega)]
        exact q0
      · simp only [i2 _ p2 (show ¬ K (b r) = 5 from by omega)]
        exact q1
      · rw [o2 _ p2 (by omega) 1]
        rcases q2 with ⟨c1, c2, c3, c4⟩ | c
        · refine Or.inl ⟨c1, c2, c3, ?_⟩
          rw [va_up_ne _ _ (show (G 26 r).toInt.toNat ≠ n from by omega)]
          exact c4
        · exact Or.inr c
  · have er : ¬ r = n := fun z => by
      subst z
      rw [e27] at hi
      omega
    rw [e27] at hi
    obtain ⟨⟨p1', p2, p3⟩, p4, p5, p6, p7⟩ := hB r i (by omega) hi
    obtain ⟨-, -, ⟨-, s8, s9⟩, -⟩ := hA r (by omega)
    unfold lEn
    rw [va_up_ne _ _ er, e29, e30, g15]
    exact ⟨⟨(o2 _ s8 (by omega) i).trans p1', (k2 _ p2).1, (k2 _ p2).2.trans p3⟩, by rw [i2 _ p2 (by omega) 0]; exact p4, p5, p6, p7⟩
  · rw [e30] at h0 ⊢
    rw [e27, e29]
    obtain ⟨c1, c2, c3⟩ := hC r v hr hv h0
    exact ⟨by omega, c2, c3⟩
  · by_cases e1 : r = n
    · by_cases e2 : t = n
      · omega
      · subst e1
        rw [va_up_self, va_up_ne _ _ e2] at hq
        exact absurd (show bn ∈ L from by rw [hq]; exact (hA t (by omega)).1.2.1) bl
    · by_cases e2 : t = n
      · subst e2
        rw [va_up_self, va_up_ne _ _ e1] at hq
        exact absurd (show bn ∈ L from by rw [← hq]; exact (hA r (by omega)).1.2.1) bl
      · rw [va_up_ne _ _ e1, va_up_ne _ _ e2] at hq
        exact d1 r t (by omega) (by omega) hq
  · by_cases e1 : r = n
    · by_cases e2 : t = n
      · omega
      · subst e1
        rw [va_up_self, va_up_ne _ _ e2] at hq
        exact absurd (show es ∈ L from by rw [hq]; exact (hA t (by omega)).2.2.1.2.1) el
    · by_cases e2 : t = n
      · subst e2
        rw [va_up_self, va_up_ne _ _ e1] at hq
        exact absurd (show es ∈ L from by rw [← hq]; exact (hA r (by omega)).2.2.1.2.1) el
      · rw [va_up_ne _ _ e1, va_up_ne _ _ e2] at hq
        exact d2 r t (by omega) (by omega) hq
  · rw [e27] at hi hj
    have e1 : ¬ r = n := fun z => by
      subst z
      omega
    have e2 : ¬ t = n := fun z => by
      subst z
      omega
    exact d3 r i t j (by omega) hi (by omega) hj hq
  · rw [e27, e28]
    exact d4 r (by omega) h9
theorem lRc_enter (h : lRc x0 L K I O F G) (hm : mI F G) (mx0 : x0 ∈ L) (kx0 : K x0 = 5) (hrr : O x0 9 = some rr) (fr : cFr [] [(0, 0), (3, 4)] [(15, 0)] L K I O L1 K1 I1 O1) (g : mFr [2] [27, 29, 30] F G F1 G1)
    {r0 v0 b0 es qe : Nat} {z27 p1 : Int32} (hb : O rr r0 = some b0) (he : O b0 3 = some es) (hr0 : (r0 : Int) < (F 17).toInt) (hv : (v0 : Int) < (F 15).toInt) (n27 : (G 27 r0).toInt ≤ 15) (hneg : (G 30 (16 * r0 + v0)).toInt < 0) (ql : qe ∉ L) (qm : qe ∈ L1) (qk : K1 qe = 0) (q0 : (I1 qe 0).toInt = p1.toInt) (c4 : (I1 b0 4).toInt = (I b0 4).toInt + 1) (og : ∀ g : Nat, O1 es g = if g = Int32.toNatClampNeg (I b0 4) then some qe else O es g)
    (f0 : ∀ a : Nat, a ∈ L → K a = 0 → ∀ j : Nat, I1 a j = I a j) (f3 : ∀ a : Nat, a ∈ L → K a = 3 → ¬ a = b0 → ∀ j : Nat, I1 a j = I a j) (f15 : ∀ a : Nat, a ∈ L → K a = 15 → ¬ a = es → ∀ j : Nat, O1 a j = O a j) (hz : z27.toInt = (G 27 r0).toInt + 1) (hp : p1.toInt = (v0 : Int)) (u27 : G1 27 = upd (G 27) r0 z27) (u29 : G1 29 = upd (G 29) (16 * r0 + Int32.toNatClampNeg (G 27 r0)) p1) (u30 : G1 30 = upd (G 30) (16 * r0 + v0) (G 27 r0)) : lRc x0 L1 K1 I1 O1 F1 G1 := by
  obtain ⟨rr', b, f, e, w, ⟨a1, a2, a3⟩, a4, hA, hB, hC, d1, d2, d3, d4⟩ := h
  have er : rr' = rr := Option.some.inj (a1.symm.trans hrr)
  subst er
  have b17 : 0 ≤ (F 17).toInt ∧ (F 17).toInt ≤ 8 := hm.1 17 (0, 8) rfl
  have b15 : 0 ≤ (F 15).toInt ∧ (F 15).toInt ≤ 16 := hm.1 15 (0, 16) rfl
  have b27 : ∀ j : Nat, 0 ≤ (G 27 j).toInt ∧ (G 27 j).toInt ≤ 16 := hm.2.1 27 (0, 16) rfl
  have b30 : ∀ j : Nat, -1 ≤ (G 30 j).toInt ∧ (G 30 j).toInt ≤ 15 := hm.2.1 30 (-1, 15) rfl
  have A0 := hA r0 hr0
  have eb : b r0 = b0 := Option.some.inj (A0.1.1.symm.trans hb)
  have ee : e r0 = es := Option.some.inj (A0.2.2.1.1.symm.trans (by rw [eb]; exact he))
  have m4 : (I b0 4).toInt = (G 27 r0).toInt := by have := A0.2.2.2.2.1.2.1; rw [eb] at this; exact this
  have mb : b0 ∈ L := by rw [← eb]; exact A0.1.2.1
  have kb : K b0 = 3 := by rw [← eb]; exact A0.1.2.2
  have me : es ∈ L := by rw [← ee]; exact A0.2.2.1.2.1
  have ke : K es = 15 := by rw [← ee]; exact A0.2.2.1.2.2
  have en : Int32.toNatClampNeg (I b0 4) = Int32.toNatClampNeg (G 27 r0) := by rw [mm_nat, mm_nat, m4]
  rw [en] at og
  have b0n := b27 r0
  generalize hn : Int32.toNatClampNeg (G 27 r0) = n at og u29
  have hn2 : (n : Int) = (G 27 r0).toInt := by rw [mm_nat] at hn; omega
  have e18 := g.2 18 (by decide)
  have e19 := g.2 19 (by decide)
  have e20 := g.2 20 (by decide)
  have e21 := g.2 21 (by decide)
  have e23 := g.2 23 (by decide)
  have e24 := g.2 24 (by decide)
  have e25 := g.2 25 (by decide)
  have e26 := g.2 26 (by decide)
  have e28 := g.2 28 (by decide)
  have g17 := g.1 17 (by decide)
  have g15 := g.1 15 (by decide)
  have g31 := g.1 31 (by decide)
  have k2 : ∀ y : Nat, y ∈ L → y ∈ L1 ∧ K1 y = K y := fun y hy => ⟨(fr y hy List.not_mem_nil).1, (fr y hy List.not_mem_nil).2.1⟩
  have o12 : ∀ y : Nat, y ∈ L → K y = 12 → ∀ j : Nat, O1 y j = O y j := fun y hy hk j => by
    obtain ⟨-, -, -, u⟩ := fr y hy List.not_mem_nil
    rw [hk] at u
    exact u j (by rfl)
  have o3 : ∀ y : Nat, y ∈ L → K y = 3 → ∀ j : Nat, O1 y j = O y j := fun y hy hk j => by
    obtain ⟨-, -, -, u⟩ := fr y hy List.not_mem_nil
    rw [hk] at u
    exact u j (by rfl)
  have i2 : ∀ y : Nat, y ∈ L → K y = 2 → ∀ j : Nat, I1 y j = I y j := fun y hy hk j => by
    obtain ⟨-, -, u, -⟩ := fr y hy List.not_mem_nil
    rw [hk] at u
    exact u j (by rfl)
  have x9 : O1 x0 9 = O x0 9 := by
    obtain ⟨-, -, -, u⟩ := fr x0 mx0 List.not_mem_nil
    rw [kx0] at u
    exact u 9 (by decide)
  have x11 : I1 x0 11 = I x0 11 := by
    obtain ⟨-, -, u, -⟩ := fr x0 mx0 List.not_mem_nil
    rw [kx0] at u
    exact u 11 (by decide)
  have w27 : ∀ r : Nat, ¬ r = r0 → G1 27 r = G 27 r := fun r h => by rw [u27]; exact lUn h
  have w27a : (G1 27 r0).toInt = (G 27 r0).toInt + 1 := by rw [u27, lUp]; exact hz
  have w27b : ∀ r : Nat, (G 27 r).toInt ≤ (G1 27 r).toInt := fun r => by
    by_cases h : r = r0
    · rw [h]; omega
    · rw [w27 r h]; exact Int.le_refl _
  refine ⟨rr', b, f, e, (fun r i => if r = r0 ∧ i = n then qe else w r i), ⟨x9.trans a1, (k2 _ a2).1, (k2 _ a2).2.trans a3⟩, by rw [x11, g31]; exact a4, fun r hr => ?_, fun r i hr hi => ?_, fun r v hr hv' h0 => ?_, fun r t hr ht hq => ?_, fun r t hr ht hq => ?_, fun r i t j hr hi ht hj hq => ?_, fun r hr h9 => ?_⟩
  · rw [g17] at hr
    obtain ⟨⟨p1', p2, p3⟩, ⟨p4, p5, p6⟩, ⟨p7, p8, p9⟩, s0, s1, s2⟩ := hA r hr
    unfold lRa
    rw [e18, e19, e20, e21, e23, e24, e25, e26, e28]
    refine ⟨⟨(o12 _ a2 a3 r).trans p1', (k2 _ p2).1, (k2 _ p2).2.trans p3⟩, ⟨(o3 _ p2 p3 0).trans p4, (k2 _ p5).1, (k2 _ p5).2.trans p6⟩, ⟨(o3 _ p2 p3 3).trans p7, (k2 _ p8).1, (k2 _ p8).2.trans p9⟩, ?_, ?_, ?_⟩
    · simp only [i2 _ p5 p6]
      exact s0
    · by_cases e1 : r = r0
      · subst e1
        obtain ⟨-, -, u, -⟩ := fr b0 mb List.not_mem_nil
        rw [kb] at u
        rw [eb] at s1 ⊢
        rw [u 2 (by decide), u 5 (by decide)]
        exact ⟨s1.1, by omega, s1.2.2⟩
      · have nb : ¬ b r = b0 := fun z => e1 (d1 r r0 hr hr0 (z.trans eb.symm))
        simp only [f3 _ p2 p3 nb]
        rw [w27 r e1]
        exact s1
    · rw [o3 _ p2 p3 1]
      exact s2
  · rw [g17] at hr
    obtain ⟨-, -, ⟨-, s8, s9⟩, -⟩ := hA r hr
    unfold lEn
    try dsimp only
    rw [g15]
    by_cases e1 : r = r0
    · subst e1
      by_cases e2 : i = n
      · subst e2
        rw [if_pos (show r = r ∧ i = i from ⟨rfl, rfl⟩), ee]
        have y29 : G1 29 (16 * r + i) = p1 := by rw [u29]; exact lUp
        rw [y29, hp]
        refine ⟨⟨by rw [og, if_pos rfl], qm, qk⟩, by rw [q0]; exact hp, by omega, hv, ?_⟩
        rw [show ((v0 : Int)).toNat = v0 from by omega, u30, lUp]
        omega
      · rw [if_neg (show ¬ (r = r ∧ i = n) from fun z => e2 z.2)]
        obtain ⟨⟨p1', p2, p3⟩, p4, p5, p6, p7⟩ := hB r i hr (by omega)
        have y29 : G1 29 (16 * r + i) = G 29 (16 * r + i) := by rw [u29]; exact lUn (by omega)
        rw [y29]
        refine ⟨⟨by rw [ee, og, if_neg e2, ← ee]; exact p1', (k2 _ p2).1, (k2 _ p2).2.trans p3⟩, by rw [f0 _ p2 p3 0]; exact p4, p5, p6, ?_⟩
        have nv : ¬ 16 * r + (G 29 (16 * r + i)).toInt.toNat = 16 * r + v0 := fun z => by
          rw [z] at p7
          omega
        rw [u30, lUn nv]
        exact p7
    · rw [if_neg (show ¬ (r = r0 ∧ i = n) from fun z => e1 z.1)]
      rw [w27 r e1] at hi
      obtain ⟨⟨p1', p2, p3⟩, p4, p5, p6, p7⟩ := hB r i hr hi
      have bi := b27 r
      have ne : ¬ e r = es := fun z => e1 (d2 r r0 hr hr0 (z.trans ee.symm))
      have y29 : G1 29 (16 * r + i) = G 29 (16 * r + i) := by rw [u29]; exact lUn (by omega)
      rw [y29]
      refine ⟨⟨(f15 _ s8 s9 ne i).trans p1', (k2 _ p2).1, (k2 _ p2).2.trans p3⟩, by rw [f0 _ p2 p3 0]; exact p4, p5, p6, ?_⟩
      rw [u30, lUn (by omega)]
      exact p7
  · by_cases e1 : 16 * r + v = 16 * r0 + v0
    · have er : r = r0 := by omega
      have ev : v = v0 := by omega
      subst er
      subst ev
      rw [g17, u30, lUp]
      refine ⟨hr0, by rw [w27a]; omega, ?_⟩
      rw [u29, show (G 27 r).toInt.toNat = n from by omega, lUp]
      exact hp
    · rw [u30, lUn e1] at h0 ⊢
      obtain ⟨c1, c2, c3⟩ := hC r v hr hv' h0
      have y1 := w27b r
      have y2 := b27 r
      rw [g17]
      refine ⟨c1, by omega, ?_⟩
      have ni : ¬ 16 * r + (G 30 (16 * r + v)).toInt.toNat = 16 * r0 + n := fun z => by
        have er : r = r0 := by omega
        subst er
        omega
      rw [u29, lUn ni]
      exact c3
  · rw [g17] at hr ht
    exact d1 r t hr ht hq
  · rw [g17] at hr ht
    exact d2 r t hr ht hq
  · rw [g17] at hr ht
    try dsimp only at hq
    by_cases c1 : r = r0 ∧ i = n
    · by_cases c2 : t = r0 ∧ j = n
      · exact ⟨by omega, by omega⟩
      · rw [if_pos c1, if_neg c2] at hq
        have h27 : (j : Int) < (G 27 t).toInt := by
          by_cases e2 : t = r0
          · subst e2; omega
          · rw [w27 t e2] at hj; exact hj
        exact absurd (show qe ∈ L from by rw [hq]; exact (hB t j ht h27).1.2.1) ql
    · have h27 : (i : Int) < (G 27 r).toInt := by
        by_cases e2 : r = r0
        · subst e2; omega
        · rw [w27 r e2] at hi; exact hi
      by_cases c2 : t = r0 ∧ j = n
      · rw [if_neg c1, if_pos c2] at hq
        exact absurd (show qe ∈ L from by rw [← hq]; exact (hB r i hr h27).1.2.1) ql
      · rw [if_neg c1, if_neg c2] at hq
        have h28 : (j : Int) < (G 27 t).toInt := by
          by_cases e2 : t = r0
          · subst e2; omega
          · rw [w27 t e2] at hj; exact hj
        exact d3 r i t j hr h27 ht h28 hq
  · rw [g17] at hr
    rw [w27 r (by omega), e28]
    exact d4 r hr h9
theorem lRc_tell (h : lRc x0 L K I O F G) (hm : mI F G) (mx0 : x0 ∈ L) (kx0 : K x0 = 5) (hrr : O x0 9 = some rr) (fr : cFr [] [(1, 0), (1, 1), (1, 2), (1, 3), (3, 5), (5, 11)] [(0, 1), (1, 4)] L K I O L1 K1 I1 O1) (g : mFr [2, 31] [28, 32, 33, 34, 35, 36, 37] F G F1 G1)
    {r0 b0 : Nat} (hb : O rr r0 = some b0) (hr0 : (r0 : Int) < (F 17).toInt) (c5 : (I1 b0 5).toInt = (I b0 5 + 1).toInt) (f3 : ∀ a : Nat, a ∈ L → K a = 3 → ¬ a = b0 → ∀ j : Nat, I1 a j = I a j) (u28 : G1 28 = upd (G 28) r0 (G 28 r0 + 1)) (h11 : (I1 x0 11).toInt = (F1 31).toInt) : lRc x0 L1 K1 I1 O1 F1 G1 := by
  obtain ⟨rr', b, f, e, w, ⟨a1, a2, a3⟩, a4, hA, hB, hC, d1, d2, d3, d4⟩ := h
  have er : rr' = rr := Option.some.inj (a1.symm.trans hrr)
  subst er
  have A0 := hA r0 hr0
  have eb : b r0 = b0 := Option.some.inj (A0.1.1.symm.trans hb)
  have mb : b0 ∈ L := by rw [← eb]; exact A0.1.2.1
  have kb : K b0 = 3 := by rw [← eb]; exact A0.1.2.2
  have m5 : I b0 5 = G 28 r0 := Int32.toInt_inj.mp (by have := A0.2.2.2.2.1.2.2; rw [eb] at this; exact this)
  rw [m5] at c5
  have e18 := g.2 18 (by decide)
  have e19 := g.2 19 (by decide)
  have e20 := g.2 20 (by decide)
  have e21 := g.2 21 (by decide)
  have e23 := g.2 23 (by decide)
  have e24 := g.2 24 (by decide)
  have e25 := g.2 25 (by decide)
  have e26 := g.2 26 (by decide)
  have e27 := g.2 27 (by decide)
  have e29 := g.2 29 (by decide)
  have e30 := g.2 30 (by decide)
  have g17 := g.1 17 (by decide)
  have g15 := g.1 15 (by decide)
  have k2 : ∀ y : Nat, y ∈ L → y ∈ L1 ∧ K1 y = K y := fun y hy => ⟨(fr y hy List.not_mem_nil).1, (fr y hy List.not_mem_nil).2.1⟩
  have o12 : ∀ y : Nat, y ∈ L → K y = 12 → ∀ j : Nat, O1 y j = O y j := fun y hy hk j => by
    obtain ⟨-, -, -, u⟩ := fr y hy List.not_mem_nil
    rw [hk] at u
    exact u j (by rfl)
  have o15 : ∀ y : Nat, y ∈ L → K y = 15 → ∀ j : Nat, O1 y j = O y j := fun y hy hk j => by
    obtain ⟨-, -, -, u⟩ := fr y hy List.not_mem_nil
    rw [hk] at u
    exact u j (by rfl)
  have o3 : ∀ y : Nat, y ∈ L → K y = 3 → ∀ j : Nat, O1 y j = O y j := fun y hy hk j => by
    obtain ⟨-, -, -, u⟩ := fr y hy List.not_mem_nil
    rw [hk] at u
    exact u j (by rfl)
  have i2 : ∀ y : Nat, y ∈ L → K y = 2 → ∀ j : Nat, I1 y j = I y j := fun y hy hk j => by
    obtain ⟨-, -, u, -⟩ := fr y hy List.not_mem_nil
    rw [hk] at u
    exact u j (by rfl)
  have i0 : ∀ y : Nat, y ∈ L → K y = 0 → ∀ j : Nat, I1 y j = I y j := fun y hy hk j => by
    obtain ⟨-, -, u, -⟩ := fr y hy List.not_mem_nil
    rw [hk] at u
    exact u j (by rfl)
  have x9 : O1 x0 9 = O x0 9 := by
    obtain ⟨-, -, -, u⟩ := fr x0 mx0 List.not_mem_nil
    rw [kx0] at u
    exact u 9 (by decide)
  refine ⟨rr', b, f, e, w, ⟨x9.trans a1, (k2 _ a2).1, (k2 _ a2).2.trans a3⟩, h11, fun r hr => ?_, fun r i hr hi => ?_, fun r v hr hv h0 => ?_, by rw [g17]; exact d1, by rw [g17]; exact d2, by rw [g17, e27]; exact d3, fun r hr h9 => ?_⟩
  · rw [g17] at hr
    obtain ⟨⟨p1', p2, p3⟩, ⟨p4, p5, p6⟩, ⟨p7, p8, p9⟩, s0, s1, s2⟩ := hA r hr
    unfold lRa
    rw [e18, e19, e20, e21, e23, e24, e25, e26, e27]
    refine ⟨⟨(o12 _ a2 a3 r).trans p1', (k2 _ p2).1, (k2 _ p2).2.trans p3⟩, ⟨(o3 _ p2 p3 0).trans p4, (k2 _ p5).1, (k2 _ p5).2.trans p6⟩, ⟨(o3 _ p2 p3 3).trans p7, (k2 _ p8).1, (k2 _ p8).2.trans p9⟩, ?_, ?_, ?_⟩
    · simp only [i2 _ p5 p6]
      exact s0
    · by_cases e1 : r = r0
      · subst e1
        obtain ⟨-, -, u, -⟩ := fr b0 mb List.not_mem_nil
        rw [kb] at u
        rw [eb] at s1 ⊢
        rw [u 2 (by decide), u 4 (by decide), u28, lUp]
        exact ⟨s1.1, s1.2.1, c5⟩
      · have nb : ¬ b r = b0 := fun z => e1 (d1 r r0 hr hr0 (z.trans eb.symm))
        simp only [f3 _ p2 p3 nb]
        rw [u28, lUn e1]
        exact s1
    · rw [o3 _ p2 p3 1]
      exact s2
  · rw [g17] at hr
    rw [e27] at hi
    obtain ⟨⟨p1', p2, p3⟩, p4, p5, p6, p7⟩ := hB r i hr hi
    obtain ⟨-, -, ⟨-, s8, s9⟩, -⟩ := hA r hr
    unfold lEn
    rw [e29, e30, g15]
    exact ⟨⟨(o15 _ s8 s9 i).trans p1', (k2 _ p2).1, (k2 _ p2).2.trans p3⟩, by rw [i0 _ p2 p3 0]; exact p4, p5, p6, p7⟩
  · rw [e30] at h0 ⊢
    rw [g17, e27, e29]
    exact hC r v hr hv h0
  · rw [g17] at hr
    rw [e27, u28, lUn (by omega)]
    exact d4 r hr h9
end LRC
