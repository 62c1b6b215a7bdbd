/-- the latest value told of a thing by a day, out of the rows below n -/
def kN (G : Nat → Nat → Int32) (r v s k d : Int) : Nat → Int
  | 0 => -1
  | n + 1 => if (G 37 n).toInt ≤ d ∧ (G 32 n).toInt = r ∧ (G 33 n).toInt = v ∧ (G 34 n).toInt = s ∧ (G 35 n).toInt = k then (G 36 n).toInt else kN G r v s k d n
/-- a chain of events is the rows of a race and a racer below n, the latest first -/
def lEv (G : Nat → Nat → Int32) (r v : Int) (L : List Nat) (K : Nat → Nat) (I : Nat → Nat → Int32) (O : Nat → Nat → Option Nat) : Nat → Option Nat → Prop
  | 0, o => o = none
  | n + 1, o => if (G 32 n).toInt = r ∧ (G 33 n).toInt = v then ∃ a : Nat, o = some a ∧ a ∈ L ∧ K a = 1 ∧ (I a 0).toInt = (G 37 n).toInt ∧ (I a 1).toInt = (G 34 n).toInt ∧ (I a 2).toInt = (G 35 n).toInt ∧ (I a 3).toInt = (G 36 n).toInt ∧ lEv G r v L K I O n (O a 4) else lEv G r v L K I O n o
section LEV
variable {G G1 : Nat → Nat → Int32} {r v : Int} {L L1 : List Nat} {K K1 : Nat → Nat} {I I1 : Nat → Nat → Int32} {O O1 : Nat → Nat → Option Nat}
theorem lEv_none {n : Nat} (h : lEv G r v L K I O n none) (s k d : Int) : kN G r v s k d n = -1 := by
  induction n with
  | zero => rfl
  | succ n ih =>
    simp only [lEv] at h
    simp only [kN]
    by_cases c : (G 32 n).toInt = r ∧ (G 33 n).toInt = v
    · rw [if_pos c] at h
      obtain ⟨a, e, -⟩ := h
      cases e
    · rw [if_neg c] at h
      rw [if_neg (fun z => c ⟨z.2.1, z.2.2.1⟩)]
      exact ih h
theorem lEv_some {n a : Nat} (h : lEv G r v L K I O n (some a)) : ∃ m : Nat, m < n ∧ a ∈ L ∧ K a = 1 ∧ lEv G r v L K I O m (O a 4) ∧ ∀ s k d : Int, kN G r v s k d n = if (I a 0).toInt ≤ d ∧ (I a 1).toInt = s ∧ (I a 2).toInt = k then (I a 3).toInt else kN G r v s k d m := by
  induction n with
  | zero => simp only [lEv] at h; cases h
  | succ n ih =>
    simp only [lEv] at h
    by_cases c : (G 32 n).toInt = r ∧ (G 33 n).toInt = v
    · rw [if_pos c] at h
      obtain ⟨b, e, m1, k1, e0, e1, e2, e3, h4⟩ := h
      cases e
      refine ⟨n, Nat.lt_succ_self n, m1, k1, h4, fun s k d => ?_⟩
      simp only [kN]
      rw [e0, e1, e2, e3]
      by_cases q : (G 37 n).toInt ≤ d ∧ (G 34 n).toInt = s ∧ (G 35 n).toInt = k
      · rw [if_pos q, if_pos ⟨q.1, c.1, c.2, q.2.1, q.2.2⟩]
      · rw [if_neg q, if_neg (fun z => q ⟨z.1, z.2.2.2.1, z.2.2.2.2⟩)]
    · rw [if_neg c] at h
      obtain ⟨m, h1, h2, h3, h4, h5⟩ := ih h
      refine ⟨m, Nat.lt_succ_of_lt h1, h2, h3, h4, fun s k d => ?_⟩
      simp only [kN]
      rw [if_neg (fun z => c ⟨z.2.1, z.2.2.1⟩)]
      exact h5 s k d
theorem lEv_fr {WI WO : List (Nat × Nat)} {n : Nat} {o : Option Nat} (h : lEv G r v L K I O n o) (f : cFr [] WI WO L K I O L1 K1 I1 O1) (a : ∀ j : Nat, cin WI 1 j = false) (b : cin WO 1 4 = false) : lEv G r v L1 K1 I1 O1 n o := by
  induction n generalizing o with
  | zero => exact h
  | succ n ih =>
    simp only [lEv] at h ⊢
    by_cases c : (G 32 n).toInt = r ∧ (G 33 n).toInt = v
    · rw [if_pos c] at h ⊢
      obtain ⟨x, e, m1, k1, e0, e1, e2, e3, h4⟩ := h
      obtain ⟨m2, k2, i2, o2⟩ := f x m1 List.not_mem_nil
      rw [k1] at i2 o2
      exact ⟨x, e, m2, k2.trans k1, by rw [i2 0 (a 0)]; exact e0, by rw [i2 1 (a 1)]; exact e1, by rw [i2 2 (a 2)]; exact e2, by rw [i2 3 (a 3)]; exact e3, by rw [o2 4 b]; exact ih h4⟩
    · rw [if_neg c] at h ⊢
      exact ih h
theorem lEv_same {n : Nat} {o : Option Nat} (h : lEv G r v L K I O n o) (m : ∀ a : Nat, a ∈ L → K a = 1 → a ∈ L1 ∧ K1 a = 1) (i1 : ∀ a : Nat, a ∈ L → K a = 1 → ∀ j : Nat, I1 a j = I a j) (o1 : ∀ a : Nat, a ∈ L → K a = 1 → ∀ j : Nat, O1 a j = O a j) (g : ∀ j : Nat, j < n → G1 32 j = G 32 j ∧ G1 33 j = G 33 j ∧ G1 34 j = G 34 j ∧ G1 35 j = G 35 j ∧ G1 36 j = G 36 j ∧ G1 37 j = G 37 j) : lEv G1 r v L1 K1 I1 O1 n o := by
  induction n generalizing o with
  | zero => exact h
  | succ n ih =>
    obtain ⟨g2, g3, g4, g5, g6, g7⟩ := g n (Nat.lt_succ_self n)
    have g' := fun j (hj : j < n) => g j (Nat.lt_succ_of_lt hj)
    simp only [lEv] at h ⊢
    rw [g2, g3, g4, g5, g6, g7]
    by_cases c : (G 32 n).toInt = r ∧ (G 33 n).toInt = v
    · rw [if_pos c] at h ⊢
      obtain ⟨x, e, m1, k1, e0, e1, e2, e3, h4⟩ := h
      have q := m x m1 k1
      exact ⟨x, e, q.1, q.2, by rw [i1 x m1 k1]; exact e0, by rw [i1 x m1 k1]; exact e1, by rw [i1 x m1 k1]; exact e2, by rw [i1 x m1 k1]; exact e3, by rw [o1 x m1 k1]; exact ih h4 g'⟩
    · rw [if_neg c] at h ⊢
      exact ih h g'
theorem kN_bd {s k d B : Int} {n : Nat} (hB : -1 ≤ B) (h : ∀ j : Nat, j < n → (G 34 j).toInt = s → -1 ≤ (G 36 j).toInt ∧ (G 36 j).toInt ≤ B) : -1 ≤ kN G r v s k d n ∧ kN G r v s k d n ≤ B := by
  induction n with
  | zero => simp only [kN]; omega
  | succ n ih =>
    simp only [kN]
    split
    · rename_i c
      exact h n (Nat.lt_succ_self n) c.2.2.2.1
    · exact ih (fun j hj => h j (Nat.lt_succ_of_lt hj))
end LEV
/-- bits of a row of five targets -/
def hB (x : Int) : Int := x % 2 + x / 2 % 2 + x / 4 % 2 + x / 8 % 2 + x / 16 % 2
def fewS (b : Int) : Int := if b < 0 then 0 else 5 - hB b
def manyS (b : Int) : Int := if b < 0 then 5 else 5 - hB b
def sumS (f : Nat → Int) : Nat → Int
  | 0 => 0
  | k + 1 => sumS f k + f k
def runLo (lp run : Int) : Int := if lp = 0 then 0 else if run < 0 then 9 else run
def runHi (lp run : Int) : Int := if lp = 0 then 0 else if run < 0 then 0 else run
def penLo (lp c10 b run : Int) : Int := if fewS b - runLo lp run > 0 then c10 * (fewS b - runLo lp run) else 0
def penHi (lp c10 b run : Int) : Int := if manyS b - runHi lp run > 0 then c10 * (manyS b - runHi lp run) else 0
def lowS (st en a : Int) (sk : Int) : Int := if sk = 1 ∨ st < 0 ∨ en < st then -1 else en - st + a
theorem hB_bd (x : Int) : 0 ≤ hB x ∧ hB x ≤ 5 := by
  unfold hB
  omega
theorem fewS_bd (b : Int) : 0 ≤ fewS b ∧ fewS b ≤ 5 := by
  have := hB_bd b
  unfold fewS
  split <;> omega
theorem manyS_bd (b : Int) : 0 ≤ manyS b ∧ manyS b ≤ 5 := by
  have := hB_bd b
  unfold manyS
  split <;> omega
