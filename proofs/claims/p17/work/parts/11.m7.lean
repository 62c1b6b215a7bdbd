def mHow (x : Int32) : Prop := x.toInt = 9 ∨ x.toInt = 10 ∨ x.toInt = 11
def mR2l (G : Nat → Nat → Int32) (k : Nat) : Prop := ∀ j : Nat, j < k → ¬ (G 5 j).toInt = 0 → mHow (G 11 j)
def mR2 (G : Nat → Nat → Int32) : Prop := mR2l G 8
def mJ (G G' : Nat → Nat → Int32) : Prop := ∀ j : Nat, j < 8 → G' 5 j = G 5 j ∧ G' 11 j = G 11 j
def mI8 (G : Nat → Nat → Int32) : Prop := ∀ j : Nat, 8 ≤ j → j < 16 → ¬ (G 5 j).toInt = 0 → mHow (G 11 j)
def mI8x (G : Nat → Nat → Int32) (f : Nat) : Prop := ∀ j : Nat, 8 ≤ j → j < 16 → ¬ j = f → ¬ (G 5 j).toInt = 0 → mHow (G 11 j)
def mZ (G : Nat → Nat → Int32) (k : Nat) : Prop := ∀ j : Nat, 8 ≤ j → j < k → G 5 j = 0
theorem mJ.rf {G : Nat → Nat → Int32} : mJ G G := fun _ _ => ⟨rfl, rfl⟩
theorem mJ.tr {G X Y : Nat → Nat → Int32} (h : mJ G X) (a : Y 5 = X 5) (b : Y 11 = X 11) : mJ G Y := fun j hj => by rw [a, b]; exact h j hj
theorem mI8x.of {X : Nat → Nat → Int32} {f : Nat} (h : mI8 X) : mI8x X f := fun j a b _ c => h j a b c
theorem mI8x.tr {X Y : Nat → Nat → Int32} {f : Nat} (h : mI8x X f) (a : Y 5 = X 5) (b : Y 11 = X 11) : mI8x Y f := fun j h1 h2 h3 h4 => by
  rw [a] at h4; rw [b]; exact h j h1 h2 h3 h4
theorem mI8.tr {X Y : Nat → Nat → Int32} (h : mI8 X) (a : Y 5 = X 5) (b : Y 11 = X 11) : mI8 Y := fun j h1 h2 h4 => by
  rw [a] at h4; rw [b]; exact h j h1 h2 h4
theorem mZ.st {X Y : Nat → Nat → Int32} {k : Nat} (h : mZ X k) (a : Y 5 = upd (X 5) k 0) : mZ Y (k + 1) := fun j h1 h2 => by
  rw [a]
  by_cases e : j = k
  · simp only [upd, if_pos e]
  · simp only [upd, if_neg e]; exact h j h1 (by omega)
/-- the racers of a race that have an entry -/
def mCn (g : Nat → Int32) (r : Nat) : Nat → Nat
  | 0 => 0
  | n + 1 => mCn g r n + (if 0 ≤ (g (16 * r + n)).toInt then 1 else 0)
def mR1 (G : Nat → Nat → Int32) : Prop := ∀ r : Nat, r < 8 → (G 27 r).toInt = (mCn (G 30) r 16 : Int)
theorem mCn_le (g : Nat → Int32) (r n : Nat) : mCn g r n ≤ n := by
  induction n with
  | zero => exact Nat.le_refl 0
  | succ n ih => simp only [mCn]; split <;> omega
theorem mCn_lt {g : Nat → Int32} {r w n : Nat} (hw : w < n) (h : (g (16 * r + w)).toInt < 0) : mCn g r n < n := by
  induction n with
  | zero => omega
  | succ n ih =>
    simp only [mCn]
    by_cases e : w = n
    · subst e
      rw [if_neg (by omega)]
      have := mCn_le g r w
      omega
    · have := ih (by omega)
      split <;> omega
theorem mCn_same {g g' : Nat → Int32} {r n : Nat} (h : ∀ w : Nat, w < n → g' (16 * r + w) = g (16 * r + w)) : mCn g' r n = mCn g r n := by
  induction n with
  | zero => rfl
  | succ n ih => simp only [mCn]; rw [ih (fun w hw => h w (by omega)), h n (by omega)]
theorem mCn_up {g : Nat → Int32} {r w n : Nat} {x : Int32} (hw : w < n) (h : (g (16 * r + w)).toInt < 0) (hx : 0 ≤ x.toInt) : mCn (upd g (16 * r + w) x) r n = mCn g r n + 1 := by
  induction n with
  | zero => omega
  | succ n ih =>
    simp only [mCn]
    by_cases e : w = n
    · subst e
      rw [mCn_same (g := g) (fun v hv => by simp only [upd]; rw [if_neg (by omega)])]
      rw [show upd g (16 * r + w) x (16 * r + w) = x from by simp [upd], if_pos hx, if_neg (by omega)]
    · rw [ih (by omega), show upd g (16 * r + w) x (16 * r + n) = g (16 * r + n) from by simp only [upd]; rw [if_neg (by omega)]]
      omega
theorem mR1.enter {G Y : Nat → Nat → Int32} {r0 w0 : Nat} {x z : Int32} (h : mR1 G) (hr : r0 < 8) (hw : w0 < 16) (hn : (G 30 (16 * r0 + w0)).toInt < 0) (hx : 0 ≤ x.toInt) (hz : z.toInt = (G 27 r0).toInt + 1) (a : Y 27 = upd (G 27) r0 z) (b : Y 30 = upd (G 30) (16 * r0 + w0) x) : mR1 Y := fun r h8 => by
  rw [a, b]
  by_cases e : r = r0
  · subst e
    rw [mCn_up hw hn hx, show upd (G 27) r z r = z from by simp [upd], hz, h r h8]
    omega
  · rw [show upd (G 27) r0 z r = G 27 r from by simp only [upd]; rw [if_neg e], mCn_same (g := G 30) (fun v hv => by simp only [upd]; rw [if_neg (by omega)])]
    exact h r h8
theorem mR3.race {F Fn : Nat → Int32} {G Y : Nat → Nat → Int32} {x y : Int32} (h : mR3 F G) (h0 : 0 ≤ (F 17).toInt) (a : Y 24 = upd (G 24) (Int32.toNatClampNeg (F 17)) x) (b : Y 26 = upd (G 26) (Int32.toNatClampNeg (F 17)) y) (hF : (Fn 17).toInt = (F 17).toInt + 1) (hx : x.toInt = 9 ∨ x.toInt = 10 ∨ 0 ≤ y.toInt) : mR3 Fn Y := fun r hr => by
  rw [a, b]
  by_cases e : r = Int32.toNatClampNeg (F 17)
  · simp only [upd, if_pos e]; exact hx
  · simp only [upd, if_neg e]
    refine h r ?_
    rw [mm_nat] at e
    omega
theorem num_11 : (11 : Int32).toInt = 11 := by decide
