def mF0 : Nat → Int32 := fun k => if k = 14 then -1 else 0
def mG0 (fw fe : Nat → Int32) : Nat → Nat → Int32 := fun k => if k = 38 then fw else if k = 30 then fe else fun _ => 0
theorem mW0 (h0 : Nat) (q : Nat → Nat) (cq : Nat → ClassId) (fw fe : Nat → Int32) : mWi h0 q cq fw fe = mW h0 q cq mF0 (mG0 fw fe) := rfl
theorem mI0 {fw fe : Nat → Int32} (hw : ∀ j : Nat, fw j = if j < 62 then mwl.getD j 0 else 0) (he : ∀ j : Nat, fe j = if j < 128 then (-1 : Int32) else 0) : mI mF0 (mG0 fw fe) := by
  refine ⟨fun k b h => ?_, fun k b h j => ?_, fun j => ?_⟩
  · by_cases e1 : k = 1
    · subst e1
      cases (show some ((0 : Int), (1000 : Int)) = some b from h)
      show (0 : Int) ≤ Int32.toInt 0 ∧ Int32.toInt 0 ≤ 1000
      decide
    by_cases e3 : k = 3
    · subst e3
      cases (show some ((0 : Int), (200 : Int)) = some b from h)
      show (0 : Int) ≤ Int32.toInt 0 ∧ Int32.toInt 0 ≤ 200
      decide
    by_cases e15 : k = 15
    · subst e15
      cases (show some ((0 : Int), (16 : Int)) = some b from h)
      show (0 : Int) ≤ Int32.toInt 0 ∧ Int32.toInt 0 ≤ 16
      decide
    by_cases e17 : k = 17
    · subst e17
      cases (show some ((0 : Int), (8 : Int)) = some b from h)
      show (0 : Int) ≤ Int32.toInt 0 ∧ Int32.toInt 0 ≤ 8
      decide
    by_cases e31 : k = 31
    · subst e31
      cases (show some ((0 : Int), (400 : Int)) = some b from h)
      show (0 : Int) ≤ Int32.toInt 0 ∧ Int32.toInt 0 ≤ 400
      decide
    by_cases e39 : k = 39
    · subst e39
      cases (show some ((0 : Int), (1000 : Int)) = some b from h)
      show (0 : Int) ≤ Int32.toInt 0 ∧ Int32.toInt 0 ≤ 1000
      decide
    by_cases e40 : k = 40
    · subst e40
      cases (show some ((0 : Int), (1000 : Int)) = some b from h)
      show (0 : Int) ≤ Int32.toInt 0 ∧ Int32.toInt 0 ≤ 1000
      decide
    by_cases e41 : k = 41
    · subst e41
      cases (show some ((0 : Int), (5 : Int)) = some b from h)
      show (0 : Int) ≤ Int32.toInt 0 ∧ Int32.toInt 0 ≤ 5
      decide
    by_cases e43 : k = 43
    · subst e43
      cases (show some ((0 : Int), (1000 : Int)) = some b from h)
      show (0 : Int) ≤ Int32.toInt 0 ∧ Int32.toInt 0 ≤ 1000
      decide
    exact absurd h (by simp [mfb, e1, e3, e15, e17, e31, e39, e40, e41, e43])
  · by_cases e6 : k = 6
    · subst e6
      cases (show some ((0 : Int), (4 : Int)) = some b from h)
      show (0 : Int) ≤ Int32.toInt 0 ∧ Int32.toInt 0 ≤ 4
      decide
    by_cases e20 : k = 20
    · subst e20
      cases (show some ((0 : Int), (4 : Int)) = some b from h)
      show (0 : Int) ≤ Int32.toInt 0 ∧ Int32.toInt 0 ≤ 4
      decide
    by_cases e27 : k = 27
    · subst e27
      cases (show some ((0 : Int), (16 : Int)) = some b from h)
      show (0 : Int) ≤ Int32.toInt 0 ∧ Int32.toInt 0 ≤ 16
      decide
    by_cases e29 : k = 29
    · subst e29
      cases (show some ((0 : Int), (15 : Int)) = some b from h)
      show (0 : Int) ≤ Int32.toInt 0 ∧ Int32.toInt 0 ≤ 15
      decide
    by_cases e50 : k = 50
    · subst e50
      cases (show some ((0 : Int), (15 : Int)) = some b from h)
      show (0 : Int) ≤ Int32.toInt 0 ∧ Int32.toInt 0 ≤ 15
      decide
    by_cases e26 : k = 26
    · subst e26
      cases (show some ((-1 : Int), (7 : Int)) = some b from h)
      show (-1 : Int) ≤ Int32.toInt 0 ∧ Int32.toInt 0 ≤ 7
      decide
    by_cases e30 : k = 30
    · subst e30
      cases (show some ((-1 : Int), (15 : Int)) = some b from h)
      show (-1 : Int) ≤ (fe j).toInt ∧ (fe j).toInt ≤ 15
      rw [he j]
      split <;> decide
    exact absurd h (by simp [mab, e6, e20, e27, e29, e50, e26, e30])
  · show fw j = _
    rw [hw j]
    split
    · rfl
    · rename_i hj
      rw [show mwl.getD j 0 = (0 : Int32) from by simp [List.getD, List.getElem?_eq_none (show mwl.length ≤ j from by show (62 : Nat) ≤ j; omega)]]
theorem mCn0 {g : Nat → Int32} {r n : Nat} (h : ∀ w : Nat, w < n → (g (16 * r + w)).toInt < 0) : mCn g r n = 0 := by
  induction n with
  | zero => rfl
  | succ n ih =>
    simp only [mCn]
    rw [ih (fun w hw => h w (by omega)), if_neg (by have := h n (by omega); omega)]
theorem mR10 {fw fe : Nat → Int32} (he : ∀ j : Nat, fe j = if j < 128 then (-1 : Int32) else 0) : mR1 (mG0 fw fe) := fun r hr => by
  show Int32.toInt 0 = ((mCn fe r 16 : Nat) : Int)
  rw [mCn0 (fun w hw => by rw [he, if_pos (by omega)]; decide)]
  decide
theorem mR20 {fw fe : Nat → Int32} : mR2 (mG0 fw fe) := fun j _ h => absurd (show Int32.toInt 0 = 0 by decide) h
theorem mR30 {fw fe : Nat → Int32} : mR3 mF0 (mG0 fw fe) := fun r hr => by
  have h0 : (mF0 17).toInt = 0 := by decide
  rw [h0] at hr
  omega
