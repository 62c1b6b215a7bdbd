theorem plN_cg {Ga Gb : Nat → Nat → Int32} {r v n : Nat} {fl : Int} (h29 : Gb 29 = Ga 29) (hv : (Gb 46 (16 * r + v)).toInt = (Ga 46 (16 * r + v)).toInt ∧ (Gb 47 (16 * r + v)).toInt = (Ga 47 (16 * r + v)).toInt) (h : ∀ i : Nat, i < n → (Gb 46 (16 * r + (Ga 29 (16 * r + i)).toInt.toNat)).toInt = (Ga 46 (16 * r + (Ga 29 (16 * r + i)).toInt.toNat)).toInt ∧ (Gb 47 (16 * r + (Ga 29 (16 * r + i)).toInt.toNat)).toInt = (Ga 47 (16 * r + (Ga 29 (16 * r + i)).toInt.toNat)).toInt) : plN Gb fl r v n = plN Ga fl r v n := by
  induction n with
  | zero => rfl
  | succ n ih =>
    simp only [plN]
    rw [ih (fun i hi => h i (by omega)), h29, (h n (by omega)).1, (h n (by omega)).2, hv.1, hv.2]
/-- the points of a racer in a race -/
def cuP (G : Nat → Nat → Int32) (r v : Nat) : Int := if 21 - plN G 0 r v (G 27 r).toInt.toNat > 0 then 21 - plN G 0 r v (G 27 r).toInt.toNat else 0
/-- a racer's points out of the entries below i of a race -/
def cuR (G : Nat → Nat → Int32) (r : Nat) (v : Int) : Nat → Int
  | 0 => 0
  | i + 1 => cuR G r v i + (if (G 29 (16 * r + i)).toInt = v ∧ 0 ≤ (G 46 (wkI G r i)).toInt then cuP G r v.toNat else 0)
/-- a racer's points out of the races below r -/
def cuA (G : Nat → Nat → Int32) (v : Int) : Nat → Int
  | 0 => 0
  | r + 1 => cuA G v r + cuR G r v (G 27 r).toInt.toNat
/-- the place of x among the first n of c -/
def stF (c : Nat → Int) (x : Int) : Nat → Int
  | 0 => 1
  | n + 1 => stF c x n + (if c n > x then 1 else 0)
/-- a nation's starters, out of the first n racers -/
def srN (na c : Nat → Int) (o : Int) (ra : Nat) : Nat → Int
  | 0 => 2
  | n + 1 => srN na c o ra n + (if na n = o ∧ 0 < c n ∧ stF c (c n) ra ≤ 5 then 1 else 0)
section CUP
variable {G Ga Gb : Nat → Nat → Int32} {r i n : Nat} {v x y : Int} {na na1 c c1 : Nat → Int}
theorem plN_bd (fl : Int) (r v n : Nat) : 1 ≤ plN G fl r v n ∧ plN G fl r v n ≤ (n : Int) + 1 := by
  induction n with
  | zero => simp only [plN]; omega
  | succ n ih => simp only [plN]; split <;> omega
theorem plN_eq {fl : Int} {v : Nat} (h29 : Gb 29 = Ga 29) (h46 : Gb 46 = Ga 46) (h47 : Gb 47 = Ga 47) : plN Gb fl r v n = plN Ga fl r v n := by
  induction n with
  | zero => rfl
  | succ n ih => simp only [plN]; rw [ih, h29, h46, h47]
theorem cuP_bd (r v : Nat) : 0 ≤ cuP G r v ∧ cuP G r v ≤ 20 := by
  have := plN_bd (G := G) 0 r v (G 27 r).toInt.toNat
  unfold cuP
  split <;> omega
theorem cuR_bd (r i : Nat) (v : Int) : 0 ≤ cuR G r v i ∧ cuR G r v i ≤ 20 * (i : Int) := by
  induction i with
  | zero => simp only [cuR]; omega
  | succ i ih =>
    have := cuP_bd (G := G) r v.toNat
    simp only [cuR]
    split <;> omega
theorem cuA_bd (h : ∀ r : Nat, (G 27 r).toInt ≤ 16) (n : Nat) (v : Int) : 0 ≤ cuA G v n ∧ cuA G v n ≤ 320 * (n : Int) := by
  induction n with
  | zero => simp only [cuA]; omega
  | succ n ih =>
    have := cuR_bd (G := G) n (G 27 n).toInt.toNat v
    have := h n
    simp only [cuA]
    omega
theorem cuR_skip (h : (G 46 (wkI G r i)).toInt < 0) : cuR G r v (i + 1) = cuR G r v i := by
  simp only [cuR]
  rw [if_neg (fun z => by have := z.2; omega)]
  omega
theorem cuR_oth (h : ¬ (G 29 (16 * r + i)).toInt = v) : cuR G r v (i + 1) = cuR G r v i := by
  simp only [cuR]
  rw [if_neg (fun z => h z.1)]
  omega
theorem cuR_own (h : (G 29 (16 * r + i)).toInt = v) (h0 : 0 ≤ (G 46 (wkI G r i)).toInt) (hp : plN G 0 r v.toNat (G 27 r).toInt.toNat = x) (hy : (y = 0 ∧ 21 - x ≤ 0) ∨ (y = 21 - x ∧ 0 < 21 - x)) : cuR G r v (i + 1) = cuR G r v i + y := by
  simp only [cuR]
  rw [if_pos ⟨h, h0⟩]
  unfold cuP
  rw [hp]
  split <;> omega
theorem cuA_s : cuA G v (r + 1) = cuA G v r + cuR G r v (G 27 r).toInt.toNat := rfl
theorem cuR_cg (h27 : Gb 27 = Ga 27) (h29 : Gb 29 = Ga 29) (h : ∀ j : Nat, (j : Int) < (Ga 27 r).toInt → (Gb 46 (wkI Ga r j)).toInt = (Ga 46 (wkI Ga r j)).toInt ∧ (Gb 47 (wkI Ga r j)).toInt = (Ga 47 (wkI Ga r j)).toInt) (hi : (i : Int) ≤ (Ga 27 r).toInt) : cuR Gb r v i = cuR Ga r v i := by
  induction i with
  | zero => rfl
  | succ i ih =>
    simp only [cuR]
    rw [ih (by omega), h29]
    have q := h i (by omega)
    have e : wkI Gb r i = wkI Ga r i := by unfold wkI; rw [h29]
    rw [e, q.1]
    by_cases c : (Ga 29 (16 * r + i)).toInt = v ∧ 0 ≤ (Ga 46 (wkI Ga r i)).toInt
    · rw [if_pos c, if_pos c]
      unfold cuP
      rw [h27, plN_cg (Ga := Ga) (Gb := Gb) h29 (by rw [← c.1]; exact q) (fun j hj => h j (by omega))]
    · rw [if_neg c, if_neg c]
theorem cuA_cg (h27 : Gb 27 = Ga 27) (h29 : Gb 29 = Ga 29) (h0 : ∀ j : Nat, j < n → 0 ≤ (Ga 27 j).toInt) (h : ∀ r j : Nat, r < n → (j : Int) < (Ga 27 r).toInt → (Gb 46 (wkI Ga r j)).toInt = (Ga 46 (wkI Ga r j)).toInt ∧ (Gb 47 (wkI Ga r j)).toInt = (Ga 47 (wkI Ga r j)).toInt) : cuA Gb v n = cuA Ga v n := by
  induction n with
  | zero => rfl
  | succ n ih =>
    have q0 := h0 n (by omega)
    rw [cuA_s, cuA_s, ih (fun j hj => h0 j (by omega)) (fun r j hr hj => h r j (by omega) hj), h27, cuR_cg h27 h29 (fun j hj => h n j (by omega) hj) (by omega)]
theorem stF_cg (h : ∀ j : Nat, j < n → c1 j = c j) : stF c1 x n = stF c x n := by
  induction n with
  | zero => rfl
  | succ n ih => simp only [stF]; rw [ih (fun j hj => h j (by omega)), h n (by omega)]
end CUP
