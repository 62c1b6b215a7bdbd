theorem plN_cg {Ga Gb : Nat → Nat → Int32} {r v n : Nat} {fl : Int} (h29 : Gb 29 = Ga 29) (hv : (Gb 46 (16 * r + v)).toInt = (Ga 46 (16 * r + v)).toInt ∧ (Gb 47 (16 * r + v)).toInt = (Ga 47 (16 * r + v)).toInt) (h : ∀ i : Nat, i < n → (Gb 46 (16 * r + (Ga 29 (16 * r + i)).toInt.toNat)).toInt = (Ga 46 (16 * r + (Ga 29 (16 * r + i)).toInt.toNat)).toInt ∧ (Gb 47 (16 * r + (Ga 29 (16 * r + i)).toInt.toNat)).toInt = (Ga 47 (16 * r + (Ga 29 (16 * r + i)).toInt.toNat)).toInt) : plN Gb fl r v n = plN Ga fl r v n := by
  induction n with
  | zero => rfl
  | succ n ih =>
    simp only [plN]
    rw [ih (fun i hi => h i (by omega)), h29, (h n (by omega)).1, (h n (by omega)).2, hv.1, hv.2]
section CUP
variable {G Ga Gb : Nat → Nat → Int32} {r i n : Nat} {v x y : Int} {na na1 c c1 : Nat → Int}
end CUP
