/-- ahead in the order: a lower time, or the same and entered before -/
def oR (lo : Nat → Int) (x y : Nat) : Prop := lo x < lo y ∨ (lo x = lo y ∧ x < y)
/-- a sum over those below n that have a time -/
def cN (lo : Nat → Int) (g : Nat → Int) : Nat → Int
  | 0 => 0
  | n + 1 => cN lo g n + (if 0 ≤ lo n then g n else 0)
def oI (lo : Nat → Int) (x y : Nat) : Int := if lo x < lo y ∨ (lo x = lo y ∧ x < y) then 1 else 0
/-- how many are ahead of one -/
def aN (lo : Nat → Int) (x n : Nat) : Int := cN lo (fun t => oI lo t x) n
/-- those below n that have a time, in their order -/
def oS (lo : Nat → Int) (n : Nat) (l : Nat → Nat) (m : Nat) : Prop := (∀ p : Nat, p < m → l p < n ∧ 0 ≤ lo (l p)) ∧ (∀ p q : Nat, p < q → q < m → oR lo (l p) (l q)) ∧ (∀ x : Nat, x < n → 0 ≤ lo x → ∃ p : Nat, p < m ∧ l p = x) ∧ ∀ g : Nat → Int, cN lo g n = sumS (fun p => g (l p)) m
section OSS
variable {lo lo1 : Nat → Int} {n m a x : Nat} {l : Nat → Nat} {g h : Nat → Int}
theorem sumS_cg (e : ∀ p : Nat, p < m → g p = h p) : sumS g m = sumS h m := by
  induction m with
  | zero => rfl
  | succ m ih => simp only [sumS]; rw [ih (fun p hp => e p (by omega)), e m (by omega)]
theorem cN_cg (e : ∀ p : Nat, p < n → lo1 p = lo p) (f : ∀ p : Nat, p < n → 0 ≤ lo p → g p = h p) : cN lo1 g n = cN lo h n := by
  induction n with
  | zero => rfl
  | succ n ih =>
    simp only [cN]
    rw [ih (fun p hp => e p (by omega)) (fun p hp => f p (by omega)), e n (by omega)]
    by_cases c : 0 ≤ lo n
    · rw [if_pos c, if_pos c, f n (by omega) c]
    · rw [if_neg c, if_neg c]
def oIns (l : Nat → Nat) (a n : Nat) : Nat → Nat := fun p => if p < a then l p else if p = a then n else l (p - 1)
theorem sumS_ins (ha : a ≤ m) : sumS (fun p => g (oIns l a n p)) (m + 1) = sumS (fun p => g (l p)) m + g n := by
  induction m with
  | zero =>
    have : a = 0 := by omega
    subst this
    simp only [sumS, oIns]
    simp
  | succ m ih =>
    by_cases e : a = m + 1
    · subst e
      have q : sumS (fun p => g (oIns l (m + 1) n p)) (m + 1) = sumS (fun p => g (l p)) (m + 1) := sumS_cg (fun p hp => by show g (oIns l (m + 1) n p) = g (l p); unfold oIns; rw [if_pos hp])
      rw [sumS_s, q]
      show _ + g (oIns l (m + 1) n (m + 1)) = _
      unfold oIns
      rw [if_neg (by omega), if_pos rfl]
    · rw [sumS_s, ih (by omega)]
      show _ + g (oIns l a n (m + 1)) = _
      unfold oIns
      rw [if_neg (by omega), if_neg (by omega), show m + 1 - 1 = m from by omega, sumS_s]
      omega
theorem oS_0 : oS lo 0 l 0 := ⟨fun p hp => absurd hp (Nat.not_lt_zero p), fun p q _ hq => absurd hq (Nat.not_lt_zero q), fun x hx => absurd hx (Nat.not_lt_zero x), fun g => rfl⟩
theorem oS_skip (o : oS lo n l m) (c : lo n < 0) : oS lo (n + 1) l m := by
  obtain ⟨o1, o2, o3, o4⟩ := o
  refine ⟨fun p hp => ⟨by have := (o1 p hp).1; omega, (o1 p hp).2⟩, o2, fun x hx h0 => ?_, fun g => ?_⟩
  · by_cases e : x = n
    · subst e; omega
    · exact o3 x (by omega) h0
  · simp only [cN]
    rw [if_neg (by omega), o4 g]
    omega
theorem oS_ins (o : oS lo n l m) (c : 0 ≤ lo n) (ha : a ≤ m) (h1 : ∀ p : Nat, p < a → lo (l p) ≤ lo n) (h2 : ∀ p : Nat, a ≤ p → p < m → lo n < lo (l p)) : oS lo (n + 1) (oIns l a n) (m + 1) := by
  obtain ⟨o1, o2, o3, o4⟩ := o
  refine ⟨fun p hp => ?_, fun p q hpq hq => ?_, fun x hx h0 => ?_, fun g => ?_⟩
  · unfold oIns
    split
    · have := o1 p (by omega); exact ⟨by omega, this.2⟩
    · split
      · exact ⟨by omega, c⟩
      · have := o1 (p - 1) (by omega); exact ⟨by omega, this.2⟩
  · unfold oIns oR
    by_cases e1 : q < a
    · rw [if_pos e1, if_pos (by omega)]
      exact o2 p q hpq (by omega)
    · rw [if_neg e1]
      by_cases e2 : q = a
      · subst e2
        rw [if_pos rfl, if_pos hpq]
        have := h1 p hpq
        have := (o1 p (by omega)).1
        omega
      · rw [if_neg e2]
        by_cases e3 : p < a
        · rw [if_pos e3]
          by_cases e4 : p < q - 1
          · exact o2 p (q - 1) e4 (by omega)
          · omega
        · rw [if_neg e3]
          by_cases e4 : p = a
          · subst e4
            rw [if_pos rfl]
            exact Or.inl (h2 (q - 1) (by omega) (by omega))
          · rw [if_neg e4]
            exact o2 (p - 1) (q - 1) (by omega) (by omega)
  · by_cases e : x = n
    · subst e
      exact ⟨a, by omega, by unfold oIns; rw [if_neg (by omega), if_pos rfl]⟩
    · obtain ⟨p, hp, ep⟩ := o3 x (by omega) h0
      by_cases e2 : p < a
      · exact ⟨p, by omega, by unfold oIns; rw [if_pos e2]; exact ep⟩
      · exact ⟨p + 1, by omega, by unfold oIns; rw [if_neg (by omega), if_neg (by omega), show p + 1 - 1 = p from by omega]; exact ep⟩
  · simp only [cN]
    rw [if_pos c, o4 g, sumS_ins ha]
theorem sumS_lt {p : Nat} (hp : p ≤ m) : sumS (fun q => if q < p then 1 else 0) m = (p : Int) := by
  induction m generalizing p with
  | zero => simp only [sumS]; omega
  | succ m ih =>
    rw [sumS_s]
    by_cases e : p = m + 1
    · subst e
      have q : sumS (fun q => if q < m + 1 then (1 : Int) else 0) m = sumS (fun q => if q < m then (1 : Int) else 0) m := sumS_cg (fun q hq => by show (if q < m + 1 then (1 : Int) else 0) = (if q < m then (1 : Int) else 0); rw [if_pos (by omega), if_pos hq])
      rw [q, ih (Nat.le_refl m)]
      show (m : Int) + (if m < m + 1 then (1 : Int) else 0) = _
      rw [if_pos (by omega)]
      omega
    · rw [ih (by omega)]
      show (p : Int) + (if m < p then (1 : Int) else 0) = _
      rw [if_neg (by omega)]
      omega
/-- the place in the order is the number of those ahead -/
theorem oS_at (o : oS lo n l m) {p : Nat} (hp : p < m) : aN lo (l p) n = (p : Int) := by
  obtain ⟨o1, o2, o3, o4⟩ := o
  unfold aN
  rw [o4]
  rw [← sumS_lt (m := m) (p := p) (by omega)]
  refine sumS_cg (fun q hq => ?_)
  show oI lo (l q) (l p) = (if q < p then 1 else 0)
  unfold oI
  by_cases e : q < p
  · have this := o2 q p e hp
    unfold oR at this
    rw [if_pos e, if_pos this]
  · rw [if_neg e]
    by_cases e2 : q = p
    · subst e2
      rw [if_neg (by omega)]
    · have := o2 p q (by omega) hq
      unfold oR at this
      rw [if_neg (by omega)]
theorem aN_cg {y : Nat} (e : ∀ p : Nat, p < n → lo1 p = lo p) (hy : y < n) : aN lo1 y n = aN lo y n := by
  unfold aN
  refine cN_cg e (fun p hp _ => ?_)
  unfold oI
  rw [e p hp, e y hy]
/-- both ways of finding the one at a place -/
theorem oS_ord (o : oS lo n l m) (e : ∀ p : Nat, p < n → lo1 p = lo p) {k r1 r2 : Int} {rc : Nat → Int} (u : (r1 = -1 ∧ ∀ i : Nat, i < n → 0 ≤ lo1 i → ¬ aN lo1 i n = k) ∨ (∃ i : Nat, i < n ∧ 0 ≤ lo1 i ∧ aN lo1 i n = k ∧ r1 = rc i)) (v : (r2 = -1 ∧ ¬ (0 ≤ k ∧ k < (m : Int))) ∨ ((0 ≤ k ∧ k < (m : Int)) ∧ r2 = rc (l k.toNat))) : r1 = r2 := by
  rcases v with ⟨v1, v2⟩ | ⟨v1, v2⟩
  · rcases u with ⟨u1, -⟩ | ⟨i, hi, h0, hk, -⟩
    · omega
    · exfalso
      rw [aN_cg e hi] at hk
      rw [e i hi] at h0
      obtain ⟨p, hp, ep⟩ := o.2.2.1 i hi h0
      subst ep
      rw [oS_at o hp] at hk
      omega
  · have hk : k.toNat < m := by omega
    have q := o.1 k.toNat hk
    have at_ := oS_at o hk
    rcases u with ⟨-, u2⟩ | ⟨i, hi, h0, hki, u3⟩
    · exfalso
      refine u2 (l k.toNat) q.1 (by rw [e _ q.1]; exact q.2) ?_
      rw [aN_cg e q.1, at_]
      omega
    · rw [aN_cg e hi] at hki
      rw [e i hi] at h0
      obtain ⟨p, hp, ep⟩ := o.2.2.1 i hi h0
      subst ep
      rw [oS_at o hp] at hki
      rw [u3, v2, show k.toNat = p from by omega]
end OSS
