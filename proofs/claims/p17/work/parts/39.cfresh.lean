def cK0 (h0 qT qF qN qR : Nat) : Nat → Nat := fun a => if a = h0 then 5 else if a = qT then 10 else if a = qF then 14 else if a = qN then 11 else if a = qR then 12 else 13
def cI0 (h0 : Nat) : Nat → Nat → Int32 := fun a k => if a = h0 ∧ k = 5 then -1 else 0
def cO0 (h0 qT qF qN qR qC : Nat) : Nat → Nat → Option Nat := fun a k => if a = h0 then (if k = 0 then some qT else if k = 2 then some qF else if k = 7 then some qN else if k = 9 then some qR else if k = 12 then some qC else none) else none
section CF0
variable {cA : Nat → ClassId} {h0 qT qF qN qR qC : Nat}
theorem cw0 (d1 : qT ≠ h0) (d2 : qF ≠ h0) (d3 : qN ≠ h0) (d4 : qR ≠ h0) (d5 : qC ≠ h0) (d6 : qF ≠ qT) (d7 : qN ≠ qT) (d8 : qR ≠ qT) (d9 : qC ≠ qT) (d10 : qN ≠ qF) (d11 : qR ≠ qF) (d12 : qC ≠ qF) (d13 : qR ≠ qN) (d14 : qC ≠ qN) (d15 : qC ≠ qR) :
    cW cA [h0, qT, qF, qN, qR, qC] (cK0 h0 qT qF qN qR) (cI0 h0) (cO0 h0 qT qF qN qR qC) = [(h0, .inr (5, [.ref qT, .int 0, .ref qF, .int 0, .int 0, .int (-1), .int 0, .ref qN, .int 0, .ref qR, .int 0, .int 0, .ref qC])), (qT, .inl (cA 10, 1000, .inl (fun _ => 0))), (qF, .inl (cA 14, 8, .inr (.inr (.inr (.inr (fun _ => none)))))), (qN, .inl (cA 11, 16, .inl (fun _ => 0))), (qR, .inl (cA 12, 8, .inr (.inr (.inr (.inr (fun _ => none)))))), (qC, .inl (cA 11, 16, .inl (fun _ => 0)))] := by
  have k1 : cK0 h0 qT qF qN qR h0 = 5 := by simp [cK0]
  have k2 : cK0 h0 qT qF qN qR qT = 10 := by simp [cK0, d1]
  have k3 : cK0 h0 qT qF qN qR qF = 14 := by simp [cK0, d2, d6]
  have k4 : cK0 h0 qT qF qN qR qN = 11 := by simp [cK0, d3, d7, d10]
  have k5 : cK0 h0 qT qF qN qR qR = 12 := by simp [cK0, d4, d8, d11, d13]
  have k6 : cK0 h0 qT qF qN qR qC = 13 := by simp [cK0, d5, d9, d12, d14, d15]
  have i0 : ∀ a, a ≠ h0 → cI0 h0 a = fun _ => 0 := fun a ha => funext fun k => by simp [cI0, ha]
  have o0 : ∀ a, a ≠ h0 → cO0 h0 qT qF qN qR qC a = fun _ => none := fun a ha => funext fun k => by simp [cO0, ha]
  have e1 : cE cA 5 (cI0 h0 h0) (cO0 h0 qT qF qN qR qC h0) = .inr (5, [.ref qT, .int 0, .ref qF, .int 0, .int 0, .int (-1), .int 0, .ref qN, .int 0, .ref qR, .int 0, .int 0, .ref qC]) := by simp [cE, cfs, cI0, cO0, va_rf]
  simp only [cW, va_pl, List.map_cons, List.map_nil, k1, k2, k3, k4, k5, k6, i0 _ d1, i0 _ d2, i0 _ d3, i0 _ d4, i0 _ d5, o0 _ d1, o0 _ d2, o0 _ d3, o0 _ d4, o0 _ d5, e1]
  rfl
theorem cI00 (d1 : qT ≠ h0) (d2 : qF ≠ h0) (d3 : qN ≠ h0) (d4 : qR ≠ h0) (d5 : qC ≠ h0) (d6 : qF ≠ qT) (d7 : qN ≠ qT) (d8 : qR ≠ qT) (d9 : qC ≠ qT) (d10 : qN ≠ qF) (d11 : qR ≠ qF) (d12 : qC ≠ qF) (d13 : qR ≠ qN) (d14 : qC ≠ qN) (d15 : qC ≠ qR) :
    cI [h0, qT, qF, qN, qR, qC] (cK0 h0 qT qF qN qR) (cI0 h0) (cO0 h0 qT qF qN qR qC) := by
  have k1 : cK0 h0 qT qF qN qR h0 = 5 := by simp [cK0]
  have k2 : cK0 h0 qT qF qN qR qT = 10 := by simp [cK0, d1]
  have k3 : cK0 h0 qT qF qN qR qF = 14 := by simp [cK0, d2, d6]
  have k4 : cK0 h0 qT qF qN qR qN = 11 := by simp [cK0, d3, d7, d10]
  have k5 : cK0 h0 qT qF qN qR qR = 12 := by simp [cK0, d4, d8, d11, d13]
  have k6 : cK0 h0 qT qF qN qR qC = 13 := by simp [cK0, d5, d9, d12, d14, d15]
  have arrs : ∀ a κ, a ≠ h0 → cK0 h0 qT qF qN qR a = κ → (∀ k, cib κ k = none) → (∀ k, cnn κ k = false) → κ ≠ 1 ∧ κ ≠ 3 ∧ κ ≠ 4 ∧ κ ≠ 5 → (∀ k b, cib (cK0 h0 qT qF qN qR a) k = some b → b.1 ≤ (cI0 h0 a k).toInt ∧ (cI0 h0 a k).toInt ≤ b.2) ∧ (∀ k κ' b, crt (cK0 h0 qT qF qN qR a) k = some κ' → cO0 h0 qT qF qN qR qC a k = some b → b ∈ [h0, qT, qF, qN, qR, qC] ∧ cK0 h0 qT qF qN qR b = κ') ∧ (∀ k, cnn (cK0 h0 qT qF qN qR a) k = true → cO0 h0 qT qF qN qR qC a k ≠ none) ∧ cS [h0, qT, qF, qN, qR, qC] (cK0 h0 qT qF qN qR a) a (cI0 h0 a) (cO0 h0 qT qF qN qR qC) := fun a κ ha hk hb hn hs => by
    rw [hk]
    refine And.intro (fun k b h => ?_) (And.intro (fun k κ' b _ h => ?_) (And.intro (fun k h => ?_) (cS.arr hs)))
    · rw [hb] at h; cases h
    · simp [cO0, ha] at h
    · rw [hn] at h; cases h
  intro a ha
  rcases List.mem_cons.mp ha with rfl | ha
  · rw [k1]
    refine And.intro (fun k b h => ?_) (And.intro (fun k κ' b h1 h => ?_) (And.intro (fun k h => ?_) ⟨fun q => (by cases q), fun q => (by cases q), fun _ => trivial, fun _ b _ j hj => ?_⟩))
    · by_cases e : k = 5
      · subst e; cases (show none = some b from h)
      · have := cib0 5 k b h
        simp only [cI0, e, and_false, if_false]
        rw [mm_z0]; exact this
    · by_cases e0 : k = 0
      · subst e0
        cases (show some 10 = some κ' from h1)
        simp [cO0] at h
        subst h
        exact ⟨by simp, k2⟩
      by_cases e2 : k = 2
      · subst e2
        cases (show some 14 = some κ' from h1)
        simp [cO0] at h
        subst h
        exact ⟨by simp, k3⟩
      by_cases e7 : k = 7
      · subst e7
        cases (show some 11 = some κ' from h1)
        simp [cO0] at h
        subst h
        exact ⟨by simp, k4⟩
      by_cases e9 : k = 9
      · subst e9
        cases (show some 12 = some κ' from h1)
        simp [cO0] at h
        subst h
        exact ⟨by simp, k5⟩
      by_cases e12 : k = 12
      · subst e12
        cases (show some 13 = some κ' from h1)
        simp [cO0] at h
        subst h
        exact ⟨by simp, k6⟩
      simp [cO0, e0, e2, e7, e9, e12] at h
    · have hk2 : k = 0 ∨ k = 2 ∨ k = 7 ∨ k = 9 ∨ k = 12 := by simpa [cnn] using h
      rcases hk2 with rfl | rfl | rfl | rfl | rfl <;> simp [cO0]
    · have hz : (cI0 a a 10).toInt = 0 := by
        have : cI0 a a 10 = 0 := by simp [cI0]
        rw [this]; decide
      rw [hz] at hj
      omega
  rcases List.mem_cons.mp ha with rfl | ha
  · exact arrs _ 10 d1 k2 (fun _ => rfl) (fun _ => rfl) (by decide)
  rcases List.mem_cons.mp ha with rfl | ha
  · exact arrs _ 14 d2 k3 (fun _ => rfl) (fun _ => rfl) (by decide)
  rcases List.mem_cons.mp ha with rfl | ha
  · exact arrs _ 11 d3 k4 (fun _ => rfl) (fun _ => rfl) (by decide)
  rcases List.mem_cons.mp ha with rfl | ha
  · exact arrs _ 12 d4 k5 (fun _ => rfl) (fun _ => rfl) (by decide)
  rcases List.mem_cons.mp ha with rfl | ha
  · exact arrs _ 13 d5 k6 (fun _ => rfl) (fun _ => rfl) (by decide)
  cases ha
end CF0
