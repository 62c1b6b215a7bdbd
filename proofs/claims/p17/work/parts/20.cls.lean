def cfs (κ : Nat) (i : Nat → Int32) (o : Nat → Option Nat) : List Value := if κ = 0 then [.int (i 0), va_rf (o 1), .int (i 2), .int (i 3), .int (i 4), .int (i 5), .int (i 6), .int (i 7), .int (i 8), .int (i 9)] else if κ = 1 then [.int (i 0), .int (i 1), .int (i 2), .int (i 3), va_rf (o 4)] else if κ = 2 then [.int (i 0), .int (i 1), .int (i 2), .int (i 3), .int (i 4), .int (i 5), .int (i 6), .int (i 7)] else if κ = 3 then [va_rf (o 0), va_rf (o 1), .int (i 2), va_rf (o 3), .int (i 4), .int (i 5), .int (i 6)] else if κ = 4 then [va_rf (o 0), .int (i 1), va_rf (o 2), .int (i 3), .int (i 4), .int (i 5), .int (i 6), .int (i 7), .int (i 8), .int (i 9)] else if κ = 5 then [va_rf (o 0), .int (i 1), va_rf (o 2), .int (i 3), .int (i 4), .int (i 5), .int (i 6), va_rf (o 7), .int (i 8), va_rf (o 9), .int (i 10), .int (i 11), va_rf (o 12)] else  []
def cE (cA : Nat → ClassId) (κ : Nat) (i : Nat → Int32) (o : Nat → Option Nat) : va_E := if κ = 0 then .inr (0, cfs 0 i o) else if κ = 1 then .inr (1, cfs 1 i o) else if κ = 2 then .inr (2, cfs 2 i o) else if κ = 3 then .inr (3, cfs 3 i o) else if κ = 4 then .inr (4, cfs 4 i o) else if κ = 5 then .inr (5, cfs 5 i o) else if κ = 23 then .inr (3, cfs 3 i o) else if κ = 24 then .inr (4, cfs 4 i o) else if κ = 25 then .inr (5, cfs 5 i o) else if κ = 10 then .inl (cA 10, 1000, .inl i) else if κ = 11 then .inl (cA 11, 16, .inl i) else if κ = 12 then .inl (cA 12, 8, .inr (.inr (.inr (.inr o)))) else if κ = 13 then .inl (cA 11, 16, .inl i) else if κ = 14 then .inl (cA 14, 8, .inr (.inr (.inr (.inr o)))) else if κ = 15 then .inl (cA 15, 16, .inr (.inr (.inr (.inr o)))) else  .inl (cA 11, 0, .inl i)
def cW (cA : Nat → ClassId) (L : List Nat) (K : Nat → Nat) (I : Nat → Nat → Int32) (O : Nat → Nat → Option Nat) : va_W := va_pl L (fun a => cE cA (K a) (I a) (O a))
def cT (cA : Nat → ClassId) : List (ClassId × FieldType) := [(cA 10, .byte), (cA 11, .int), (cA 12, .object RX3), (cA 14, .object RX2), (cA 15, .object RX0)]
def cibL : List (Nat × Nat × Int × Int) := [(0, 0, 0, 15), (3, 4, 0, 16), (4, 1, 0, 1000), (4, 6, 0, 4), (4, 7, 0, 1000), (4, 8, 0, 1000), (5, 1, 0, 1000), (5, 6, 0, 200), (5, 8, 0, 16), (5, 10, 0, 8), (5, 11, 0, 400), (23, 4, 0, 16), (24, 1, 0, 1000), (24, 6, 0, 4), (24, 7, 0, 1000), (24, 8, 0, 1000), (25, 1, 0, 1000), (25, 6, 0, 200), (25, 8, 0, 16), (25, 10, 0, 8), (25, 11, 0, 400)]
def cib (κ k : Nat) : Option (Int × Int) := (cibL.find? (fun x => x.1 == κ && x.2.1 == k)).map (fun x => x.2.2)
def crtL : List (Nat × Nat × Nat) := [(0, 1, 1), (1, 4, 1), (3, 0, 2), (3, 1, 3), (3, 3, 15), (4, 0, 10), (4, 2, 14), (5, 0, 10), (5, 2, 14), (5, 7, 11), (5, 9, 12), (5, 12, 13), (23, 0, 2), (23, 1, 3), (23, 3, 15), (24, 0, 10), (24, 2, 14), (25, 0, 10), (25, 2, 14), (25, 7, 11), (25, 9, 12), (25, 12, 13)]
def crt (κ k : Nat) : Option Nat := if κ = 12 then some 3 else if κ = 14 then some 2 else if κ = 15 then some 0 else  (crtL.find? (fun x => x.1 == κ && x.2.1 == k)).map (fun x => x.2.2)
def cnn (κ k : Nat) : Bool := ([(3, 0), (3, 3), (4, 0), (4, 2), (5, 0), (5, 2), (5, 7), (5, 9), (5, 12)] : List (Nat × Nat)).contains (κ, k)
def crk : List Nat → Nat → Nat
  | [], _ => 0
  | x :: t, a => if x = a then 0 else crk t a + 1
theorem crk_app {L M : List Nat} {a : Nat} (h : a ∈ L) : crk (L ++ M) a = crk L a := by
  induction L with
  | nil => cases h
  | cons x t ih =>
    by_cases e : x = a
    · simp [crk, e]
    · have h2 : a ∈ t := by
        rcases List.mem_cons.mp h with q | q
        · exact absurd q.symm e
        · exact q
      simp only [List.cons_append, crk, if_neg e, ih h2]
theorem crk_lt {L : List Nat} {a : Nat} (h : a ∈ L) : crk L a < L.length := by
  induction L with
  | nil => cases h
  | cons x t ih =>
    by_cases e : x = a
    · simp [crk, e]
    · have h2 : a ∈ t := by
        rcases List.mem_cons.mp h with q | q
        · exact absurd q.symm e
        · exact q
      have := ih h2
      simp only [crk, if_neg e, List.length_cons]
      omega
theorem crk_new {L : List Nat} {q : Nat} (h : q ∉ L) : crk (L ++ [q]) q = L.length := by
  induction L with
  | nil => simp [crk]
  | cons x t ih =>
    have e : x ≠ q := fun z => h (z ▸ List.mem_cons_self)
    have h2 : q ∉ t := fun z => h (List.mem_cons_of_mem _ z)
    simp only [List.cons_append, crk, if_neg e, ih h2, List.length_cons]
def cS (L : List Nat) (κ a : Nat) (i : Nat → Int32) (O : Nat → Nat → Option Nat) : Prop :=
  (κ = 1 → ∀ b, O a 4 = some b → crk L b < crk L a) ∧ (κ = 3 → ∀ b, O a 3 = some b → ∀ j : Nat, (j : Int) < (i 4).toInt → O b j ≠ none) ∧ (κ = 4 → True) ∧ (κ = 5 → ∀ b, O a 9 = some b → ∀ j : Nat, (j : Int) < (i 10).toInt → O b j ≠ none)
def cI (L : List Nat) (K : Nat → Nat) (I : Nat → Nat → Int32) (O : Nat → Nat → Option Nat) : Prop := ∀ a, a ∈ L → (∀ k b, cib (K a) k = some b → b.1 ≤ (I a k).toInt ∧ (I a k).toInt ≤ b.2) ∧ (∀ k κ b, crt (K a) k = some κ → O a k = some b → b ∈ L ∧ K b = κ) ∧ (∀ k, cnn (K a) k = true → O a k ≠ none) ∧ cS L (K a) a (I a) O
def cin (W : List (Nat × Nat)) (κ k : Nat) : Bool := W.contains (κ, if 10 ≤ κ ∧ κ < 20 then 0 else k)
def cFr (xs : List Nat) (WI WO : List (Nat × Nat)) (L0 : List Nat) (K0 : Nat → Nat) (I0 : Nat → Nat → Int32) (O0 : Nat → Nat → Option Nat) (L : List Nat) (K : Nat → Nat) (I : Nat → Nat → Int32) (O : Nat → Nat → Option Nat) : Prop := ∀ a, a ∈ L0 → a ∉ xs → a ∈ L ∧ K a = K0 a ∧ (∀ k, cin WI (K0 a) k = false → I a k = I0 a k) ∧ ∀ k, cin WO (K0 a) k = false → O a k = O0 a k
theorem cFr.rf {xs : List Nat} {WI WO : List (Nat × Nat)} {L : List Nat} {K : Nat → Nat} {I : Nat → Nat → Int32} {O : Nat → Nat → Option Nat} : cFr xs WI WO L K I O L K I O := fun _ h _ => ⟨h, rfl, fun _ _ => rfl, fun _ _ => rfl⟩
section CF
variable {xs : List Nat} {WI WO : List (Nat × Nat)} {L0 L : List Nat} {K0 K : Nat → Nat} {I0 I : Nat → Nat → Int32} {O0 O : Nat → Nat → Option Nat} {a k κ : Nat} {v : Int32} {w : Option Nat}
theorem cFr.puti (h : cFr xs WI WO L0 K0 I0 O0 L K I O) (hW : a ∉ L0 ∨ a ∈ xs ∨ cin WI (K a) k = true) : cFr xs WI WO L0 K0 I0 O0 L K (va_up I a (upd (I a) k v)) O := fun x h1 h2 => by
  obtain ⟨g1, g2, g3, g4⟩ := h x h1 h2
  refine ⟨g1, g2, fun j hj => ?_, g4⟩
  by_cases e : x = a
  · subst e
    rw [va_up_self]
    have hW : cin WI (K x) k = true := by
      rcases hW with hW | hW | hW
      · exact absurd h1 hW
      · exact absurd hW h2
      · exact hW
    have e2 : j ≠ k := fun q => by rw [q, ← g2, hW] at hj; cases hj
    simp only [upd, if_neg e2]
    exact g3 j hj
  · rw [va_up_ne _ _ e]; exact g3 j hj
theorem cFr.puto (h : cFr xs WI WO L0 K0 I0 O0 L K I O) (hW : a ∉ L0 ∨ a ∈ xs ∨ cin WO (K a) k = true) : cFr xs WI WO L0 K0 I0 O0 L K I (va_up O a (va_up (O a) k w)) := fun x h1 h2 => by
  obtain ⟨g1, g2, g3, g4⟩ := h x h1 h2
  refine ⟨g1, g2, g3, fun j hj => ?_⟩
  by_cases e : x = a
  · subst e
    rw [va_up_self]
    have hW : cin WO (K x) k = true := by
      rcases hW with hW | hW | hW
      · exact absurd h1 hW
      · exact absurd hW h2
      · exact hW
    have e2 : j ≠ k := fun q => by rw [q, ← g2, hW] at hj; cases hj
    rw [va_up_ne _ _ e2]
    exact g4 j hj
  · rw [va_up_ne _ _ e]; exact g4 j hj
theorem cFr.new (h : cFr xs WI WO L0 K0 I0 O0 L K I O) (ha : a ∉ L) {i : Nat → Int32} {o : Nat → Option Nat} : cFr xs WI WO L0 K0 I0 O0 (L ++ [a]) (va_up K a κ) (va_up I a i) (va_up O a o) := fun x h1 h2 => by
  obtain ⟨g1, g2, g3, g4⟩ := h x h1 h2
  have e : x ≠ a := fun q => ha (q ▸ g1)
  rw [va_up_ne _ _ e, va_up_ne _ _ e, va_up_ne _ _ e]
  exact ⟨List.mem_append_left _ g1, g2, g3, g4⟩
theorem cFr.ret (h : cFr xs WI WO L0 K0 I0 O0 L K I O) (ha : a ∉ L0 ∨ a ∈ xs) : cFr xs WI WO L0 K0 I0 O0 L (va_up K a κ) I O := fun x h1 h2 => by
  obtain ⟨g1, g2, g3, g4⟩ := h x h1 h2
  have e : x ≠ a := fun q => by
    subst q
    rcases ha with ha | ha
    · exact ha h1
    · exact h2 ha
  rw [va_up_ne _ _ e]
  exact ⟨g1, g2, g3, g4⟩
theorem cin_sub {W1 W : List (Nat × Nat)} (h : ∀ x ∈ W1, x ∈ W) {κ k : Nat} (hc : cin W κ k = false) : cin W1 κ k = false := by
  unfold cin at hc ⊢
  cases hb : W1.contains (κ, if 10 ≤ κ ∧ κ < 20 then 0 else k) with
  | false => rfl
  | true =>
    have h1 := List.contains_iff_mem.mp hb
    have h2 : W.contains (κ, if 10 ≤ κ ∧ κ < 20 then 0 else k) = true := List.contains_iff_mem.mpr (h _ h1)
    rw [h2] at hc
    cases hc
theorem cFr.tr {ys : List Nat} {WI1 WO1 : List (Nat × Nat)} {L1 : List Nat} {K1 : Nat → Nat} {I1 : Nat → Nat → Int32} {O1 : Nat → Nat → Option Nat} (h : cFr xs WI WO L0 K0 I0 O0 L K I O) (h1 : cFr ys WI1 WO1 L K I O L1 K1 I1 O1) (hy : ∀ y ∈ ys, y ∉ L0 ∨ y ∈ xs) (a1 : ∀ x ∈ WI1, x ∈ WI) (a2 : ∀ x ∈ WO1, x ∈ WO) : cFr xs WI WO L0 K0 I0 O0 L1 K1 I1 O1 := fun x hx h2 => by
  obtain ⟨g1, g2, g3, g4⟩ := h x hx h2
  have e : x ∉ ys := fun q => by
    rcases hy x q with z | z
    · exact z hx
    · exact h2 z
  obtain ⟨f1, f2, f3, f4⟩ := h1 x g1 e
  refine ⟨f1, f2.trans g2, fun k hk => ?_, fun k hk => ?_⟩
  · rw [f3 k (by rw [g2]; exact cin_sub a1 hk)]; exact g3 k hk
  · rw [f4 k (by rw [g2]; exact cin_sub a2 hk)]; exact g4 k hk
theorem cI.puti (h : cI L K I O) (ha : a ∈ L) (hb : ∀ b, cib (K a) k = some b → b.1 ≤ v.toInt ∧ v.toInt ≤ b.2) (hs : cS L (K a) a (upd (I a) k v) O) : cI L K (va_up I a (upd (I a) k v)) O := fun x hx => by
  obtain ⟨g1, g2, g3, g4⟩ := h x hx
  by_cases e : x = a
  · subst e
    rw [va_up_self]
    refine ⟨fun j b hj => ?_, g2, g3, hs⟩
    by_cases e2 : j = k
    · subst e2; simp only [upd, if_true]; exact hb b hj
    · simp only [upd, if_neg e2]; exact g1 j b hj
  · rw [va_up_ne _ _ e]; exact ⟨g1, g2, g3, g4⟩
theorem cS.oth {x : Nat} {i : Nat → Int32} (h : cI L K I O) (hx : x ∈ L) (hs : cS L (K x) x i O) (e : x ≠ a) (hka : K a ≠ 12 ∧ K a ≠ 15) : cS L (K x) x i (va_up O a (va_up (O a) k w)) := by
  obtain ⟨s1, s2, s3, s4⟩ := hs
  refine ⟨fun q b hb => ?_, fun q b hb j hj => ?_, s3, fun q b hb j hj => ?_⟩
  · rw [va_up_ne _ _ e] at hb; exact s1 q b hb
  · rw [va_up_ne _ _ e] at hb
    have hk := ((h x hx).2.1 3 15 b (by rw [q]; rfl) hb).2
    have e2 : b ≠ a := fun z => by rw [z] at hk; exact hka.2 hk
    rw [va_up_ne _ _ e2]; exact s2 q b hb j hj
  · rw [va_up_ne _ _ e] at hb
    have hk := ((h x hx).2.1 9 12 b (by rw [q]; rfl) hb).2
    have e2 : b ≠ a := fun z => by rw [z] at hk; exact hka.1 hk
    rw [va_up_ne _ _ e2]; exact s4 q b hb j hj
theorem cI.puto (h : cI L K I O) (ha : a ∈ L) (hka : K a ≠ 12 ∧ K a ≠ 15) (ht : ∀ κ b, crt (K a) k = some κ → w = some b → b ∈ L ∧ K b = κ) (hn : cnn (K a) k = true → w ≠ none) (hs : cS L (K a) a (I a) (va_up O a (va_up (O a) k w))) : cI L K I (va_up O a (va_up (O a) k w)) := fun x hx => by
  obtain ⟨g1, g2, g3, g4⟩ := h x hx
  by_cases e : x = a
  · subst e
    refine ⟨g1, fun j κ b hj hb => ?_, fun j hj => ?_, hs⟩
    · rw [va_up_self] at hb
      by_cases e2 : j = k
      · subst e2; rw [va_up_self] at hb; exact ht κ b hj hb
      · rw [va_up_ne _ _ e2] at hb; exact g2 j κ b hj hb
    · rw [va_up_self]
      by_cases e2 : j = k
      · subst e2; rw [va_up_self]; exact hn hj
      · rw [va_up_ne _ _ e2]; exact g3 j hj
  · refine ⟨g1, fun j κ b hj hb => ?_, fun j hj => ?_, cS.oth h hx g4 e hka⟩
    · rw [va_up_ne _ _ e] at hb; exact g2 j κ b hj hb
    · rw [va_up_ne _ _ e]; exact g3 j hj
theorem cI.aast {b0 : Nat} (h : cI L K I O) (ha : a ∈ L) (hka : K a = 12 ∨ K a = 14 ∨ K a = 15) (ht : ∀ κ, crt (K a) k = some κ → b0 ∈ L ∧ K b0 = κ) : cI L K I (va_up O a (va_up (O a) k (some b0))) := fun x hx => by
  obtain ⟨g1, g2, g3, g4⟩ := h x hx
  have mono : ∀ y j, O y j ≠ none → va_up O a (va_up (O a) k (some b0)) y j ≠ none := fun y j hy => by
    by_cases e : y = a
    · subst e
      rw [va_up_self]
      by_cases e2 : j = k
      · subst e2; rw [va_up_self]; exact fun z => by cases z
      · rw [va_up_ne _ _ e2]; exact hy
    · rw [va_up_ne _ _ e]; exact hy
  by_cases e : x = a
  · subst e
    refine ⟨g1, fun j κ b hj hb => ?_, fun j hj => ?_, ?_⟩
    · rw [va_up_self] at hb
      by_cases e2 : j = k
      · subst e2; rw [va_up_self] at hb; cases hb; exact ht κ hj
      · rw [va_up_ne _ _ e2] at hb; exact g2 j κ b hj hb
    · exact mono x j (g3 j hj)
    · refine ⟨fun q => ?_, fun q => ?_, fun q => ?_, fun q => ?_⟩ <;> (rw [q] at hka; omega)
  · refine ⟨g1, fun j κ b hj hb => ?_, fun j hj => mono x j (g3 j hj), ?_⟩
    · rw [va_up_ne _ _ e] at hb; exact g2 j κ b hj hb
    · obtain ⟨s1, s2, s3, s4⟩ := g4
      refine ⟨fun q b hb => ?_, fun q b hb j hj => ?_, s3, fun q b hb j hj => ?_⟩
      · rw [va_up_ne _ _ e] at hb; exact s1 q b hb
      · rw [va_up_ne _ _ e] at hb; exact mono b j (s2 q b hb j hj)
      · rw [va_up_ne _ _ e] at hb; exact mono b j (s4 q b hb j hj)
theorem cib0 (κ k : Nat) (b : Int × Int) (h : cib κ k = some b) : b.1 ≤ 0 ∧ 0 ≤ b.2 := by
  unfold cib at h
  cases hf : cibL.find? (fun x => x.1 == κ && x.2.1 == k) with
  | none => rw [hf] at h; cases h
  | some y =>
    rw [hf] at h
    have e : y.2.2 = b := Option.some.inj h
    have hm := List.mem_of_find?_eq_some hf
    have all : ∀ z ∈ cibL, z.2.2.1 ≤ 0 ∧ 0 ≤ z.2.2.2 := by decide
    rw [← e]
    exact all y hm
theorem cI.new (h : cI L K I O) (ha : a ∉ L) (hn : ∀ k, cnn κ k = false) (hk : κ ≠ 3 ∧ κ ≠ 5) : cI (L ++ [a]) (va_up K a κ) (va_up I a (fun _ => 0)) (va_up O a (fun _ => none)) := fun x hx => by
  by_cases e : x = a
  · subst e
    rw [va_up_self, va_up_self, va_up_self]
    refine And.intro (fun j b hj => ?_) (And.intro (fun j κ' b hj hb => ?_) (And.intro (fun j hj => ?_) (And.intro (fun _ b hb => ?_) (And.intro (fun q => absurd q hk.1) (And.intro (fun _ => trivial) (fun q => absurd q hk.2))))))
    · have := cib0 κ j b hj
      show b.1 ≤ Int32.toInt 0 ∧ Int32.toInt 0 ≤ b.2
      rw [mm_z0]; exact this
    · cases hb
    · rw [hn] at hj; cases hj
    · rw [va_up_self] at hb; cases hb
  · have hxL : x ∈ L := by
      rcases List.mem_append.mp hx with q | q
      · exact q
      · exact absurd (List.mem_singleton.mp q) e
    obtain ⟨g1, g2, g3, s1, s2, s3, s4⟩ := h x hxL
    rw [va_up_ne _ _ e, va_up_ne _ _ e, va_up_ne _ _ e]
    have far : ∀ b, b ∈ L → b ≠ a := fun b hb q => ha (q ▸ hb)
    refine ⟨g1, fun j κ' b hj hb => ?_, g3, ⟨fun q b hb => ?_, fun q b hb j hj => ?_, s3, fun q b hb j hj => ?_⟩⟩
    · obtain ⟨f1, f2⟩ := g2 j κ' b hj hb
      rw [va_up_ne _ _ (far b f1)]
      exact ⟨List.mem_append_left _ f1, f2⟩
    · rw [va_up_ne _ _ e] at hb
      rw [crk_app hxL, crk_app (g2 4 1 b (by rw [q]; rfl) hb).1]
      exact s1 q b hb
    · rw [va_up_ne _ _ e] at hb
      rw [va_up_ne _ _ (far b (g2 3 15 b (by rw [q]; rfl) hb).1)]; exact s2 q b hb j hj
    · rw [va_up_ne _ _ e] at hb
      rw [va_up_ne _ _ (far b (g2 9 12 b (by rw [q]; rfl) hb).1)]; exact s4 q b hb j hj
theorem crt_raw (κ k κ' : Nat) (h : crt κ k = some κ') : κ' < 20 := by
  unfold crt at h
  by_cases h1 : κ = 12
  · rw [if_pos h1] at h; cases h; decide
  · rw [if_neg h1] at h
    by_cases h2 : κ = 14
    · rw [if_pos h2] at h; cases h; decide
    · rw [if_neg h2] at h
      by_cases h3 : κ = 15
      · rw [if_pos h3] at h; cases h; decide
      · rw [if_neg h3] at h
        cases hf : crtL.find? (fun x => x.1 == κ && x.2.1 == k) with
        | none => rw [hf] at h; cases h
        | some y =>
          rw [hf] at h
          have e : y.2.2 = κ' := Option.some.inj h
          have all : ∀ z ∈ crtL, z.2.2 < 20 := by decide
          rw [← e]
          exact all y (List.mem_of_find?_eq_some hf)
theorem cI.ret {κr : Nat} (h : cI L K I O) (ha : a ∈ L) (hr : K a = κr) (h20 : 20 ≤ κr) (hb : ∀ k, cib κ k = cib κr k) (hc : ∀ k, crt κ k = crt κr k) (hn : ∀ k, cnn κ k = true → O a k ≠ none) (hs : cS L κ a (I a) O) : cI L (va_up K a κ) I O := fun x hx => by
  obtain ⟨g1, g2, g3, g4⟩ := h x hx
  have far : ∀ y k κ' b, y ∈ L → crt (K y) k = some κ' → O y k = some b → va_up K a κ b = K b := fun y k κ' b hy hk hb => by
    have h2 := ((h y hy).2.1 k κ' b hk hb).2
    have h3 := crt_raw _ _ _ hk
    exact va_up_ne _ _ (fun q => by rw [q, hr] at h2; omega)
  by_cases e : x = a
  · subst e
    rw [va_up_self]
    refine ⟨fun j b hj => g1 j b (by rw [hr, ← hb]; exact hj), fun j κ' b hj hb => ?_, hn, hs⟩
    have hj2 : crt (K x) j = some κ' := by rw [hr, ← hc]; exact hj
    obtain ⟨f1, f2⟩ := g2 j κ' b hj2 hb
    rw [far x j κ' b hx hj2 hb]
    exact ⟨f1, f2⟩
  · rw [va_up_ne _ _ e]
    refine ⟨g1, fun j κ' b hj hb => ?_, g3, g4⟩
    rw [far x j κ' b hx hj hb]
    exact g2 j κ' b hj hb
end CF
