/-! bytes as codes, tokens, formats: pure -/
def zk (x : Nat → Int) (n : Nat) : Nat → Nat := fun j => if j < n ∧ 0 ≤ x j ∧ x j < 128 then (x j).toNat else 255
def zbl (k : Nat → Nat) (j : Nat) : Prop := k j = 10 ∨ k j = 32
def zsm (k : Nat → Nat) (j : Nat) : Prop := 97 ≤ k j ∧ k j ≤ 122
def zdg (k : Nat → Nat) (j : Nat) : Prop := 48 ≤ k j ∧ k j ≤ 57
def zend (p : Nat → Prop) (x y : Nat) : Prop := x ≤ y ∧ (∀ j : Nat, x ≤ j → j < y → p j) ∧ ¬ p y
def zso (k : Nat → Nat) (n p : Nat) : Int := if n ≤ p then 0 else if k p = 10 ∨ k p = 32 then 4 else if 97 ≤ k p ∧ k p ≤ 122 then 1 else if 48 ≤ k p ∧ k p ≤ 57 then 2 else 3
def ztk (k : Nat → Nat) (n p y : Nat) : Prop := (n ≤ p ∧ y = n) ∨ (p < n ∧ zsm k p ∧ zend (zsm k) p y) ∨ (p < n ∧ zdg k p ∧ zend (zdg k) p y) ∨ (p < n ∧ ¬ zsm k p ∧ ¬ zdg k p ∧ y = p + 1)
/-- where the token behind x begins, and where it ends -/
noncomputable def ztp (k : Nat → Nat) (x : Nat) : Nat := Classical.epsilon (fun p => zend (zbl k) x p)
noncomputable def zty (k : Nat → Nat) (n x : Nat) : Nat := Classical.epsilon (fun y => ztk k n (ztp k x) y)
def zval (k : Nat → Nat) (p : Nat) : Nat → Nat
  | 0 => 0
  | m + 1 => 10 * zval k p m + (k (p + m) - 48)
theorem zend_uq {p : Nat → Prop} {x y z : Nat} (h : zend p x y) (g : zend p x z) : y = z := by
  obtain ⟨a, b, c⟩ := h
  obtain ⟨a', b', c'⟩ := g
  rcases Nat.lt_trichotomy y z with h | h | h
  · exact absurd (b' y a h) c
  · exact h
  · exact absurd (b z a' h) c'
theorem zend_ex {p : Nat → Prop} {n : Nat} (hn : ∀ j : Nat, n ≤ j → ¬ p j) : ∀ (m x : Nat), n ≤ x + m → ∃ y, zend p x y := by
  intro m
  induction m with
  | zero => intro x hx; exact ⟨x, Nat.le_refl _, fun j h1 h2 => absurd h2 (by omega), hn x (by omega)⟩
  | succ m ih =>
    intro x hx
    by_cases h : p x
    · obtain ⟨y, a, b, c⟩ := ih (x + 1) (by omega)
      refine ⟨y, by omega, fun j h1 h2 => ?_, c⟩
      by_cases e : j = x
      · rw [e]; exact h
      · exact b j (by omega) h2
    · exact ⟨x, Nat.le_refl _, fun j h1 h2 => absurd h2 (by omega), h⟩
theorem ztp_eq {k : Nat → Nat} {x p : Nat} (h : zend (zbl k) x p) : ztp k x = p := zend_uq (Classical.epsilon_spec (p := fun p => zend (zbl k) x p) ⟨p, h⟩) h
theorem ztk_uq {k : Nat → Nat} {n p y z : Nat} (h : ztk k n p y) (g : ztk k n p z) : y = z := by
  have dj : zsm k p → zdg k p → False := fun a b => by unfold zsm at a; unfold zdg at b; omega
  rcases h with ⟨a, b⟩ | ⟨a, b, c⟩ | ⟨a, b, c⟩ | ⟨a, b, c, d⟩ <;> rcases g with ⟨a', b'⟩ | ⟨a', b', c'⟩ | ⟨a', b', c'⟩ | ⟨a', b', c', d'⟩
  all_goals first | omega | exact zend_uq c c' | exact absurd b b' | exact absurd b' b | exact absurd b c' | exact absurd b' c | exact (dj b b').elim | exact (dj b' b).elim
theorem zty_eq {k : Nat → Nat} {n x y : Nat} (h : ztk k n (ztp k x) y) : zty k n x = y := ztk_uq (Classical.epsilon_spec (p := fun y => ztk k n (ztp k x) y) ⟨y, h⟩) h
/-- beyond n there is nothing -/
def zout (k : Nat → Nat) (n : Nat) : Prop := ∀ j : Nat, n ≤ j → k j = 255
theorem zk_out (x : Nat → Int) (n : Nat) : zout (zk x n) n := fun j hj => by unfold zk; rw [if_neg (by omega)]
theorem zbl_lt {k : Nat → Nat} {n j : Nat} (h : zout k n) (b : zbl k j) : j < n := by
  by_cases e : j < n
  · exact e
  · have := h j (by omega); unfold zbl at b; omega
theorem zsm_lt {k : Nat → Nat} {n j : Nat} (h : zout k n) (b : zsm k j) : j < n := by
  by_cases e : j < n
  · exact e
  · have := h j (by omega); unfold zsm at b; omega
theorem zdg_lt {k : Nat → Nat} {n j : Nat} (h : zout k n) (b : zdg k j) : j < n := by
  by_cases e : j < n
  · exact e
  · have := h j (by omega); unfold zdg at b; omega
theorem ztp_spec {k : Nat → Nat} {n : Nat} (h : zout k n) (x : Nat) : zend (zbl k) x (ztp k x) := by
  obtain ⟨y, hy⟩ := zend_ex (p := zbl k) (n := n) (fun j hj b => absurd (zbl_lt h b) (by omega)) n x (by omega)
  rw [ztp_eq hy]; exact hy
theorem ztk_ex {k : Nat → Nat} {n : Nat} (h : zout k n) (p : Nat) : ∃ y, ztk k n p y := by
  by_cases e : n ≤ p
  · exact ⟨n, Or.inl ⟨e, rfl⟩⟩
  · by_cases a : zsm k p
    · obtain ⟨y, hy⟩ := zend_ex (p := zsm k) (n := n) (fun j hj b => absurd (zsm_lt h b) (by omega)) n p (by omega)
      exact ⟨y, Or.inr (Or.inl ⟨by omega, a, hy⟩)⟩
    · by_cases b : zdg k p
      · obtain ⟨y, hy⟩ := zend_ex (p := zdg k) (n := n) (fun j hj b => absurd (zdg_lt h b) (by omega)) n p (by omega)
        exact ⟨y, Or.inr (Or.inr (Or.inl ⟨by omega, b, hy⟩))⟩
      · exact ⟨p + 1, Or.inr (Or.inr (Or.inr ⟨by omega, a, b, rfl⟩))⟩
theorem zty_spec {k : Nat → Nat} {n : Nat} (h : zout k n) (x : Nat) : ztk k n (ztp k x) (zty k n x) := by
  obtain ⟨y, hy⟩ := ztk_ex h (ztp k x)
  rw [zty_eq hy]; exact hy
/-- a token's end is not beyond n -/
theorem zty_le {k : Nat → Nat} {n : Nat} (h : zout k n) (x : Nat) : zty k n x ≤ n := by
  have dn : ∀ (p : Nat → Prop) (a b : Nat), (∀ j, p j → j < n) → a < n → zend p a b → b ≤ n := fun p a b hp ha hz => by
    by_cases e : b ≤ n
    · exact e
    · exact absurd (hp (b - 1) (hz.2.1 (b - 1) (by omega) (by omega))) (by omega)
  rcases zty_spec h x with ⟨a, b⟩ | ⟨a, b, c⟩ | ⟨a, b, c⟩ | ⟨a, b, c, d⟩
  · omega
  · exact dn _ _ _ (fun j => zsm_lt h) a c
  · exact dn _ _ _ (fun j => zdg_lt h) a c
  · omega
theorem zso_end {k : Nat → Nat} {n p : Nat} (h : n ≤ p) : zso k n p = 0 := by unfold zso; rw [if_pos h]
theorem zso_0 {k : Nat → Nat} {n p : Nat} : zso k n p = 0 ↔ n ≤ p := by
  unfold zso
  constructor
  · intro h; by_cases e : n ≤ p
    · exact e
    · rw [if_neg e] at h; (repeat' split at h) <;> omega
  · intro h; rw [if_pos h]
theorem zso_2 {k : Nat → Nat} {n p : Nat} : zso k n p = 2 ↔ p < n ∧ zdg k p := by
  unfold zso zdg
  constructor
  · intro h; (repeat' split at h) <;> omega
  · intro ⟨h1, h2, h3⟩; rw [if_neg (by omega), if_neg (by omega), if_neg (by omega), if_pos ⟨h2, h3⟩]
theorem zso_1 {k : Nat → Nat} {n p : Nat} : zso k n p = 1 ↔ p < n ∧ zsm k p := by
  unfold zso zsm
  constructor
  · intro h; (repeat' split at h) <;> omega
  · intro ⟨h1, h2, h3⟩; rw [if_neg (by omega), if_neg (by omega), if_pos ⟨h2, h3⟩]
theorem zso_3 {k : Nat → Nat} {n p : Nat} : zso k n p = 3 ↔ p < n ∧ ¬ zbl k p ∧ ¬ zsm k p ∧ ¬ zdg k p := by
  unfold zso zsm zdg zbl
  constructor
  · intro h; (repeat' split at h) <;> omega
  · intro ⟨h1, h2, h3, h4⟩; rw [if_neg (by omega), if_neg h2, if_neg h3, if_neg h4]
/-- the sort of a byte by the byte itself -/
theorem zso_x {x : Nat → Int} {n p : Nat} : zso (zk x n) n p = if n ≤ p then 0 else if x p = 10 ∨ x p = 32 then 4 else if 97 ≤ x p ∧ x p ≤ 122 then 1 else if 48 ≤ x p ∧ x p ≤ 57 then 2 else 3 := by
  unfold zso
  by_cases e : n ≤ p
  · rw [if_pos e, if_pos e]
  · rw [if_neg e, if_neg e]
    have hk : zk x n p = if 0 ≤ x p ∧ x p < 128 then (x p).toNat else 255 := by
      unfold zk
      by_cases q : 0 ≤ x p ∧ x p < 128
      · rw [if_pos ⟨by omega, q⟩, if_pos q]
      · rw [if_neg (fun z => q z.2), if_neg q]
    by_cases q : 0 ≤ x p ∧ x p < 128
    · rw [if_pos q] at hk
      rw [hk]
      (repeat' split) <;> omega
    · rw [if_neg q] at hk
      rw [hk]
      (repeat' split) <;> omega
theorem zk_at {x : Nat → Int} {n p : Nat} {c : Nat} (hc : c < 128) : zk x n p = c ↔ p < n ∧ x p = c := by
  unfold zk
  constructor
  · intro h; split at h <;> omega
  · intro ⟨h1, h2⟩; rw [if_pos ⟨h1, by omega, by omega⟩]; omega
/-- two tapes that say the same -/
def zT (c u : Int) : Prop := c = u ∨ (c < 0 ∧ 128 ≤ u)
theorem zk_T {x z : Nat → Int} {n : Nat} (h : ∀ j : Nat, j < n → zT (x j) (z j)) : zk x n = zk z n := by
  funext j
  unfold zk
  by_cases e : j < n
  · rcases h j e with q | q
    · rw [q]
    · rw [if_neg (by omega), if_neg (by omega)]
  · rw [if_neg (by omega), if_neg (by omega)]
/-- the token behind x: a word, a sign, a NAME, a number -/
def zw (k : Nat → Nat) (w : List Nat) (p y : Nat) : Prop := y = p + w.length ∧ ∀ i : Nat, i < w.length → k (p + i) = w.getD i 0
def zW (k : Nat → Nat) (n x : Nat) (w : List Nat) : Prop := zw k w (ztp k x) (zty k n x)
def zS (k : Nat → Nat) (n x c : Nat) : Prop := ztp k x < n ∧ k (ztp k x) = c
noncomputable def zV (k : Nat → Nat) (n x : Nat) : Nat := zval k (ztp k x) (zty k n x - ztp k x)
def zN (k : Nat → Nat) (n x : Nat) (lo hi v : Int) : Prop := zso k n (ztp k x) = 2 ∧ lo ≤ v ∧ v ≤ hi ∧ v = (zV k n x : Int)
def zwl : Nat → List Nat := fun i => if i = 0 then [102, 111, 114, 109, 97, 116] else if i = 1 then [108, 97, 112, 115] else if i = 2 then [115, 104, 111, 111, 116] else if i = 3 then [115, 112, 97, 114, 101, 115] else if i = 4 then [109, 105, 115, 115] else if i = 5 then [108, 111, 111, 112] else if i = 6 then [97, 100, 100] else if i = 7 then [115, 116, 97, 114, 116] else if i = 8 then [109, 97, 115, 115] else if i = 9 then [99, 104, 97, 115, 101] else [101, 118, 101, 114, 121]
theorem zwl_sm : ∀ i : Nat, i < 11 → ∀ j : Nat, j < (zwl i).length → 97 ≤ (zwl i).getD j 0 ∧ (zwl i).getD j 0 ≤ 122 := by decide
theorem zwl_len : ∀ i : Nat, i < 11 → 3 ≤ (zwl i).length ∧ (zwl i).length ≤ 6 := by decide
theorem zwl_ne : ∀ i : Nat, i < 11 → ∀ j : Nat, j < 11 → zwl i = zwl j → i = j := by decide
theorem zw_sort {k : Nat → Nat} {n i p y : Nat} (h : zout k n) (hi : i < 11) (w : zw k (zwl i) p y) : zso k n p = 1 := by
  have h1 := zwl_len i hi
  have h2 := w.2 0 (by omega)
  have h3 := zwl_sm i hi 0 (by omega)
  rw [Nat.add_zero] at h2
  have hs : zsm k p := by unfold zsm; omega
  exact zso_1.mpr ⟨zsm_lt h hs, hs⟩
theorem zw_uq {k : Nat → Nat} {i j p y : Nat} (hi : i < 11) (hj : j < 11) (a : zw k (zwl i) p y) (b : zw k (zwl j) p y) : i = j := by
  have hl : (zwl i).length = (zwl j).length := by have := a.1; have := b.1; omega
  refine zwl_ne i hi j hj (List.ext_getElem hl (fun t h1 h2 => ?_))
  have e1 := a.2 t h1
  have e2 := b.2 t h2
  rw [e1] at e2
  rw [List.getD_eq_getElem?_getD, List.getD_eq_getElem?_getD, List.getElem?_eq_getElem h1, List.getElem?_eq_getElem h2] at e2
  exact e2
/-- c numbers, rising, below la, and no number behind them -/
noncomputable def zit (k : Nat → Nat) (n : Nat) : Nat → Nat → Nat
  | 0, x => x
  | i + 1, x => zty k n (zit k n i x)
def zsh1 (k : Nat → Nat) (n x : Nat) (la : Int) (i : Nat) : Prop := zN k n (zit k n i x) (if i = 0 then 1 else (zV k n (zit k n (i - 1) x) : Int) + 1) (la - 1) (zV k n (zit k n i x))
def zsh (k : Nat → Nat) (n x : Nat) (la : Int) (c : Nat) : Prop := 1 ≤ c ∧ c ≤ 4 ∧ (∀ i : Nat, i < c → zsh1 k n x la i) ∧ ¬ zso k n (ztp k (zit k n c x)) = 2
theorem zsh_uq {k : Nat → Nat} {n x : Nat} {la : Int} {c d : Nat} (a : zsh k n x la c) (b : zsh k n x la d) : c = d := by
  rcases Nat.lt_trichotomy c d with h | h | h
  · exact absurd (b.2.2.1 c h).1 a.2.2.2
  · exact h
  · exact absurd (a.2.2.1 d h).1 b.2.2.2
theorem zsh_not {k : Nat → Nat} {n x : Nat} {la : Int} {i : Nat} (h : ∀ j : Nat, j < i → zsh1 k n x la j) (hi : ¬ zsh1 k n x la i) (h2 : i = 0 ∨ zso k n (ztp k (zit k n i x)) = 2) : ∀ c : Nat, ¬ zsh k n x la c := fun c b => by
  rcases Nat.lt_trichotomy c i with e | e | e
  · exact absurd (h c e).1 b.2.2.2
  · rcases h2 with q | q
    · have := b.1; omega
    · exact absurd q (by rw [← e]; exact b.2.2.2)
  · exact hi (b.2.2.1 i e)
theorem zsh_not4 {k : Nat → Nat} {n x : Nat} {la : Int} (h : ∀ j : Nat, j < 4 → zsh1 k n x la j) (hi : zso k n (ztp k (zit k n 4 x)) = 2) : ∀ c : Nat, ¬ zsh k n x la c := fun c b => by
  by_cases e : c < 4
  · exact absurd (h c e).1 b.2.2.2
  · have e4 : c = 4 := by have := b.2.1; omega
    exact absurd hi (by rw [← e4]; exact b.2.2.2)
/-- what the readers of a format's parts find: values and the place behind -/
def zlaps (k : Nat → Nat) (n x : Nat) (v : Int) : Prop := zW k n x (zwl 1) ∧ zN k n (zty k n x) 1 6 v
def zspar (k : Nat → Nat) (n x : Nat) (v : Int) : Prop := zW k n x (zwl 3) ∧ zN k n (zty k n x) 0 3 v
def zmiss (k : Nat → Nat) (n x : Nat) (b v : Int) : Prop := zW k n x (zwl 4) ∧ ((zW k n (zty k n x) (zwl 5) ∧ b = 1) ∨ (zW k n (zty k n x) (zwl 6) ∧ b = 0)) ∧ zN k n (zty k n (zty k n x)) 0 600 v
def zstart (k : Nat → Nat) (n x : Nat) (h v : Int) (z : Nat) : Prop := zW k n x (zwl 7) ∧
  ((zW k n (zty k n x) (zwl 8) ∧ h = 0 ∧ v = 0 ∧ z = zty k n (zty k n x)) ∨ (zW k n (zty k n x) (zwl 10) ∧ h = 1 ∧ zN k n (zty k n (zty k n x)) 1 600 v ∧ z = zty k n (zty k n (zty k n x))) ∨ (zW k n (zty k n x) (zwl 9) ∧ h = 2 ∧ zN k n (zty k n (zty k n x)) 0 3600 v ∧ z = zty k n (zty k n (zty k n x))))
/-- a format behind x: its name f, its fields v, the place z behind it -/
def zbody (k : Nat → Nat) (n a : Nat) (v : Nat → Int) (z : Nat) : Prop := zS k n a 123 ∧ zlaps k n (zty k n a) (v 1) ∧
  (∃ b : Nat, b = zit k n 3 a ∧ zS k n b 59 ∧ zW k n (zty k n b) (zwl 2) ∧
  ∃ c : Nat, zsh k n (zit k n 2 b) (v 1) c ∧ v 2 = (c : Int) ∧
  ∃ d : Nat, d = zit k n c (zit k n 2 b) ∧ zS k n d 59 ∧ zspar k n (zty k n d) (v 3) ∧ zS k n (zit k n 3 d) 59 ∧ zmiss k n (zit k n 4 d) (v 4) (v 5) ∧ zS k n (zit k n 7 d) 59 ∧
  ∃ g : Nat, zstart k n (zit k n 8 d) (v 6) (v 7) g ∧ zS k n g 59 ∧ zS k n (zty k n g) 125 ∧ z = zit k n 2 g)
def zfmt (k : Nat → Nat) (n x f : Nat) (v : Nat → Int) (z : Nat) : Prop := zW k n x (zwl 0) ∧ f < 8 ∧ zS k n (zty k n x) (65 + f) ∧ zbody k n (zit k n 2 x) v z
theorem zN_uq {k : Nat → Nat} {n x : Nat} {lo hi v lo2 hi2 v2 : Int} (a : zN k n x lo hi v) (b : zN k n x lo2 hi2 v2) : v = v2 := a.2.2.2.trans b.2.2.2.symm
theorem zW_uq {k : Nat → Nat} {n x i j : Nat} (hi : i < 11) (hj : j < 11) (a : zW k n x (zwl i)) (b : zW k n x (zwl j)) : i = j := zw_uq hi hj a b
theorem zmiss_uq {k : Nat → Nat} {n x : Nat} {b v b2 v2 : Int} (h : zmiss k n x b v) (g : zmiss k n x b2 v2) : b = b2 ∧ v = v2 := by
  refine ⟨?_, zN_uq h.2.2 g.2.2⟩
  rcases h.2.1 with ⟨a, e⟩ | ⟨a, e⟩ <;> rcases g.2.1 with ⟨a2, e2⟩ | ⟨a2, e2⟩
  · omega
  · exact absurd (zW_uq (by decide) (by decide) a a2) (by decide)
  · exact absurd (zW_uq (by decide) (by decide) a a2) (by decide)
  · omega
theorem zstart_uq {k : Nat → Nat} {n x : Nat} {h v h2 v2 : Int} {z z2 : Nat} (a : zstart k n x h v z) (b : zstart k n x h2 v2 z2) : h = h2 ∧ v = v2 ∧ z = z2 := by
  rcases a.2 with ⟨w, e1, e2, e3⟩ | ⟨w, e1, e2, e3⟩ | ⟨w, e1, e2, e3⟩ <;> rcases b.2 with ⟨w', e1', e2', e3'⟩ | ⟨w', e1', e2', e3'⟩ | ⟨w', e1', e2', e3'⟩
  all_goals first
    | exact absurd (zW_uq (by decide) (by decide) w w') (by decide)
    | exact ⟨e1.trans e1'.symm, e2.trans e2'.symm, e3.trans e3'.symm⟩
    | exact ⟨e1.trans e1'.symm, zN_uq e2 e2', e3.trans e3'.symm⟩
theorem zbody_uq {k : Nat → Nat} {n a : Nat} {v v2 : Nat → Int} {z z2 : Nat} (h : zbody k n a v z) (g : zbody k n a v2 z2) : z = z2 ∧ ∀ j : Nat, 1 ≤ j → j ≤ 7 → v j = v2 j := by
  obtain ⟨s1, l1, b, eb, s2, w2, c, hc, e2, d, ed, s3, p3, s4, m4, s5, y, st, s6, s7, ez⟩ := h
  obtain ⟨s1', l1', b', eb', s2', w2', c', hc', e2', d', ed', s3', p3', s4', m4', s5', y', st', s6', s7', ez'⟩ := g
  have v1 : v 1 = v2 1 := zN_uq l1.2 l1'.2
  subst eb; subst eb'
  rw [← v1] at hc'
  have ec := zsh_uq hc hc'
  subst ec
  subst ed; subst ed'
  have v3 : v 3 = v2 3 := zN_uq p3.2 p3'.2
  obtain ⟨v4, v5⟩ := zmiss_uq m4 m4'
  obtain ⟨v6, v7, ey⟩ := zstart_uq st st'
  subst ey
  refine ⟨ez.trans ez'.symm, fun j h1 h7 => ?_⟩
  rcases (show j = 1 ∨ j = 2 ∨ j = 3 ∨ j = 4 ∨ j = 5 ∨ j = 6 ∨ j = 7 by omega) with rfl | rfl | rfl | rfl | rfl | rfl | rfl
  · exact v1
  · exact e2.trans e2'.symm
  · exact v3
  · exact v4
  · exact v5
  · exact v6
  · exact v7
theorem zfmt_uq {k : Nat → Nat} {n x f f2 : Nat} {v v2 : Nat → Int} {z z2 : Nat} (h : zfmt k n x f v z) (g : zfmt k n x f2 v2 z2) : f = f2 ∧ z = z2 ∧ ∀ j : Nat, 1 ≤ j → j ≤ 7 → v j = v2 j := by
  obtain ⟨-, h8, hs, hb⟩ := h
  obtain ⟨-, h8', hs', hb'⟩ := g
  have ef : f = f2 := by have := hs.2; have := hs'.2; omega
  exact ⟨ef, zbody_uq hb hb'⟩
theorem zfmt_laps {k : Nat → Nat} {n x f : Nat} {v : Nat → Int} {z : Nat} (h : zfmt k n x f v z) : 1 ≤ v 1 ∧ v 1 ≤ 6 := by
  have h2 := h.2.2.2.2.1.2
  exact ⟨h2.2.1, h2.2.2.1⟩
/-- i formats one behind another from the text's begin: the place behind them, their fields by name (laps 0: none) -/
def zSeq (k : Nat → Nat) (n : Nat) : Nat → Nat → (Nat → Nat → Int) → Prop
  | 0, x, M => x = 0 ∧ ∀ f j : Nat, M f j = 0
  | i + 1, z, M2 => ∃ (x : Nat) (M : Nat → Nat → Int) (f : Nat) (v : Nat → Int), zSeq k n i x M ∧ ztp k x < n ∧ zfmt k n x f v z ∧ M f 1 = 0 ∧ M2 = fun g => if g = f then v else M g
theorem zSeq_uq {k : Nat → Nat} {n : Nat} : ∀ (i x : Nat) (M : Nat → Nat → Int) (x2 : Nat) (M2 : Nat → Nat → Int), zSeq k n i x M → zSeq k n i x2 M2 → x = x2 ∧ ∀ f j : Nat, 1 ≤ j → j ≤ 7 → M f j = M2 f j := by
  intro i
  induction i with
  | zero => intro x M x2 M2 h g; exact ⟨h.1.trans g.1.symm, fun f j _ _ => (h.2 f j).trans (g.2 f j).symm⟩
  | succ i ih =>
    intro z M z2 M2 h g
    obtain ⟨x, A, f, v, h1, h2, h3, h4, rfl⟩ := h
    obtain ⟨x', A', f', v', g1, g2, g3, g4, rfl⟩ := g
    obtain ⟨ex, eA⟩ := ih x A x' A' h1 g1
    subst ex
    obtain ⟨ef, ez, ev⟩ := zfmt_uq h3 g3
    subst ef
    refine ⟨ez, fun a j h5 h6 => ?_⟩
    show (if a = f then v else A a) j = (if a = f then v' else A' a) j
    by_cases e : a = f
    · rw [if_pos e, if_pos e]; exact ev j h5 h6
    · rw [if_neg e, if_neg e]; exact eA a j h5 h6
theorem zSeq_pre {k : Nat → Nat} {n : Nat} : ∀ (d x : Nat) (M : Nat → Nat → Int), zSeq k n d x M → ∀ c : Nat, c < d → ∃ (y : Nat) (A : Nat → Nat → Int), zSeq k n c y A ∧ ztp k y < n := by
  intro d
  induction d with
  | zero => intro x M _ c hc; omega
  | succ d ih =>
    intro z M h c hc
    obtain ⟨x, A, f, v, h1, h2, -⟩ := h
    by_cases e : c = d
    · subst e; exact ⟨x, A, h1, h2⟩
    · exact ih x A h1 c (by omega)
def zcn (M : Nat → Nat → Int) : Nat → Nat
  | 0 => 0
  | m + 1 => zcn M m + (if M m 1 = 0 then 0 else 1)
theorem zcn_le (M : Nat → Nat → Int) (m : Nat) : zcn M m ≤ m := by
  induction m with
  | zero => exact Nat.le_refl 0
  | succ m ih => simp only [zcn]; split <;> omega
theorem zcn_same {M N : Nat → Nat → Int} {m : Nat} (h : ∀ g : Nat, g < m → N g 1 = M g 1) : zcn N m = zcn M m := by
  induction m with
  | zero => rfl
  | succ m ih => simp only [zcn]; rw [ih (fun g hg => h g (by omega)), h m (by omega)]
theorem zcn_up {M : Nat → Nat → Int} {f m : Nat} {v : Nat → Int} (hf : f < m) (h0 : M f 1 = 0) (hv : ¬ v 1 = 0) : zcn (fun g => if g = f then v else M g) m = zcn M m + 1 := by
  induction m with
  | zero => omega
  | succ m ih =>
    by_cases e : f = m
    · subst e
      have h1 : zcn (fun g => if g = f then v else M g) f = zcn M f := zcn_same (fun g hg => by
        show (if g = f then v else M g) 1 = M g 1
        rw [if_neg (by omega)])
      show zcn (fun g => if g = f then v else M g) f + (if (if f = f then v else M f) 1 = 0 then 0 else 1) = zcn M f + (if M f 1 = 0 then 0 else 1) + 1
      rw [h1]
      simp [hv, h0]
    · have h2 := ih (by omega)
      have e2 : ¬ m = f := fun q => e q.symm
      show zcn (fun g => if g = f then v else M g) m + (if (if m = f then v else M m) 1 = 0 then 0 else 1) = zcn M m + (if M m 1 = 0 then 0 else 1) + 1
      rw [h2]
      simp only [if_neg e2]
      omega
theorem zSeq_cn {k : Nat → Nat} {n : Nat} : ∀ (i x : Nat) (M : Nat → Nat → Int), zSeq k n i x M → zcn M 8 = i := by
  intro i
  induction i with
  | zero => intro x M h; simp [zcn, h.2]
  | succ i ih =>
    intro z M h
    obtain ⟨x, A, f, v, h1, h2, h3, h4, rfl⟩ := h
    have hl := zfmt_laps h3
    rw [zcn_up h3.2.1 h4 (by omega), ih x A h1]
theorem zSeq_le {k : Nat → Nat} {n i x : Nat} {M : Nat → Nat → Int} (h : zSeq k n i x M) : i ≤ 8 := by
  have h1 := zSeq_cn i x M h
  have h2 := zcn_le M 8
  omega
/-- a sound text: c formats, their fields by name -/
def zOk (k : Nat → Nat) (n c : Nat) (M : Nat → Nat → Int) : Prop := ∃ x : Nat, zSeq k n c x M ∧ n ≤ ztp k x
theorem zOk_uq {k : Nat → Nat} {n c d : Nat} {M N : Nat → Nat → Int} (h : zOk k n c M) (g : zOk k n d N) : c = d ∧ ∀ f j : Nat, 1 ≤ j → j ≤ 7 → M f j = N f j := by
  obtain ⟨x, h1, h2⟩ := h
  obtain ⟨y, g1, g2⟩ := g
  rcases Nat.lt_trichotomy c d with e | e | e
  · obtain ⟨z, A, a1, a2⟩ := zSeq_pre d y N g1 c e
    have := (zSeq_uq c z A x M a1 h1).1
    subst this; omega
  · subst e; exact ⟨rfl, (zSeq_uq c x M y N h1 g1).2⟩
  · obtain ⟨z, A, a1, a2⟩ := zSeq_pre c x M h1 d e
    have := (zSeq_uq d z A y N a1 g1).1
    subst this; omega
/-- no sound text: behind i formats there is more, and it is no format (or its name was told) -/
theorem zOk_not {k : Nat → Nat} {n i x : Nat} {M : Nat → Nat → Int} (h : zSeq k n i x M) (hx : ztp k x < n) (hf : ∀ (f : Nat) (v : Nat → Int) (z : Nat), zfmt k n x f v z → ¬ M f 1 = 0) : ∀ (c : Nat) (N : Nat → Nat → Int), ¬ zOk k n c N := fun c N g => by
  obtain ⟨y, g1, g2⟩ := g
  rcases Nat.lt_trichotomy c i with e | e | e
  · obtain ⟨z, A, a1, a2⟩ := zSeq_pre i x M h c e
    have := (zSeq_uq c z A y N a1 g1).1
    subst this; omega
  · subst e
    have := (zSeq_uq c x M y N h g1).1
    subst this; omega
  · by_cases e1 : c = i + 1
    · subst e1
      obtain ⟨z, A, f, v, a1, a2, a3, a4, -⟩ := g1
      obtain ⟨ez, eA⟩ := zSeq_uq i x M z A h a1
      subst ez
      exact hf f v y a3 (by rw [eA f 1 (by omega) (by omega)]; exact a4)
    · obtain ⟨z, A, a1, -⟩ := zSeq_pre c y N g1 (i + 1) (by omega)
      obtain ⟨z2, A2, f, v, b1, b2, b3, b4, -⟩ := a1
      obtain ⟨ez, eA⟩ := zSeq_uq i x M z2 A2 h b1
      subst ez
      exact hf f v z b3 (by rw [eA f 1 (by omega) (by omega)]; exact b4)
theorem zOk_not8 {k : Nat → Nat} {n x : Nat} {M : Nat → Nat → Int} (h : zSeq k n 8 x M) (hx : ztp k x < n) : ∀ (c : Nat) (N : Nat → Nat → Int), ¬ zOk k n c N := zOk_not h hx (fun f v z hz h0 => by
  have h9 : zSeq k n 9 z (fun g => if g = f then v else M g) := ⟨x, M, f, v, h, hx, hz, h0, rfl⟩
  exact absurd (zSeq_le h9) (by decide))
