def mR8 (G : Nat → Nat → Int32) (M : Nat → Nat → Int) : Prop := ∀ g : Nat, g < 8 → (M g 1 = 0 ∧ (G 5 (8 + g)).toInt = 0) ∨ (¬ M g 1 = 0 ∧ ∀ i : Nat, 1 ≤ i → i ≤ 7 → mV G (8 + g) i = M g i)
def mRc (G : Nat → Nat → Int32) (M : Nat → Nat → Int) : Prop := ∀ g : Nat, g < 8 → (M g 1 = 0 ∧ (G 5 g).toInt = 0) ∨ (¬ M g 1 = 0 ∧ ∀ i : Nat, 1 ≤ i → i ≤ 7 → mV G g i = M g i)
/-- the first k rows are copies of the rows from 8 on -/
def mCk (G : Nat → Nat → Int32) (k : Nat) : Prop := ∀ g : Nat, g < k → G 5 g = G 5 (8 + g) ∧ G 6 g = G 6 (8 + g) ∧ G 8 g = G 8 (8 + g) ∧ G 9 g = vp_nar .boolean (G 9 (8 + g)) ∧ G 10 g = G 10 (8 + g) ∧ G 11 g = G 11 (8 + g) ∧ G 12 g = G 12 (8 + g)
theorem nar01 {x : Int32} (h : x.toInt = 0 ∨ x.toInt = 1) : vp_nar .boolean x = x := by
  rcases h with h | h
  · have e : x = 0 := Int32.toInt_inj.mp (by rw [h]; decide)
    rw [e]; rfl
  · have e : x = 1 := Int32.toInt_inj.mp (by rw [h]; decide)
    rw [e]; rfl
theorem mR8_c {G : Nat → Nat → Int32} {M : Nat → Nat → Int} (h : mR8 G M) (c : mCk G 8) (hb : ∀ g : Nat, ¬ M g 1 = 0 → M g 4 = 0 ∨ M g 4 = 1) : mRc G M := fun g hg => by
  obtain ⟨a1, a2, a3, a4, a5, a6, a7⟩ := c g hg
  rcases h g hg with ⟨a, b⟩ | ⟨a, b⟩
  · exact Or.inl ⟨a, by rw [a1]; exact b⟩
  · have b4 : (G 9 (8 + g)).toInt = M g 4 := b 4 (by omega) (by omega)
    rw [nar01 (by rw [b4]; exact hb g a)] at a4
    have e : mV G g = mV G (8 + g) := by
      unfold mV
      rw [a1, a2, a3, a4, a5, a6, a7]
    exact Or.inr ⟨a, by rw [e]; exact b⟩
theorem mR8_l {G : Nat → Nat → Int32} {M : Nat → Nat → Int} (h : mR8 G M) {f : Nat} (hf : f < 8) (h0 : (G 5 (8 + f)).toInt = 0) : M f 1 = 0 := by
  rcases h f hf with ⟨a, -⟩ | ⟨a, b⟩
  · exact a
  · exact (b 1 (by omega) (by omega)).symm.trans h0
theorem mR8_z {G : Nat → Nat → Int32} {M : Nat → Nat → Int} (h : mR8 G M) {f : Nat} (hf : f < 8) (h0 : M f 1 = 0) : (G 5 (8 + f)).toInt = 0 := by
  rcases h f hf with ⟨-, a⟩ | ⟨a, -⟩
  · exact a
  · exact absurd h0 a
theorem mR8_s {G Y : Nat → Nat → Int32} {M : Nat → Nat → Int} {f : Nat} (h : mR8 G M) (hs : ∀ j : Nat, ¬ j = 8 + f → mSame G Y j) (h1 : ¬ mV Y (8 + f) 1 = 0) : mR8 Y (fun g => if g = f then mV Y (8 + f) else M g) := fun g hg => by
  by_cases e : g = f
  · subst e
    refine Or.inr ⟨?_, fun i _ _ => ?_⟩
    · show ¬ (if g = g then mV Y (8 + g) else M g) 1 = 0
      rw [if_pos rfl]; exact h1
    · show _ = (if g = g then mV Y (8 + g) else M g) i
      rw [if_pos rfl]
  · have hsm := hs (8 + g) (by omega)
    rcases h g hg with ⟨a, b⟩ | ⟨a, b⟩
    · refine Or.inl ⟨?_, by rw [hsm.1]; exact b⟩
      show (if g = f then mV Y (8 + f) else M g) 1 = 0
      rw [if_neg e]; exact a
    · refine Or.inr ⟨?_, fun i c d => ?_⟩
      · show ¬ (if g = f then mV Y (8 + f) else M g) 1 = 0
        rw [if_neg e]; exact a
      · show _ = (if g = f then mV Y (8 + f) else M g) i
        rw [if_neg e, hsm.v]; exact b i c d
theorem mR8_0 {G : Nat → Nat → Int32} (h : mZ G 16) : mR8 G (fun _ _ => 0) := fun g hg => Or.inl ⟨rfl, by rw [h (8 + g) (by omega) (by omega)]; decide⟩
theorem mR8_t {G Y : Nat → Nat → Int32} {M : Nat → Nat → Int} (h : mR8 G M) (hs : ∀ j : Nat, 8 ≤ j → mSame G Y j) : mR8 Y M := fun g hg => by
  rcases h g hg with ⟨a, b⟩ | ⟨a, b⟩
  · exact Or.inl ⟨a, by rw [(hs (8 + g) (by omega)).1]; exact b⟩
  · exact Or.inr ⟨a, fun i c d => by rw [(hs (8 + g) (by omega)).v]; exact b i c d⟩
theorem mCk_s {G Y : Nat → Nat → Int32} {k : Nat} (h : mCk G k) (hk : k < 8) (c5 : ∀ j : Nat, Y 5 j = if j = k then G 5 (8 + k) else G 5 j) (c6 : ∀ j : Nat, Y 6 j = if j = k then G 6 (8 + k) else G 6 j) (c8 : ∀ j : Nat, Y 8 j = if j = k then G 8 (8 + k) else G 8 j) (c9 : ∀ j : Nat, Y 9 j = if j = k then vp_nar .boolean (G 9 (8 + k)) else G 9 j) (c10 : ∀ j : Nat, Y 10 j = if j = k then G 10 (8 + k) else G 10 j) (c11 : ∀ j : Nat, Y 11 j = if j = k then G 11 (8 + k) else G 11 j) (c12 : ∀ j : Nat, Y 12 j = if j = k then G 12 (8 + k) else G 12 j) : mCk Y (k + 1) := fun g hg => by
  have n8 : ¬ 8 + g = k := by omega
  rw [c5, c5, c6, c6, c8, c8, c9, c9, c10, c10, c11, c11, c12, c12]
  simp only [if_neg n8]
  by_cases q : g = k
  · subst q
    simp only [if_true]
    exact ⟨trivial, trivial, trivial, trivial, trivial, trivial, trivial⟩
  · simp only [if_neg q]
    exact h g (by omega)
theorem zSeq_v {k : Nat → Nat} {n : Nat} : ∀ (i x : Nat) (M : Nat → Nat → Int), zSeq k n i x M → ∀ g : Nat, ¬ M g 1 = 0 → (M g 4 = 0 ∨ M g 4 = 1) ∧ (M g 6 = 0 ∨ M g 6 = 1 ∨ M g 6 = 2) ∧ (1 ≤ M g 1 ∧ M g 1 ≤ 6) ∧ (1 ≤ M g 2 ∧ M g 2 ≤ 4) := by
  intro i
  induction i with
  | zero => intro x M h g hg; exact absurd (h.2 g 1) hg
  | succ i ih =>
    intro z M h g hg
    obtain ⟨x, A, f, v, h1, h2, h3, h4, rfl⟩ := h
    by_cases e : g = f
    · subst e
      simp only [if_true]
      obtain ⟨h0, h8, hn, s1, l1, b, eb, s2, w2, c, hc, e2, d, ed, s3, p3, s4, m4, s5, y, sq, s6, s7, ez⟩ := h3
      refine ⟨?_, ?_, ⟨l1.2.2.1, l1.2.2.2.1⟩, ?_⟩
      · rcases m4.2.1 with q | q
        · exact Or.inr q.2
        · exact Or.inl q.2
      · rcases sq.2 with q | q | q
        · exact Or.inl q.2.1
        · exact Or.inr (Or.inl q.2.1)
        · exact Or.inr (Or.inr q.2.1)
      · have := hc.1; have := hc.2.1; omega
    · simp only [if_neg e] at hg ⊢
      exact ih x A h1 g hg
theorem mR8_ge {G : Nat → Nat → Int32} {M : Nat → Nat → Int} (h : mR8 G M) (hv : ∀ g : Nat, ¬ M g 1 = 0 → 1 ≤ M g 1) : ∀ g : Nat, g < 8 → 0 ≤ (G 5 (8 + g)).toInt := fun g hg => by
  rcases h g hg with ⟨a, b⟩ | ⟨a, b⟩
  · omega
  · have b1 : (G 5 (8 + g)).toInt = M g 1 := b 1 (by omega) (by omega)
    have := hv g a
    omega
def w7X6_formats : List Cond := .code yX6_formats cX6_formats 4 (some .int) :: ([.fieldLink RX6 13 "SkiShotsModel" "laps" "[I", .fieldLink RX6 16 "SkiShotsModel" "shootMany" "[I", .fieldLink RX6 22 "SkiShotsModel" "spares" "[I", .fieldLink RX6 25 "SkiShotsModel" "isLoop" "[Z", .fieldLink RX6 29 "SkiShotsModel" "cost" "[I", .fieldLink RX6 32 "SkiShotsModel" "startHow" "[I", .fieldLink RX6 35 "SkiShotsModel" "startNumber" "[I", .fieldLink RX6 144 "SkiShotsModel" "kind" "I", .fieldLink RX6 191 "SkiShotsModel" "formatMany" "I", .methodLink RX6 187 yX6_format, .instanceMethod yX6_format, .selects RX6 yX6_format yX6_format, .initialized RX6, .code yX6_format cX6_format 2 (some .boolean), .methodLink RX6 175 yX6_word, .instanceMethod yX6_word, .selects RX6 yX6_word yX6_word, .code yX6_word cX6_word 2 (some .boolean), .fieldLink RX6 141 "SkiShotsModel" "place" "I", .methodLink RX6 162 yX6_wrong, .instanceMethod yX6_wrong, .selects RX6 yX6_wrong yX6_wrong, .code yX6_wrong cX6_wrong 3 (some .boolean), .fieldLink RX6 132 "SkiShotsModel" "fault" "I", .fieldLink RX6 38 "SkiShotsModel" "faultPlace" "I", .fieldLink RX6 155 "SkiShotsModel" "which" "I", .methodLink RX6 166 yX6_take, .instanceMethod yX6_take, .selects RX6 yX6_take yX6_take, .code yX6_take cX6_take 1 none, .fieldLink RX6 138 "SkiShotsModel" "next" "I", .methodLink RX6 158 yX6_isDigit, .instanceMethod yX6_isDigit, .selects RX6 yX6_isDigit yX6_isDigit, .code yX6_isDigit cX6_isDigit 2 (some .boolean), .fieldLink RX6 135 "SkiShotsModel" "size" "I", .fieldLink RX6 7 "SkiShotsModel" "tape" "[I", .constant RX6 161 (99999), .methodLink RX6 147 yX6_isSmall, .instanceMethod yX6_isSmall, .selects RX6 yX6_isSmall yX6_isSmall, .code yX6_isSmall cX6_isSmall 2 (some .boolean), .methodLink RX6 151 yX6_wordAt, .instanceMethod yX6_wordAt, .selects RX6 yX6_wordAt yX6_wordAt, .code yX6_wordAt cX6_wordAt 8 (some .int), .fieldLink RX6 102 "SkiShotsModel" "words" "[I", .methodLink RX6 178 yX6_sign, .instanceMethod yX6_sign, .selects RX6 yX6_sign yX6_sign, .code yX6_sign cX6_sign 2 (some .boolean), .methodLink RX6 172 yX6_number, .instanceMethod yX6_number, .selects RX6 yX6_number yX6_number, .code yX6_number cX6_number 3 (some .boolean), .fieldLink RX6 169 "SkiShotsModel" "read" "I", .methodLink RX6 181 yX6_shots, .instanceMethod yX6_shots, .selects RX6 yX6_shots yX6_shots, .code yX6_shots cX6_shots 4 (some .boolean), .fieldLink RX6 19 "SkiShotsModel" "shoot" "[I", .methodLink RX6 184 yX6_starts, .instanceMethod yX6_starts, .selects RX6 yX6_starts yX6_starts, .code yX6_starts cX6_starts 3 (some .boolean), .fieldLink RX6 126 "SkiShotsModel" "thrown" "I", .fieldLink RX6 129 "SkiShotsModel" "tapeSize" "I"] ++ wsX60)
set_option maxRecDepth 20000 in
theorem g8_X6_formats_X6_format_23 : GoodIn w7X6_formats (wsV RX6 187 RX6 yX6_format w7X6_format) := goodIn_p _ [14, 18, 23, 30, 35, 42, 46, 51, 55, 60, 65] rfl (by decide +kernel)
set_option maxRecDepth 20000 in
theorem g8_X6_formats_X6_take_48 : GoodIn w7X6_formats (wsV RX6 166 RX6 yX6_take w7X6_take) := goodIn_p _ [30, 35, 42, 46] rfl (by decide +kernel)
set_option maxHeartbeats 4000000 in
set_option maxRecDepth 100000 in
theorem g7_X6_formats (l : Launch) (D : va_G) (h0 : Nat) (q : Nat → Nat) (cq : Nat → ClassId) (F : Nat → Int32) (G : Nat → Nat → Int32) (sz : Nat) (p0 : Int32) (hI : mI F G)  : Met l yX6_formats w7X6_formats ({ frames := 5, cells := 0, slots := 0, locals := 112 }) (mPre D h0 q cq F G sz [.ref h0, .int p0]) (mQi D h0 q cq F G sz [1, 2, 4, 13, 14, 39, 40, 41, 42, 43, 44] [5, 6, 7, 8, 9, 10, 11, 12] (fun r F' G' => (¬ (0 ≤ p0.toInt ∧ p0.toInt ≤ (F 1).toInt) ∧ r.toInt = -2 ∧ (F' 1).toInt = (F 1).toInt ∧ (F' 4).toInt = (F 4).toInt ∧ (∀ j : Nat, j < 8 → mSame G G' j)) ∨ ((0 ≤ p0.toInt ∧ p0.toInt ≤ (F 1).toInt) ∧ (F' 1).toInt = 0 ∧ ((r.toInt = -1 ∧ (∀ (c : Nat) (M : Nat → Nat → Int), ¬ zOk (zk (fun j => (G 0 j).toInt) p0.toInt.toNat) p0.toInt.toNat c M) ∧ (F' 4).toInt = (F 4).toInt ∧ (∀ j : Nat, j < 8 → mSame G G' j)) ∨ (∃ (c : Nat) (M : Nat → Nat → Int), zOk (zk (fun j => (G 0 j).toInt) p0.toInt.toNat) p0.toInt.toNat c M ∧ r.toInt = (c : Int) ∧ (F' 4).toInt = (c : Int) ∧ mRc G' M))))) 0 0 (va_A (mW h0 q cq F G) sz) := by
  refine mr_met (WF := [1, 2, 4, 13, 14, 39, 40, 41, 42, 43, 44]) (WG := [5, 6, 7, 8, 9, 10, 11, 12]) (cc := cX6_formats) (maxL := 4) (ret := (some .int)) (by decide) rfl rfl (by decide +kernel) (Nat.le_of_ble_eq_true rfl) hI ?_
  intro p e s m args below meth c ls E hml hr hlk hsz hA hM hl
  have hx := E.1
  have hb := E.2.1
  have hts := E.2.2.1
  have hown := E.2.2.2.2.1
  have hl : lv_has ls 4 [(0, .ref h0), (1, .int p0)] := hl
  obtain ⟨kz, hkz⟩ : ∃ k : Nat → Nat, k = (zk (fun j => (G 0 j).toInt) p0.toInt.toNat) := ⟨_, rfl⟩
  obtain ⟨nz, hnz⟩ : ∃ n : Nat, n = p0.toInt.toNat := ⟨_, rfl⟩
  have B_102 : ∀ n_102 : Nat, ∀ (H : Heap) (locs : List Loc) (ls : Array Slot) (Fc_102 : Nat → Int32) (Gc_102 : Nat → Nat → Int32) (many k : Int32), (0 ≤ k.toInt ∧ k.toInt ≤ 8) → (0 ≤ many.toInt ∧ many.toInt ≤ 1000) → (Fc_102 1).toInt = 0 → 0 ≤ p0.toInt ∧ p0.toInt ≤ (F 1).toInt → (Fc_102 4).toInt = many.toInt → (∃ M : Nat → Nat → Int, zOk kz nz (many.toInt.toNat) M ∧ (∀ g : Nat, ¬ M g 1 = 0 → M g 4 = 0 ∨ M g 4 = 1) ∧ mR8 Gc_102 M) → mCk Gc_102 (Int32.toNatClampNeg k) → (8 - k.toInt) < (n_102 : Int) → mQ D h0 q cq (va_A (mW h0 q cq F G) sz) s.heap [1, 2, 4, 13, 14, 39, 40, 41, 42, 43, 44] [5, 6, 7, 8, 9, 10, 11, 12] F G H locs Fc_102 Gc_102 → lv_has ls 4 [(0, .ref h0), (1, .int p0), (2, .int many), (3, .int k)] → W p l e ({ frames := 5, cells := 0, slots := 0, locals := 112 }) s m args below meth c H locs 0 0 (MQ below (mQi D h0 q cq F G sz [1, 2, 4, 13, 14, 39, 40, 41, 42, 43, 44] [5, 6, 7, 8, 9, 10, 11, 12] (fun r F' G' => (¬ (0 ≤ p0.toInt ∧ p0.toInt ≤ (F 1).toInt) ∧ r.toInt = -2 ∧ (F' 1).toInt = (F 1).toInt ∧ (F' 4).toInt = (F 4).toInt ∧ (∀ j : Nat, j < 8 → mSame G G' j)) ∨ ((0 ≤ p0.toInt ∧ p0.toInt ≤ (F 1).toInt) ∧ (F' 1).toInt = 0 ∧ ((r.toInt = -1 ∧ (∀ (c : Nat) (M : Nat → Nat → Int), ¬ zOk (zk (fun j => (G 0 j).toInt) p0.toInt.toNat) p0.toInt.toNat c M) ∧ (F' 4).toInt = (F 4).toInt ∧ (∀ j : Nat, j < 8 → mSame G G' j)) ∨ (∃ (c : Nat) (M : Nat → Nat → Int), zOk (zk (fun j => (G 0 j).toInt) p0.toInt.toNat) p0.toInt.toNat c M ∧ r.toInt = (c : Int) ∧ (F' 4).toInt = (c : Int) ∧ mRc G' M))))) args s 0 0 (va_A (mW h0 q cq F G) sz)) (F0 m 102 ls []) := by
    intro n_102
    induction n_102 with
    | zero => intro H locs ls Fc_102 Gc_102 many k f102_0 f102_1 f102_2 f102_3 f102_4 f102_5 f102_6 hn hM hl; exact False.elim (by have hfr_102 := hM.fr; omega)
    | succ n_102 ih_102 =>
      intro H locs ls Fc_102 Gc_102 many k f102_0 f102_1 f102_2 f102_3 f102_4 f102_5 f102_6 hn hM hl
      have hfr_102 := hM.fr
      obtain ⟨Mo, ok9, hb9, rp9⟩ := f102_5
      refine lv_iload_n hx hb dX6_formats_102 rfl (lv_at hl 3 rfl) ?_
      refine lv_bipush (v := 8) hx hb dX6_formats_103 (by decide) ?_
      refine mm_icmp_ge (X := k.toInt) (Y := 8) (tgt := 219) hx hb dX6_formats_105 (by decide) rfl num_8 (fun c_1 => ?_) (fun c_1 => ?_)
      · refine lv_iload_n hx hb dX6_formats_219 rfl (lv_at hl 2 rfl) ?_
        have b_2 : 0 ≤ (Fc_102 1).toInt ∧ (Fc_102 1).toInt ≤ 1000 := hM.fb 1 rfl
        exact mr_ri E hr hlk hsz hM (show (¬ (0 ≤ p0.toInt ∧ p0.toInt ≤ (F 1).toInt) ∧ many.toInt = -2 ∧ (Fc_102 1).toInt = (F 1).toInt ∧ (Fc_102 4).toInt = (F 4).toInt ∧ (∀ j : Nat, j < 8 → mSame G Gc_102 j)) ∨ ((0 ≤ p0.toInt ∧ p0.toInt ≤ (F 1).toInt) ∧ (Fc_102 1).toInt = 0 ∧ ((many.toInt = -1 ∧ (∀ (c : Nat) (M : Nat → Nat → Int), ¬ zOk (zk (fun j => (G 0 j).toInt) p0.toInt.toNat) p0.toInt.toNat c M) ∧ (Fc_102 4).toInt = (F 4).toInt ∧ (∀ j : Nat, j < 8 → mSame G Gc_102 j)) ∨ (∃ (c : Nat) (M : Nat → Nat → Int), zOk (zk (fun j => (G 0 j).toInt) p0.toInt.toNat) p0.toInt.toNat c M ∧ many.toInt = (c : Int) ∧ (Fc_102 4).toInt = (c : Int) ∧ mRc Gc_102 M))) from by exact Or.inr ⟨by omega, by omega, Or.inr ⟨many.toInt.toNat, Mo, (by rw [← hkz, ← hnz]; exact ok9), by omega, by omega, mR8_c rp9 (by have h := f102_6; rw [show Int32.toNatClampNeg k = 8 from by rw [mm_nat]; omega] at h; exact h) hb9⟩⟩) dX6_formats_220
      · refine lv_aload_n hx hb dX6_formats_108 rfl (lv_at hl 0 rfl) ?_
        refine mr_get (v := .ref (q 5)) E hM 5 (by decide) (index := 13) (mm_at 1 rfl) rfl rfl dX6_formats_109 ?_
        refine lv_iload_n hx hb dX6_formats_112 rfl (lv_at hl 3 rfl) ?_
        refine lv_aload_n hx hb dX6_formats_113 rfl (lv_at hl 0 rfl) ?_
        refine mr_get (v := .ref (q 5)) E hM 5 (by decide) (index := 13) (mm_at 1 rfl) rfl rfl dX6_formats_114 ?_
        refine lv_bipush (v := 8) hx hb dX6_formats_117 (by decide) ?_
        refine lv_iload_n hx hb dX6_formats_119 rfl (lv_at hl 3 rfl) ?_
        refine mm_iadd (X := 8) (Y := k.toInt) hx hb dX6_formats_120 num_8 rfl (by omega) (fun z_3 hz_3 => ?_)
        refine mr_ald (X := z_3.toInt) E hM 2 1 rfl rfl rfl (by omega) dX6_formats_121 ?_
        refine mr_ast (X := k.toInt) E hM 5 2 1 rfl rfl rfl (by omega) mg_5 (by decide) (mm_nbA rfl) (by decide) dX6_formats_122 (fun H locs G_4 eG_4 hM => ?_)
        refine lv_aload_n hx hb dX6_formats_123 rfl (lv_at hl 0 rfl) ?_
        refine mr_get (v := .ref (q 6)) E hM 6 (by decide) (index := 16) (mm_at 2 rfl) rfl rfl dX6_formats_124 ?_
        refine lv_iload_n hx hb dX6_formats_127 rfl (lv_at hl 3 rfl) ?_
        refine lv_aload_n hx hb dX6_formats_128 rfl (lv_at hl 0 rfl) ?_
        refine mr_get (v := .ref (q 6)) E hM 6 (by decide) (index := 16) (mm_at 2 rfl) rfl rfl dX6_formats_129 ?_
        refine lv_bipush (v := 8) hx hb dX6_formats_132 (by decide) ?_
        refine lv_iload_n hx hb dX6_formats_134 rfl (lv_at hl 3 rfl) ?_
        refine mm_iadd (X := 8) (Y := k.toInt) hx hb dX6_formats_135 num_8 rfl (by omega) (fun z_5 hz_5 => ?_)
        refine mr_ald (X := z_5.toInt) E hM 3 2 rfl rfl rfl (by omega) dX6_formats_136 ?_
        have b_6 : 0 ≤ (G_4 6 (Int32.toNatClampNeg z_5)).toInt ∧ (G_4 6 (Int32.toNatClampNeg z_5)).toInt ≤ 4 := hM.ab 6 rfl _
        refine mr_ast (X := k.toInt) E hM 6 3 2 rfl rfl rfl (by omega) mg_6 (by decide) (mm_bdA (X := (G_4 6 (Int32.toNatClampNeg z_5)).toInt) (a := 0) (b := 4) rfl rfl (by omega)) (by decide) dX6_formats_137 (fun H locs G_7 eG_7 hM => ?_)
        refine lv_aload_n hx hb dX6_formats_138 rfl (lv_at hl 0 rfl) ?_
        refine mr_get (v := .ref (q 8)) E hM 8 (by decide) (index := 22) (mm_at 3 rfl) rfl rfl dX6_formats_139 ?_
        refine lv_iload_n hx hb dX6_formats_142 rfl (lv_at hl 3 rfl) ?_
        refine lv_aload_n hx hb dX6_formats_143 rfl (lv_at hl 0 rfl) ?_
        refine mr_get (v := .ref (q 8)) E hM 8 (by decide) (index := 22) (mm_at 3 rfl) rfl rfl dX6_formats_144 ?_
        refine lv_bipush (v := 8) hx hb dX6_formats_147 (by decide) ?_
        refine lv_iload_n hx hb dX6_formats_149 rfl (lv_at hl 3 rfl) ?_
        refine mm_iadd (X := 8) (Y := k.toInt) hx hb dX6_formats_150 num_8 rfl (by omega) (fun z_8 hz_8 => ?_)
        refine mr_ald (X := z_8.toInt) E hM 5 4 rfl rfl rfl (by omega) dX6_formats_151 ?_
        refine mr_ast (X := k.toInt) E hM 8 5 4 rfl rfl rfl (by omega) mg_8 (by decide) (mm_nbA rfl) (by decide) dX6_formats_152 (fun H locs G_9 eG_9 hM => ?_)
        refine lv_aload_n hx hb dX6_formats_153 rfl (lv_at hl 0 rfl) ?_
        refine mr_get (v := .ref (q 9)) E hM 9 (by decide) (index := 25) (mm_at 4 rfl) rfl rfl dX6_formats_154 ?_
        refine lv_iload_n hx hb dX6_formats_157 rfl (lv_at hl 3 rfl) ?_
        refine lv_aload_n hx hb dX6_formats_158 rfl (lv_at hl 0 rfl) ?_
        refine mr_get (v := .ref (q 9)) E hM 9 (by decide) (index := 25) (mm_at 4 rfl) rfl rfl dX6_formats_159 ?_
        refine lv_bipush (v := 8) hx hb dX6_formats_162 (by decide) ?_
        refine lv_iload_n hx hb dX6_formats_164 rfl (lv_at hl 3 rfl) ?_
        refine mm_iadd (X := 8) (Y := k.toInt) hx hb dX6_formats_165 num_8 rfl (by omega) (fun z_10 hz_10 => ?_)
        refine mr_zld (X := z_10.toInt) E hM 6 5 rfl rfl rfl (by omega) dX6_formats_166 ?_
        refine mr_zst (X := k.toInt) E hM 9 6 5 rfl rfl rfl (by omega) mg_9 (by decide) rfl (by decide) dX6_formats_167 (fun H locs G_11 eG_11 hM => ?_)
        refine lv_aload_n hx hb dX6_formats_168 rfl (lv_at hl 0 rfl) ?_
        refine mr_get (v := .ref (q 10)) E hM 10 (by decide) (index := 29) (mm_at 5 rfl) rfl rfl dX6_formats_169 ?_
        refine lv_iload_n hx hb dX6_formats_172 rfl (lv_at hl 3 rfl) ?_
        refine lv_aload_n hx hb dX6_formats_173 rfl (lv_at hl 0 rfl) ?_
        refine mr_get (v := .ref (q 10)) E hM 10 (by decide) (index := 29) (mm_at 5 rfl) rfl rfl dX6_formats_174 ?_
        refine lv_bipush (v := 8) hx hb dX6_formats_177 (by decide) ?_
        refine lv_iload_n hx hb dX6_formats_179 rfl (lv_at hl 3 rfl) ?_
        refine mm_iadd (X := 8) (Y := k.toInt) hx hb dX6_formats_180 num_8 rfl (by omega) (fun z_12 hz_12 => ?_)
        refine mr_ald (X := z_12.toInt) E hM 7 6 rfl rfl rfl (by omega) dX6_formats_181 ?_
        refine mr_ast (X := k.toInt) E hM 10 7 6 rfl rfl rfl (by omega) mg_10 (by decide) (mm_nbA rfl) (by decide) dX6_formats_182 (fun H locs G_13 eG_13 hM => ?_)
        refine lv_aload_n hx hb dX6_formats_183 rfl (lv_at hl 0 rfl) ?_
        refine mr_get (v := .ref (q 11)) E hM 11 (by decide) (index := 32) (mm_at 6 rfl) rfl rfl dX6_formats_184 ?_
        refine lv_iload_n hx hb dX6_formats_187 rfl (lv_at hl 3 rfl) ?_
        refine lv_aload_n hx hb dX6_formats_188 rfl (lv_at hl 0 rfl) ?_
        refine mr_get (v := .ref (q 11)) E hM 11 (by decide) (index := 32) (mm_at 6 rfl) rfl rfl dX6_formats_189 ?_
        refine lv_bipush (v := 8) hx hb dX6_formats_192 (by decide) ?_
        refine lv_iload_n hx hb dX6_formats_194 rfl (lv_at hl 3 rfl) ?_
        refine mm_iadd (X := 8) (Y := k.toInt) hx hb dX6_formats_195 num_8 rfl (by omega) (fun z_14 hz_14 => ?_)
        refine mr_ald (X := z_14.toInt) E hM 8 7 rfl rfl rfl (by omega) dX6_formats_196 ?_
        refine mr_ast (X := k.toInt) E hM 11 8 7 rfl rfl rfl (by omega) mg_11 (by decide) (mm_nbA rfl) (by decide) dX6_formats_197 (fun H locs G_15 eG_15 hM => ?_)
        refine lv_aload_n hx hb dX6_formats_198 rfl (lv_at hl 0 rfl) ?_
        refine mr_get (v := .ref (q 12)) E hM 12 (by decide) (index := 35) (mm_at 7 rfl) rfl rfl dX6_formats_199 ?_
        refine lv_iload_n hx hb dX6_formats_202 rfl (lv_at hl 3 rfl) ?_
        refine lv_aload_n hx hb dX6_formats_203 rfl (lv_at hl 0 rfl) ?_
        refine mr_get (v := .ref (q 12)) E hM 12 (by decide) (index := 35) (mm_at 7 rfl) rfl rfl dX6_formats_204 ?_
        refine lv_bipush (v := 8) hx hb dX6_formats_207 (by decide) ?_
        refine lv_iload_n hx hb dX6_formats_209 rfl (lv_at hl 3 rfl) ?_
        refine mm_iadd (X := 8) (Y := k.toInt) hx hb dX6_formats_210 num_8 rfl (by omega) (fun z_16 hz_16 => ?_)
        refine mr_ald (X := z_16.toInt) E hM 9 8 rfl rfl rfl (by omega) dX6_formats_211 ?_
        refine mr_ast (X := k.toInt) E hM 12 9 8 rfl rfl rfl (by omega) mg_12 (by decide) (mm_nbA rfl) (by decide) dX6_formats_212 (fun H locs G_17 eG_17 hM => ?_)
        have c_5 : ∀ j : Nat, G_17 5 j = if j = Int32.toNatClampNeg k then  (Gc_102 5 (8 + Int32.toNatClampNeg k)) else Gc_102 5 j := fun j => (show G_17 5 j = G_4 5 j from ((congrFun (show G_17 5 = G_15 5 from by rw [eG_17]; simp only [mUp]; rfl) j).trans ((congrFun (show G_15 5 = G_13 5 from by rw [eG_15]; simp only [mUp]; rfl) j).trans ((congrFun (show G_13 5 = G_11 5 from by rw [eG_13]; simp only [mUp]; rfl) j).trans ((congrFun (show G_11 5 = G_9 5 from by rw [eG_11]; simp only [mUp]; rfl) j).trans ((congrFun (show G_9 5 = G_7 5 from by rw [eG_9]; simp only [mUp]; rfl) j).trans ((congrFun (show G_7 5 = G_4 5 from by rw [eG_7]; simp only [mUp]; rfl) j).trans rfl))))))).trans (by rw [eG_4]; simp only [mUp, if_true, upd]; rw [show Gc_102 5 (Int32.toNatClampNeg z_3) = Gc_102 5 (8 + Int32.toNatClampNeg k) from (show _ = Gc_102 5 (Int32.toNatClampNeg z_3) from rfl).trans (by rw [show Int32.toNatClampNeg z_3 = 8 + Int32.toNatClampNeg k from by simp only [mm_nat]; omega]), show Gc_102 5 j = Gc_102 5 j from rfl])
        have c_6 : ∀ j : Nat, G_17 6 j = if j = Int32.toNatClampNeg k then  (Gc_102 6 (8 + Int32.toNatClampNeg k)) else Gc_102 6 j := fun j => (show G_17 6 j = G_7 6 j from ((congrFun (show G_17 6 = G_15 6 from by rw [eG_17]; simp only [mUp]; rfl) j).trans ((congrFun (show G_15 6 = G_13 6 from by rw [eG_15]; simp only [mUp]; rfl) j).trans ((congrFun (show G_13 6 = G_11 6 from by rw [eG_13]; simp only [mUp]; rfl) j).trans ((congrFun (show G_11 6 = G_9 6 from by rw [eG_11]; simp only [mUp]; rfl) j).trans ((congrFun (show G_9 6 = G_7 6 from by rw [eG_9]; simp only [mUp]; rfl) j).trans rfl)))))).trans (by rw [eG_7]; simp only [mUp, if_true, upd]; rw [show G_4 6 (Int32.toNatClampNeg z_5) = Gc_102 6 (8 + Int32.toNatClampNeg k) from (show _ = Gc_102 6 (Int32.toNatClampNeg z_5) from ((congrFun (show G_4 6 = Gc_102 6 from by rw [eG_4]; simp only [mUp]; rfl) _).trans rfl)).trans (by rw [show Int32.toNatClampNeg z_5 = 8 + Int32.toNatClampNeg k from by simp only [mm_nat]; omega]), show G_4 6 j = Gc_102 6 j from ((congrFun (show G_4 6 = Gc_102 6 from by rw [eG_4]; simp only [mUp]; rfl) j).trans rfl)])
        have c_8 : ∀ j : Nat, G_17 8 j = if j = Int32.toNatClampNeg k then  (Gc_102 8 (8 + Int32.toNatClampNeg k)) else Gc_102 8 j := fun j => (show G_17 8 j = G_9 8 j from ((congrFun (show G_17 8 = G_15 8 from by rw [eG_17]; simp only [mUp]; rfl) j).trans ((congrFun (show G_15 8 = G_13 8 from by rw [eG_15]; simp only [mUp]; rfl) j).trans ((congrFun (show G_13 8 = G_11 8 from by rw [eG_13]; simp only [mUp]; rfl) j).trans ((congrFun (show G_11 8 = G_9 8 from by rw [eG_11]; simp only [mUp]; rfl) j).trans rfl))))).trans (by rw [eG_9]; simp only [mUp, if_true, upd]; rw [show G_7 8 (Int32.toNatClampNeg z_8) = Gc_102 8 (8 + Int32.toNatClampNeg k) from (show _ = Gc_102 8 (Int32.toNatClampNeg z_8) from ((congrFun (show G_7 8 = G_4 8 from by rw [eG_7]; simp only [mUp]; rfl) _).trans ((congrFun (show G_4 8 = Gc_102 8 from by rw [eG_4]; simp only [mUp]; rfl) _).trans rfl))).trans (by rw [show Int32.toNatClampNeg z_8 = 8 + Int32.toNatClampNeg k from by simp only [mm_nat]; omega]), show G_7 8 j = Gc_102 8 j from ((congrFun (show G_7 8 = G_4 8 from by rw [eG_7]; simp only [mUp]; rfl) j).trans ((congrFun (show G_4 8 = Gc_102 8 from by rw [eG_4]; simp only [mUp]; rfl) j).trans rfl))])
        have c_9 : ∀ j : Nat, G_17 9 j = if j = Int32.toNatClampNeg k then vp_nar .boolean (Gc_102 9 (8 + Int32.toNatClampNeg k)) else Gc_102 9 j := fun j => (show G_17 9 j = G_11 9 j from ((congrFun (show G_17 9 = G_15 9 from by rw [eG_17]; simp only [mUp]; rfl) j).trans ((congrFun (show G_15 9 = G_13 9 from by rw [eG_15]; simp only [mUp]; rfl) j).trans ((congrFun (show G_13 9 = G_11 9 from by rw [eG_13]; simp only [mUp]; rfl) j).trans rfl)))).trans (by rw [eG_11]; simp only [mUp, if_true, upd]; rw [show G_9 9 (Int32.toNatClampNeg z_10) = Gc_102 9 (8 + Int32.toNatClampNeg k) from (show _ = Gc_102 9 (Int32.toNatClampNeg z_10) from ((congrFun (show G_9 9 = G_7 9 from by rw [eG_9]; simp only [mUp]; rfl) _).trans ((congrFun (show G_7 9 = G_4 9 from by rw [eG_7]; simp only [mUp]; rfl) _).trans ((congrFun (show G_4 9 = Gc_102 9 from by rw [eG_4]; simp only [mUp]; rfl) _).trans rfl)))).trans (by rw [show Int32.toNatClampNeg z_10 = 8 + Int32.toNatClampNeg k from by simp only [mm_nat]; omega]), show G_9 9 j = Gc_102 9 j from ((congrFun (show G_9 9 = G_7 9 from by rw [eG_9]; simp only [mUp]; rfl) j).trans ((congrFun (show G_7 9 = G_4 9 from by rw [eG_7]; simp only [mUp]; rfl) j).trans ((congrFun (show G_4 9 = Gc_102 9 from by rw [eG_4]; simp only [mUp]; rfl) j).trans rfl)))])
        have c_10 : ∀ j : Nat, G_17 10 j = if j = Int32.toNatClampNeg k then  (Gc_102 10 (8 + Int32.toNatClampNeg k)) else Gc_102 10 j := fun j => (show G_17 10 j = G_13 10 j from ((congrFun (show G_17 10 = G_15 10 from by rw [eG_17]; simp only [mUp]; rfl) j).trans ((congrFun (show G_15 10 = G_13 10 from by rw [eG_15]; simp only [mUp]; rfl) j).trans rfl))).trans (by rw [eG_13]; simp only [mUp, if_true, upd]; rw [show G_11 10 (Int32.toNatClampNeg z_12) = Gc_102 10 (8 + Int32.toNatClampNeg k) from (show _ = Gc_102 10 (Int32.toNatClampNeg z_12) from ((congrFun (show G_11 10 = G_9 10 from by rw [eG_11]; simp only [mUp]; rfl) _).trans ((congrFun (show G_9 10 = G_7 10 from by rw [eG_9]; simp only [mUp]; rfl) _).trans ((congrFun (show G_7 10 = G_4 10 from by rw [eG_7]; simp only [mUp]; rfl) _).trans ((congrFun (show G_4 10 = Gc_102 10 from by rw [eG_4]; simp only [mUp]; rfl) _).trans rfl))))).trans (by rw [show Int32.toNatClampNeg z_12 = 8 + Int32.toNatClampNeg k from by simp only [mm_nat]; omega]), show G_11 10 j = Gc_102 10 j from ((congrFun (show G_11 10 = G_9 10 from by rw [eG_11]; simp only [mUp]; rfl) j).trans ((congrFun (show G_9 10 = G_7 10 from by rw [eG_9]; simp only [mUp]; rfl) j).trans ((congrFun (show G_7 10 = G_4 10 from by rw [eG_7]; simp only [mUp]; rfl) j).trans ((congrFun (show G_4 10 = Gc_102 10 from by rw [eG_4]; simp only [mUp]; rfl) j).trans rfl))))])
        have c_11 : ∀ j : Nat, G_17 11 j = if j = Int32.toNatClampNeg k then  (Gc_102 11 (8 + Int32.toNatClampNeg k)) else Gc_102 11 j := fun j => (show G_17 11 j = G_15 11 j from ((congrFun (show G_17 11 = G_15 11 from by rw [eG_17]; simp only [mUp]; rfl) j).trans rfl)).trans (by rw [eG_15]; simp only [mUp, if_true, upd]; rw [show G_13 11 (Int32.toNatClampNeg z_14) = Gc_102 11 (8 + Int32.toNatClampNeg k) from (show _ = Gc_102 11 (Int32.toNatClampNeg z_14) from ((congrFun (show G_13 11 = G_11 11 from by rw [eG_13]; simp only [mUp]; rfl) _).trans ((congrFun (show G_11 11 = G_9 11 from by rw [eG_11]; simp only [mUp]; rfl) _).trans ((congrFun (show G_9 11 = G_7 11 from by rw [eG_9]; simp only [mUp]; rfl) _).trans ((congrFun (show G_7 11 = G_4 11 from by rw [eG_7]; simp only [mUp]; rfl) _).trans ((congrFun (show G_4 11 = Gc_102 11 from by rw [eG_4]; simp only [mUp]; rfl) _).trans rfl)))))).trans (by rw [show Int32.toNatClampNeg z_14 = 8 + Int32.toNatClampNeg k from by simp only [mm_nat]; omega]), show G_13 11 j = Gc_102 11 j from ((congrFun (show G_13 11 = G_11 11 from by rw [eG_13]; simp only [mUp]; rfl) j).trans ((congrFun (show G_11 11 = G_9 11 from by rw [eG_11]; simp only [mUp]; rfl) j).trans ((congrFun (show G_9 11 = G_7 11 from by rw [eG_9]; simp only [mUp]; rfl) j).trans ((congrFun (show G_7 11 = G_4 11 from by rw [eG_7]; simp only [mUp]; rfl) j).trans ((congrFun (show G_4 11 = Gc_102 11 from by rw [eG_4]; simp only [mUp]; rfl) j).trans rfl)))))])
        have c_12 : ∀ j : Nat, G_17 12 j = if j = Int32.toNatClampNeg k then  (Gc_102 12 (8 + Int32.toNatClampNeg k)) else Gc_102 12 j := fun j => (show G_17 12 j = G_17 12 j from rfl).trans (by rw [eG_17]; simp only [mUp, if_true, upd]; rw [show G_15 12 (Int32.toNatClampNeg z_16) = Gc_102 12 (8 + Int32.toNatClampNeg k) from (show _ = Gc_102 12 (Int32.toNatClampNeg z_16) from ((congrFun (show G_15 12 = G_13 12 from by rw [eG_15]; simp only [mUp]; rfl) _).trans ((congrFun (show G_13 12 = G_11 12 from by rw [eG_13]; simp only [mUp]; rfl) _).trans ((congrFun (show G_11 12 = G_9 12 from by rw [eG_11]; simp only [mUp]; rfl) _).trans ((congrFun (show G_9 12 = G_7 12 from by rw [eG_9]; simp only [mUp]; rfl) _).trans ((congrFun (show G_7 12 = G_4 12 from by rw [eG_7]; simp only [mUp]; rfl) _).trans ((congrFun (show G_4 12 = Gc_102 12 from by rw [eG_4]; simp only [mUp]; rfl) _).trans rfl))))))).trans (by rw [show Int32.toNatClampNeg z_16 = 8 + Int32.toNatClampNeg k from by simp only [mm_nat]; omega]), show G_15 12 j = Gc_102 12 j from ((congrFun (show G_15 12 = G_13 12 from by rw [eG_15]; simp only [mUp]; rfl) j).trans ((congrFun (show G_13 12 = G_11 12 from by rw [eG_13]; simp only [mUp]; rfl) j).trans ((congrFun (show G_11 12 = G_9 12 from by rw [eG_11]; simp only [mUp]; rfl) j).trans ((congrFun (show G_9 12 = G_7 12 from by rw [eG_9]; simp only [mUp]; rfl) j).trans ((congrFun (show G_7 12 = G_4 12 from by rw [eG_7]; simp only [mUp]; rfl) j).trans ((congrFun (show G_4 12 = Gc_102 12 from by rw [eG_4]; simp only [mUp]; rfl) j).trans rfl))))))])
        refine mm_iinc (X := k.toInt) (v := 1) (lv2 := fun z => [(3, .int z), (0, .ref h0), (1, .int p0), (2, .int many)]) hx hb dX6_formats_213 hl (k := 3) rfl rfl (by decide) num_1 (by omega) (by decide) (fun _ => rfl) (fun z_18 ls hz_18 hl => ?_)
        have hl : lv_has ls 4 [(3, .int z_18), (0, .ref h0), (1, .int p0), (2, .int many)] := hl
        refine lv_goto (tgt := 102) hx hb dX6_formats_216 (by decide) ?_
        have b_19 : 0 ≤ (Fc_102 1).toInt ∧ (Fc_102 1).toInt ≤ 1000 := hM.fb 1 rfl
        exact ih_102 _ _ _ Fc_102 G_17 many z_18 (show (0 ≤ z_18.toInt ∧ z_18.toInt ≤ 8) from by omega) (show (0 ≤ many.toInt ∧ many.toInt ≤ 1000) from by omega) (show (Fc_102 1).toInt = 0 from by omega) (show 0 ≤ p0.toInt ∧ p0.toInt ≤ (F 1).toInt from by omega) (show (Fc_102 4).toInt = many.toInt from by omega) (show (∃ M : Nat → Nat → Int, zOk kz nz (many.toInt.toNat) M ∧ (∀ g : Nat, ¬ M g 1 = 0 → M g 4 = 0 ∨ M g 4 = 1) ∧ mR8 G_17 M) from by exact ⟨Mo, ok9, hb9, mR8_t rp9 (fun j h9 => ⟨(c_5 j).trans (if_neg (by rw [mm_nat]; omega)), (c_6 j).trans (if_neg (by rw [mm_nat]; omega)), (c_8 j).trans (if_neg (by rw [mm_nat]; omega)), (c_9 j).trans (if_neg (by rw [mm_nat]; omega)), (c_10 j).trans (if_neg (by rw [mm_nat]; omega)), (c_11 j).trans (if_neg (by rw [mm_nat]; omega)), (c_12 j).trans (if_neg (by rw [mm_nat]; omega))⟩)⟩) (show mCk G_17 (Int32.toNatClampNeg z_18) from by rw [show Int32.toNatClampNeg z_18 = Int32.toNatClampNeg k + 1 from by simp only [mm_nat]; omega]; exact mCk_s f102_6 (mm_cl ⟨by omega, by omega⟩) c_5 c_6 c_8 c_9 c_10 c_11 c_12) (show (8 - z_18.toInt) < ((n_102 : Nat) : Int) from by omega) hM (lv_sub hl [1, 2, 3, 0] rfl)
  have B_73 : ∀ n_73 : Nat, ∀ (H : Heap) (locs : List Loc) (ls : Array Slot) (Fc_73 : Nat → Int32) (Gc_73 : Nat → Nat → Int32) (many : Int32), (0 ≤ many.toInt ∧ many.toInt ≤ 1000) → (Fc_73 1).toInt = 0 → 0 ≤ p0.toInt ∧ p0.toInt ≤ (F 1).toInt → (Fc_73 40).toInt ≤ (Fc_73 39).toInt → ¬ (Fc_73 41).toInt = 2 ∨ (65 ≤ (Fc_73 42).toInt ∧ (Fc_73 42).toInt ≤ 72) → many.toInt ≤ (Fc_73 40).toInt → (Fc_73 39).toInt = p0.toInt → (Fc_73 4).toInt = (F 4).toInt → (∃ (x : Nat) (M : Nat → Nat → Int), zSeq kz nz (many.toInt.toNat) x M ∧ (Fc_73 43).toInt = (ztp kz x : Int) ∧ (Fc_73 40).toInt = (zty kz nz x : Int) ∧ mKW kz nz x (Fc_73 41).toInt (Fc_73 42).toInt ∧ mR8 Gc_73 M) → (∀ j : Nat, j < 8 → mSame G Gc_73 j) → ((Fc_73 39).toInt - (Fc_73 40).toInt) < (n_73 : Int) → mQ D h0 q cq (va_A (mW h0 q cq F G) sz) s.heap [1, 2, 4, 13, 14, 39, 40, 41, 42, 43, 44] [5, 6, 7, 8, 9, 10, 11, 12] F G H locs Fc_73 Gc_73 → lv_has ls 4 [(0, .ref h0), (1, .int p0), (2, .int many)] → W p l e ({ frames := 5, cells := 0, slots := 0, locals := 112 }) s m args below meth c H locs 0 0 (MQ below (mQi D h0 q cq F G sz [1, 2, 4, 13, 14, 39, 40, 41, 42, 43, 44] [5, 6, 7, 8, 9, 10, 11, 12] (fun r F' G' => (¬ (0 ≤ p0.toInt ∧ p0.toInt ≤ (F 1).toInt) ∧ r.toInt = -2 ∧ (F' 1).toInt = (F 1).toInt ∧ (F' 4).toInt = (F 4).toInt ∧ (∀ j : Nat, j < 8 → mSame G G' j)) ∨ ((0 ≤ p0.toInt ∧ p0.toInt ≤ (F 1).toInt) ∧ (F' 1).toInt = 0 ∧ ((r.toInt = -1 ∧ (∀ (c : Nat) (M : Nat → Nat → Int), ¬ zOk (zk (fun j => (G 0 j).toInt) p0.toInt.toNat) p0.toInt.toNat c M) ∧ (F' 4).toInt = (F 4).toInt ∧ (∀ j : Nat, j < 8 → mSame G G' j)) ∨ (∃ (c : Nat) (M : Nat → Nat → Int), zOk (zk (fun j => (G 0 j).toInt) p0.toInt.toNat) p0.toInt.toNat c M ∧ r.toInt = (c : Int) ∧ (F' 4).toInt = (c : Int) ∧ mRc G' M))))) args s 0 0 (va_A (mW h0 q cq F G) sz)) (F0 m 73 ls []) := by
    intro n_73
    induction n_73 with
    | zero => intro H locs ls Fc_73 Gc_73 many f73_0 f73_1 f73_2 f73_3 f73_4 f73_5 f73_6 f73_7 f73_8 f73_9 hn hM hl; exact False.elim (by have hfr_73 := hM.fr; omega)
    | succ n_73 ih_73 =>
      intro H locs ls Fc_73 Gc_73 many f73_0 f73_1 f73_2 f73_3 f73_4 f73_5 f73_6 f73_7 f73_8 f73_9 hn hM hl
      have hfr_73 := hM.fr
      obtain ⟨x9, M9, sq9, at1_, at2_, kw9, rp9⟩ := f73_8
      have hou9 : zout kz nz := by rw [hkz, hnz]; exact zk_out _ _
      refine lv_aload_n hx hb dX6_formats_73 rfl (lv_at hl 0 rfl) ?_
      have b_20 : 0 ≤ (Fc_73 41).toInt ∧ (Fc_73 41).toInt ≤ 5 := hM.fb 41 rfl
      refine mr_get (v := .int (Fc_73 41)) E hM 41 (by decide) (index := 144) (mm_at 8 rfl) rfl rfl dX6_formats_74 ?_
      refine mm_if_eq (X := (Fc_73 41).toInt) (tgt := 95) hx hb dX6_formats_77 (by decide) rfl (fun c_21 => ?_) (fun c_21 => ?_)
      · refine lv_aload_n hx hb dX6_formats_95 rfl (lv_at hl 0 rfl) ?_
        refine lv_iload_n hx hb dX6_formats_96 rfl (lv_at hl 2 rfl) ?_
        refine mr_put (v := many) E hM 4 (by decide) (index := 191) (mm_at 9 rfl) rfl rfl (by decide +kernel) ms_4 (mm_nb rfl) (by decide) dX6_formats_97 (fun H locs hM => ?_)
        refine lv_iconst (v := 0) hx hb dX6_formats_100 (by decide) ?_
        refine lv_istore_n (lv' := [(3, .int 0), (0, .ref h0), (1, .int p0), (2, .int many)]) hx hb dX6_formats_101 rfl hl (by decide) rfl (fun ls hl => ?_)
        have b_22 : 0 ≤ (Fc_73 1).toInt ∧ (Fc_73 1).toInt ≤ 1000 := hM.fb 1 rfl
        exact B_102 4294967296 _ _ _ (upd Fc_73 4 many) Gc_73 many 0 (show (0 ≤ (0 : Int32).toInt ∧ (0 : Int32).toInt ≤ 8) from by have n_1 := num_0; omega) (show (0 ≤ many.toInt ∧ many.toInt ≤ 1000) from by have n_1 := num_0; omega) (show (Fc_73 1).toInt = 0 from by have n_1 := num_0; omega) (show 0 ≤ p0.toInt ∧ p0.toInt ≤ (F 1).toInt from by have n_1 := num_0; omega) (show many.toInt = many.toInt from by have n_1 := num_0; omega) (show (∃ M : Nat → Nat → Int, zOk kz nz (many.toInt.toNat) M ∧ (∀ g : Nat, ¬ M g 1 = 0 → M g 4 = 0 ∨ M g 4 = 1) ∧ mR8 Gc_73 M) from by have n_1 := num_0; exact ⟨M9, ⟨x9, sq9, (mKW_E hou9 kw9).mpr (by omega)⟩, (fun g hg => (zSeq_v _ _ _ sq9 g hg).1), mR8_t rp9 (fun j h9 => ⟨rfl, rfl, rfl, rfl, rfl, rfl, rfl⟩)⟩) (show mCk Gc_73 (Int32.toNatClampNeg (0 : Int32)) from by have n_1 := num_0; exact fun g hg => absurd hg (by rw [show Int32.toNatClampNeg (0 : Int32) = 0 from by decide]; exact Nat.not_lt_zero _)) (show (8 - (0 : Int32).toInt) < ((4294967296 : Nat) : Int) from by have n_1 := num_0; omega) hM (lv_sub hl [1, 2, 3, 0] rfl)
      · refine lv_aload_n hx hb dX6_formats_80 rfl (lv_at hl 0 rfl) ?_
        have b_24 : 0 ≤ (Fc_73 40).toInt ∧ (Fc_73 40).toInt ≤ 1000 := hM.fb 40 rfl
        have b_25 : 0 ≤ (Fc_73 39).toInt ∧ (Fc_73 39).toInt ≤ 1000 := hM.fb 39 rfl
        have b_26 : 0 ≤ (Fc_73 43).toInt ∧ (Fc_73 43).toInt ≤ 1000 := hM.fb 43 rfl
        refine mr_calli (av := []) (rest := []) E hA hml hM (g7_X6_format l D h0 q cq Fc_73 Gc_73 _  hM.2.2.2.1 kz nz x9 (show mTx kz nz Fc_73 Gc_73 from ⟨by rw [hM.fr.2 0 (by decide), hkz, hnz], by show (Fc_73 39).toInt = _; rw [hnz]; omega⟩) ⟨at1_, at2_, kw9⟩ (show (Fc_73 40).toInt ≤ (Fc_73 39).toInt from by omega) (show ¬ (Fc_73 41).toInt = 2 ∨ (65 ≤ (Fc_73 42).toInt ∧ (Fc_73 42).toInt ≤ 72) from by omega) (mR8_ge rp9 (fun g hg => (zSeq_v _ _ _ sq9 g hg).2.2.1.1))) (cwV 0 hts g8_X6_formats_X6_format_23 rfl rfl rfl (by decide +kernel) ⟨Nat.le_of_ble_eq_true rfl, Nat.le_of_ble_eq_true rfl⟩) rfl hl.1 rfl (Nat.le_of_ble_eq_true rfl) dX6_formats_81 ⟨Nat.le_of_ble_eq_true rfl, Nat.le_of_ble_eq_true rfl⟩ (by decide) (by decide) (fun r_27 F_29 G_30 H locs fr_31 p_28 hM => ?_)
        replace p_28 : (F_29 40).toInt ≤ (Fc_73 39).toInt ∧ (Fc_73 40).toInt + r_27.toInt ≤ (F_29 40).toInt ∧ (¬ (F_29 41).toInt = 2 ∨ (65 ≤ (F_29 42).toInt ∧ (F_29 42).toInt ≤ 72)) ∧ (r_27.toInt = 0 ∨ r_27.toInt = 1) ∧ ((r_27.toInt = 1 ∧ ∃ (f z : Nat), zfmt kz nz x9 f (mV G_30 (8 + f)) z ∧ (Gc_73 5 (8 + f)).toInt = 0 ∧ (∀ j : Nat, ¬ j = 8 + f → mSame Gc_73 G_30 j) ∧ (F_29 43).toInt = (ztp kz z : Int) ∧ (F_29 40).toInt = (zty kz nz z : Int) ∧ mKW kz nz z (F_29 41).toInt (F_29 42).toInt) ∨ (r_27.toInt = 0 ∧ ∀ (f : Nat) (v : Nat → Int) (z : Nat), zfmt kz nz x9 f v z → ¬ (Gc_73 5 (8 + f)).toInt = 0)) ∧ (∀ j : Nat, j < 8 → mSame Gc_73 G_30 j) := p_28
        rcases p_28 with ⟨t1_32, t2_32, t3_32, t4_32, ⟨hr_32, f_32, z_32, w_32, h0_32, sa_32, a1_32, a2_32, kw_32⟩ | ⟨hr_32, w_32⟩, sm_32⟩
        · refine mm_if_ne (X := r_27.toInt) (tgt := 89) hx hb dX6_formats_84 (by decide) rfl (fun c_33 => ?_) (fun c_33 => False.elim (by omega))
          refine mm_iinc (X := many.toInt) (v := 1) (lv2 := fun z => [(2, .int z), (0, .ref h0), (1, .int p0)]) hx hb dX6_formats_89 hl (k := 2) rfl rfl (by decide) num_1 (by omega) (by decide) (fun _ => rfl) (fun z_34 ls hz_34 hl => ?_)
          have hl : lv_has ls 4 [(2, .int z_34), (0, .ref h0), (1, .int p0)] := hl
          refine lv_goto (tgt := 73) hx hb dX6_formats_92 (by decide) ?_
          have b_35 : 0 ≤ (F_29 1).toInt ∧ (F_29 1).toInt ≤ 1000 := hM.fb 1 rfl
          have e_36 : (F_29 1).toInt = (Fc_73 1).toInt := (congrArg Int32.toInt (fr_31.1 1 (by decide))).trans rfl
          have b_37 : 0 ≤ (F_29 40).toInt ∧ (F_29 40).toInt ≤ 1000 := hM.fb 40 rfl
          have b_38 : 0 ≤ (F_29 39).toInt ∧ (F_29 39).toInt ≤ 1000 := hM.fb 39 rfl
          have e_39 : (F_29 39).toInt = (Fc_73 39).toInt := (congrArg Int32.toInt (fr_31.1 39 (by decide))).trans rfl
          have b_40 : 0 ≤ (F_29 41).toInt ∧ (F_29 41).toInt ≤ 5 := hM.fb 41 rfl
          have e_41 : (F_29 4).toInt = (Fc_73 4).toInt := (congrArg Int32.toInt (fr_31.1 4 (by decide))).trans rfl
          have b_42 : 0 ≤ (F_29 43).toInt ∧ (F_29 43).toInt ≤ 1000 := hM.fb 43 rfl
          exact ih_73 _ _ _ F_29 G_30 z_34 (show (0 ≤ z_34.toInt ∧ z_34.toInt ≤ 1000) from by omega) (show (F_29 1).toInt = 0 from by omega) (show 0 ≤ p0.toInt ∧ p0.toInt ≤ (F 1).toInt from by omega) (show (F_29 40).toInt ≤ (F_29 39).toInt from by omega) (show ¬ (F_29 41).toInt = 2 ∨ (65 ≤ (F_29 42).toInt ∧ (F_29 42).toInt ≤ 72) from by omega) (show z_34.toInt ≤ (F_29 40).toInt from by omega) (show (F_29 39).toInt = p0.toInt from by omega) (show (F_29 4).toInt = (F 4).toInt from by omega) (show (∃ (x : Nat) (M : Nat → Nat → Int), zSeq kz nz (z_34.toInt.toNat) x M ∧ (F_29 43).toInt = (ztp kz x : Int) ∧ (F_29 40).toInt = (zty kz nz x : Int) ∧ mKW kz nz x (F_29 41).toInt (F_29 42).toInt ∧ mR8 G_30 M) from by exact ⟨z_32, fun g => if g = f_32 then mV G_30 (8 + f_32) else M9 g, by rw [show z_34.toInt.toNat = many.toInt.toNat + 1 from by omega]; exact ⟨x9, M9, f_32, mV G_30 (8 + f_32), sq9, (by have hE := mKW_E hou9 kw9; omega), w_32, mR8_l rp9 w_32.2.1 h0_32, rfl⟩, a1_32, a2_32, kw_32, mR8_s rp9 sa_32 (by have := zfmt_laps w_32; omega)⟩) (show (∀ j : Nat, j < 8 → mSame G G_30 j) from by exact fun j h9 => (f73_9 j h9).tr (sm_32 j h9)) (show ((F_29 39).toInt - (F_29 40).toInt) < ((n_73 : Nat) : Int) from by omega) hM (lv_sub hl [1, 2, 0] rfl)
        · refine mm_if_ne (X := r_27.toInt) (tgt := 89) hx hb dX6_formats_84 (by decide) rfl (fun c_43 => False.elim (by omega)) (fun c_43 => ?_)
          refine lv_iconst (v := (-1)) hx hb dX6_formats_87 (by decide) ?_
          have b_44 : 0 ≤ (F_29 1).toInt ∧ (F_29 1).toInt ≤ 1000 := hM.fb 1 rfl
          have e_45 : (F_29 1).toInt = (Fc_73 1).toInt := (congrArg Int32.toInt (fr_31.1 1 (by decide))).trans rfl
          have e_46 : (F_29 4).toInt = (Fc_73 4).toInt := (congrArg Int32.toInt (fr_31.1 4 (by decide))).trans rfl
          exact mr_ri E hr hlk hsz hM (show (¬ (0 ≤ p0.toInt ∧ p0.toInt ≤ (F 1).toInt) ∧ ((-1) : Int32).toInt = -2 ∧ (F_29 1).toInt = (F 1).toInt ∧ (F_29 4).toInt = (F 4).toInt ∧ (∀ j : Nat, j < 8 → mSame G G_30 j)) ∨ ((0 ≤ p0.toInt ∧ p0.toInt ≤ (F 1).toInt) ∧ (F_29 1).toInt = 0 ∧ ((((-1) : Int32).toInt = -1 ∧ (∀ (c : Nat) (M : Nat → Nat → Int), ¬ zOk (zk (fun j => (G 0 j).toInt) p0.toInt.toNat) p0.toInt.toNat c M) ∧ (F_29 4).toInt = (F 4).toInt ∧ (∀ j : Nat, j < 8 → mSame G G_30 j)) ∨ (∃ (c : Nat) (M : Nat → Nat → Int), zOk (zk (fun j => (G 0 j).toInt) p0.toInt.toNat) p0.toInt.toNat c M ∧ ((-1) : Int32).toInt = (c : Int) ∧ (F_29 4).toInt = (c : Int) ∧ mRc G_30 M))) from by have n9 := num_m1; exact Or.inr ⟨by omega, by omega, Or.inl ⟨by omega, (by rw [← hkz, ← hnz]; exact zOk_not sq9 (by have hE := mKW_E hou9 kw9; omega) (fun f v z hz h0 => w_32 f v z hz (mR8_z rp9 hz.2.1 h0))), by omega, fun j h9 => (f73_9 j h9).tr (sm_32 j h9)⟩⟩) dX6_formats_88
  have B_43 : ∀ n_43 : Nat, ∀ (H : Heap) (locs : List Loc) (ls : Array Slot) (Fc_43 : Nat → Int32) (Gc_43 : Nat → Nat → Int32) (k : Int32), (8 ≤ k.toInt ∧ k.toInt ≤ 16) → (Fc_43 1).toInt = 0 → 0 ≤ p0.toInt ∧ p0.toInt ≤ (F 1).toInt → (Fc_43 39).toInt = p0.toInt → (Fc_43 4).toInt = (F 4).toInt → (∀ j : Nat, j < 8 → mSame G Gc_43 j) → mZ Gc_43 (Int32.toNatClampNeg k) → (16 - k.toInt) < (n_43 : Int) → mQ D h0 q cq (va_A (mW h0 q cq F G) sz) s.heap [1, 2, 4, 13, 14, 39, 40, 41, 42, 43, 44] [5, 6, 7, 8, 9, 10, 11, 12] F G H locs Fc_43 Gc_43 → lv_has ls 4 [(0, .ref h0), (1, .int p0), (2, .int k)] → W p l e ({ frames := 5, cells := 0, slots := 0, locals := 112 }) s m args below meth c H locs 0 0 (MQ below (mQi D h0 q cq F G sz [1, 2, 4, 13, 14, 39, 40, 41, 42, 43, 44] [5, 6, 7, 8, 9, 10, 11, 12] (fun r F' G' => (¬ (0 ≤ p0.toInt ∧ p0.toInt ≤ (F 1).toInt) ∧ r.toInt = -2 ∧ (F' 1).toInt = (F 1).toInt ∧ (F' 4).toInt = (F 4).toInt ∧ (∀ j : Nat, j < 8 → mSame G G' j)) ∨ ((0 ≤ p0.toInt ∧ p0.toInt ≤ (F 1).toInt) ∧ (F' 1).toInt = 0 ∧ ((r.toInt = -1 ∧ (∀ (c : Nat) (M : Nat → Nat → Int), ¬ zOk (zk (fun j => (G 0 j).toInt) p0.toInt.toNat) p0.toInt.toNat c M) ∧ (F' 4).toInt = (F 4).toInt ∧ (∀ j : Nat, j < 8 → mSame G G' j)) ∨ (∃ (c : Nat) (M : Nat → Nat → Int), zOk (zk (fun j => (G 0 j).toInt) p0.toInt.toNat) p0.toInt.toNat c M ∧ r.toInt = (c : Int) ∧ (F' 4).toInt = (c : Int) ∧ mRc G' M))))) args s 0 0 (va_A (mW h0 q cq F G) sz)) (F0 m 43 ls []) := by
    intro n_43
    induction n_43 with
    | zero => intro H locs ls Fc_43 Gc_43 k f43_0 f43_1 f43_2 f43_3 f43_4 f43_5 f43_6 hn hM hl; exact False.elim (by have hfr_43 := hM.fr; omega)
    | succ n_43 ih_43 =>
      intro H locs ls Fc_43 Gc_43 k f43_0 f43_1 f43_2 f43_3 f43_4 f43_5 f43_6 hn hM hl
      have hfr_43 := hM.fr
      refine lv_iload_n hx hb dX6_formats_43 rfl (lv_at hl 2 rfl) ?_
      refine lv_bipush (v := 16) hx hb dX6_formats_44 (by decide) ?_
      refine mm_icmp_ge (X := k.toInt) (Y := 16) (tgt := 62) hx hb dX6_formats_46 (by decide) rfl num_16 (fun c_47 => ?_) (fun c_47 => ?_)
      · refine lv_aload_n hx hb dX6_formats_62 rfl (lv_at hl 0 rfl) ?_
        refine lv_iconst (v := 0) hx hb dX6_formats_63 (by decide) ?_
        refine mr_put (v := 0) E hM 40 (by decide) (index := 138) (mm_at 31 rfl) rfl rfl (by decide +kernel) ms_40 (mm_bd (X := 0) (a := 0) (b := 1000) rfl num_0 (by omega)) (by decide) dX6_formats_64 (fun H locs hM => ?_)
        refine lv_iconst (v := 0) hx hb dX6_formats_67 (by decide) ?_
        refine lv_istore_n (lv' := [(2, .int 0), (0, .ref h0), (1, .int p0)]) hx hb dX6_formats_68 rfl hl (by decide) rfl (fun ls hl => ?_)
        refine lv_aload_n hx hb dX6_formats_69 rfl (lv_at hl 1 rfl) ?_
        have b_49 : 0 ≤ (Fc_43 39).toInt ∧ (Fc_43 39).toInt ≤ 1000 := hM.fb 39 rfl
        refine mr_callv (av := []) (rest := []) E hA hml hM (g7_X6_take l D h0 q cq (upd Fc_43 40 0) Gc_43 _  hM.2.2.2.1 kz nz 0 (show mTx kz nz (upd Fc_43 40 0) Gc_43 from ⟨by rw [hM.fr.2 0 (by decide), hkz, hnz], by show (Fc_43 39).toInt = _; rw [hnz]; omega⟩) (show (0 : Int32).toInt = (0 : Int) from by have n9_0 := num_0; omega) (show (0 : Int32).toInt ≤ (Fc_43 39).toInt from by have n9_0 := num_0; omega)) (cwV 0 hts g8_X6_formats_X6_take_48 rfl rfl rfl (by decide +kernel) ⟨Nat.le_of_ble_eq_true rfl, Nat.le_of_ble_eq_true rfl⟩) rfl hl.1 rfl (Nat.le_of_ble_eq_true rfl) dX6_formats_70 ⟨Nat.le_of_ble_eq_true rfl, Nat.le_of_ble_eq_true rfl⟩ (by decide) (by decide) (fun F_52 G_53 H locs fr_54 p_51 hM => ?_)
        replace p_51 : (F_52 40).toInt ≤ (Fc_43 39).toInt ∧ (0 : Int32).toInt ≤ (F_52 40).toInt ∧ ((F_52 41).toInt = 0 ∨ (0 : Int32).toInt < (F_52 40).toInt) ∧ (¬ (F_52 41).toInt = 2 ∨ (65 ≤ (F_52 42).toInt ∧ (F_52 42).toInt ≤ 72)) ∧ (F_52 43).toInt = (ztp kz 0 : Int) ∧ (F_52 40).toInt = (zty kz nz 0 : Int) ∧ mKW kz nz 0 (F_52 41).toInt (F_52 42).toInt := p_51
        rcases p_51 with ⟨t1_55, t2_55, t3_55, t4_55, a1_55, a2_55, kw_55⟩
        have b_56 : 0 ≤ (F_52 1).toInt ∧ (F_52 1).toInt ≤ 1000 := hM.fb 1 rfl
        have e_57 : (F_52 1).toInt = (Fc_43 1).toInt := (congrArg Int32.toInt (fr_54.1 1 (by decide))).trans rfl
        have b_58 : 0 ≤ (F_52 40).toInt ∧ (F_52 40).toInt ≤ 1000 := hM.fb 40 rfl
        have b_59 : 0 ≤ (F_52 39).toInt ∧ (F_52 39).toInt ≤ 1000 := hM.fb 39 rfl
        have e_60 : (F_52 39).toInt = (Fc_43 39).toInt := (congrArg Int32.toInt (fr_54.1 39 (by decide))).trans rfl
        have b_61 : 0 ≤ (F_52 41).toInt ∧ (F_52 41).toInt ≤ 5 := hM.fb 41 rfl
        have e_62 : (F_52 4).toInt = (Fc_43 4).toInt := (congrArg Int32.toInt (fr_54.1 4 (by decide))).trans rfl
        have b_63 : 0 ≤ (F_52 43).toInt ∧ (F_52 43).toInt ≤ 1000 := hM.fb 43 rfl
        exact B_73 4294967296 _ _ _ F_52 G_53 0 (show (0 ≤ (0 : Int32).toInt ∧ (0 : Int32).toInt ≤ 1000) from by have n_0 := num_0; omega) (show (F_52 1).toInt = 0 from by have n_0 := num_0; omega) (show 0 ≤ p0.toInt ∧ p0.toInt ≤ (F 1).toInt from by have n_0 := num_0; omega) (show (F_52 40).toInt ≤ (F_52 39).toInt from by have n_0 := num_0; omega) (show ¬ (F_52 41).toInt = 2 ∨ (65 ≤ (F_52 42).toInt ∧ (F_52 42).toInt ≤ 72) from by have n_0 := num_0; omega) (show (0 : Int32).toInt ≤ (F_52 40).toInt from by have n_0 := num_0; omega) (show (F_52 39).toInt = p0.toInt from by have n_0 := num_0; omega) (show (F_52 4).toInt = (F 4).toInt from by have n_0 := num_0; omega) (show (∃ (x : Nat) (M : Nat → Nat → Int), zSeq kz nz ((0 : Int32).toInt.toNat) x M ∧ (F_52 43).toInt = (ztp kz x : Int) ∧ (F_52 40).toInt = (zty kz nz x : Int) ∧ mKW kz nz x (F_52 41).toInt (F_52 42).toInt ∧ mR8 G_53 M) from by have n_0 := num_0; exact ⟨0, fun _ _ => 0, by rw [show (0 : Int32).toInt.toNat = 0 from by decide]; exact ⟨rfl, fun _ _ => rfl⟩, a1_55, a2_55, kw_55, mR8_t (mR8_0 (by have h := f43_6; rw [show Int32.toNatClampNeg k = 16 from by rw [mm_nat]; omega] at h; exact h)) (fun j h9 => ⟨((congrFun (fr_54.2 5 (by decide)) j).trans rfl), ((congrFun (fr_54.2 6 (by decide)) j).trans rfl), ((congrFun (fr_54.2 8 (by decide)) j).trans rfl), ((congrFun (fr_54.2 9 (by decide)) j).trans rfl), ((congrFun (fr_54.2 10 (by decide)) j).trans rfl), ((congrFun (fr_54.2 11 (by decide)) j).trans rfl), ((congrFun (fr_54.2 12 (by decide)) j).trans rfl)⟩)⟩) (show (∀ j : Nat, j < 8 → mSame G G_53 j) from by have n_0 := num_0; exact fun j h9 => (f43_5 j h9).tr ⟨((congrFun (fr_54.2 5 (by decide)) j).trans rfl), ((congrFun (fr_54.2 6 (by decide)) j).trans rfl), ((congrFun (fr_54.2 8 (by decide)) j).trans rfl), ((congrFun (fr_54.2 9 (by decide)) j).trans rfl), ((congrFun (fr_54.2 10 (by decide)) j).trans rfl), ((congrFun (fr_54.2 11 (by decide)) j).trans rfl), ((congrFun (fr_54.2 12 (by decide)) j).trans rfl)⟩) (show ((F_52 39).toInt - (F_52 40).toInt) < ((4294967296 : Nat) : Int) from by have n_0 := num_0; omega) hM (lv_sub hl [1, 2, 0] rfl)
      · refine lv_aload_n hx hb dX6_formats_49 rfl (lv_at hl 0 rfl) ?_
        refine mr_get (v := .ref (q 5)) E hM 5 (by decide) (index := 13) (mm_at 1 rfl) rfl rfl dX6_formats_50 ?_
        refine lv_iload_n hx hb dX6_formats_53 rfl (lv_at hl 2 rfl) ?_
        refine lv_iconst (v := 0) hx hb dX6_formats_54 (by decide) ?_
        refine mr_ast (X := k.toInt) E hM 5 2 1 rfl rfl rfl (by omega) mg_5 (by decide) (mm_nbA rfl) (by decide) dX6_formats_55 (fun H locs G_64 eG_64 hM => ?_)
        refine mm_iinc (X := k.toInt) (v := 1) (lv2 := fun z => [(2, .int z), (0, .ref h0), (1, .int p0)]) hx hb dX6_formats_56 hl (k := 2) rfl rfl (by decide) num_1 (by omega) (by decide) (fun _ => rfl) (fun z_65 ls hz_65 hl => ?_)
        have hl : lv_has ls 4 [(2, .int z_65), (0, .ref h0), (1, .int p0)] := hl
        refine lv_goto (tgt := 43) hx hb dX6_formats_59 (by decide) ?_
        have b_66 : 0 ≤ (Fc_43 1).toInt ∧ (Fc_43 1).toInt ≤ 1000 := hM.fb 1 rfl
        have b_67 : 0 ≤ (Fc_43 39).toInt ∧ (Fc_43 39).toInt ≤ 1000 := hM.fb 39 rfl
        exact ih_43 _ _ _ Fc_43 G_64 z_65 (show (8 ≤ z_65.toInt ∧ z_65.toInt ≤ 16) from by omega) (show (Fc_43 1).toInt = 0 from by omega) (show 0 ≤ p0.toInt ∧ p0.toInt ≤ (F 1).toInt from by omega) (show (Fc_43 39).toInt = p0.toInt from by omega) (show (Fc_43 4).toInt = (F 4).toInt from by omega) (show (∀ j : Nat, j < 8 → mSame G G_64 j) from by exact fun j h9 => (f43_5 j h9).tr ⟨((show G_64 5 j = Gc_43 5 j from by rw [eG_64]; simp only [mUp, if_true, upd]; rw [if_neg (by rw [mm_nat]; omega)]).trans rfl), ((congrFun (show G_64 6 = Gc_43 6 from by rw [eG_64]; simp only [mUp]; rfl) j).trans rfl), ((congrFun (show G_64 8 = Gc_43 8 from by rw [eG_64]; simp only [mUp]; rfl) j).trans rfl), ((congrFun (show G_64 9 = Gc_43 9 from by rw [eG_64]; simp only [mUp]; rfl) j).trans rfl), ((congrFun (show G_64 10 = Gc_43 10 from by rw [eG_64]; simp only [mUp]; rfl) j).trans rfl), ((congrFun (show G_64 11 = Gc_43 11 from by rw [eG_64]; simp only [mUp]; rfl) j).trans rfl), ((congrFun (show G_64 12 = Gc_43 12 from by rw [eG_64]; simp only [mUp]; rfl) j).trans rfl)⟩) (show mZ G_64 (Int32.toNatClampNeg z_65) from by rw [show Int32.toNatClampNeg z_65 = Int32.toNatClampNeg k + 1 from by simp only [mm_nat]; omega]; exact mZ.st f43_6 ((show G_64 5 = upd (Gc_43 5) (Int32.toNatClampNeg k) (0) from by rw [eG_64]; rfl).trans (congrArg (fun z => upd z (Int32.toNatClampNeg k) (0)) rfl))) (show (16 - z_65.toInt) < ((n_43 : Nat) : Int) from by omega) hM (lv_sub hl [1, 2, 0] rfl)
  refine lv_aload_n hx hb dX6_formats_0 rfl (lv_at hl 0 rfl) ?_
  refine lv_iconst (v := 0) hx hb dX6_formats_1 (by decide) ?_
  refine mr_put (v := 0) E hM 2 (by decide) (index := 126) (mm_at 66 rfl) rfl rfl (by decide +kernel) ms_2 (mm_nb rfl) (by decide) dX6_formats_2 (fun H locs hM => ?_)
  refine lv_iload_n hx hb dX6_formats_5 rfl (lv_at hl 1 rfl) ?_
  refine mm_if_lt (X := p0.toInt) (tgt := 17) hx hb dX6_formats_6 (by decide) rfl (fun c_68 => ?_) (fun c_68 => ?_)
  · refine lv_bipush (v := (-2)) hx hb dX6_formats_17 (by decide) ?_
    have b_69 : 0 ≤ (F 1).toInt ∧ (F 1).toInt ≤ 1000 := hM.fb 1 rfl
    exact mr_ri E hr hlk hsz hM (show (¬ (0 ≤ p0.toInt ∧ p0.toInt ≤ (F 1).toInt) ∧ ((-2) : Int32).toInt = -2 ∧ (F 1).toInt = (F 1).toInt ∧ (F 4).toInt = (F 4).toInt ∧ (∀ j : Nat, j < 8 → mSame G G j)) ∨ ((0 ≤ p0.toInt ∧ p0.toInt ≤ (F 1).toInt) ∧ (F 1).toInt = 0 ∧ ((((-2) : Int32).toInt = -1 ∧ (∀ (c : Nat) (M : Nat → Nat → Int), ¬ zOk (zk (fun j => (G 0 j).toInt) p0.toInt.toNat) p0.toInt.toNat c M) ∧ (F 4).toInt = (F 4).toInt ∧ (∀ j : Nat, j < 8 → mSame G G j)) ∨ (∃ (c : Nat) (M : Nat → Nat → Int), zOk (zk (fun j => (G 0 j).toInt) p0.toInt.toNat) p0.toInt.toNat c M ∧ ((-2) : Int32).toInt = (c : Int) ∧ (F 4).toInt = (c : Int) ∧ mRc G M))) from by have n9 := num_m2; have n9_2 := num_0; exact Or.inl ⟨by omega, by omega, by omega, by omega, fun j h9 => ⟨rfl, rfl, rfl, rfl, rfl, rfl, rfl⟩⟩) dX6_formats_19
  · refine lv_iload_n hx hb dX6_formats_9 rfl (lv_at hl 1 rfl) ?_
    refine lv_aload_n hx hb dX6_formats_10 rfl (lv_at hl 0 rfl) ?_
    have b_70 : 0 ≤ (F 1).toInt ∧ (F 1).toInt ≤ 1000 := hM.fb 1 rfl
    refine mr_get (v := .int (F 1)) E hM 1 (by decide) (index := 129) (mm_at 67 rfl) rfl rfl dX6_formats_11 ?_
    refine mm_icmp_le (X := p0.toInt) (Y := (F 1).toInt) (tgt := 20) hx hb dX6_formats_14 (by decide) rfl rfl (fun c_71 => ?_) (fun c_71 => ?_)
    · refine lv_aload_n hx hb dX6_formats_20 rfl (lv_at hl 0 rfl) ?_
      refine lv_iload_n hx hb dX6_formats_21 rfl (lv_at hl 1 rfl) ?_
      refine mr_put (v := p0) E hM 39 (by decide) (index := 135) (mm_at 36 rfl) rfl rfl (by decide +kernel) ms_39 (mm_bd (X := p0.toInt) (a := 0) (b := 1000) rfl rfl (by omega)) (by decide) dX6_formats_22 (fun H locs hM => ?_)
      refine lv_aload_n hx hb dX6_formats_25 rfl (lv_at hl 0 rfl) ?_
      refine lv_iconst (v := 0) hx hb dX6_formats_26 (by decide) ?_
      refine mr_put (v := 0) E hM 1 (by decide) (index := 129) (mm_at 67 rfl) rfl rfl (by decide +kernel) ms_1 (mm_bd (X := 0) (a := 0) (b := 1000) rfl num_0 (by omega)) (by decide) dX6_formats_27 (fun H locs hM => ?_)
      refine lv_aload_n hx hb dX6_formats_30 rfl (lv_at hl 0 rfl) ?_
      refine lv_iconst (v := 0) hx hb dX6_formats_31 (by decide) ?_
      refine mr_put (v := 0) E hM 13 (by decide) (index := 132) (mm_at 24 rfl) rfl rfl (by decide +kernel) ms_13 (mm_nb rfl) (by decide) dX6_formats_32 (fun H locs hM => ?_)
      refine lv_aload_n hx hb dX6_formats_35 rfl (lv_at hl 0 rfl) ?_
      refine lv_iconst (v := (-1)) hx hb dX6_formats_36 (by decide) ?_
      refine mr_put (v := (-1)) E hM 14 (by decide) (index := 38) (mm_at 25 rfl) rfl rfl (by decide +kernel) ms_14 (mm_nb rfl) (by decide) dX6_formats_37 (fun H locs hM => ?_)
      refine lv_bipush (v := 8) hx hb dX6_formats_40 (by decide) ?_
      refine lv_istore_n (lv' := [(2, .int 8), (0, .ref h0), (1, .int p0)]) hx hb dX6_formats_42 rfl hl (by decide) rfl (fun ls hl => ?_)
      exact B_43 4294967296 _ _ _ (upd (upd (upd (upd (upd F 2 0) 39 p0) 1 0) 13 0) 14 (-1)) G 8 (show (8 ≤ (8 : Int32).toInt ∧ (8 : Int32).toInt ≤ 16) from by have n_0 := num_8; have n9_2 := num_0; have n9_1 := num_0; have n9_13 := num_0; have n9_14 := num_m1; omega) (show (0 : Int32).toInt = 0 from by have n_0 := num_8; have n9_2 := num_0; have n9_1 := num_0; have n9_13 := num_0; have n9_14 := num_m1; omega) (show 0 ≤ p0.toInt ∧ p0.toInt ≤ (F 1).toInt from by have n_0 := num_8; have n9_2 := num_0; have n9_1 := num_0; have n9_13 := num_0; have n9_14 := num_m1; omega) (show p0.toInt = p0.toInt from by have n_0 := num_8; have n9_2 := num_0; have n9_1 := num_0; have n9_13 := num_0; have n9_14 := num_m1; omega) (show (F 4).toInt = (F 4).toInt from by have n_0 := num_8; have n9_2 := num_0; have n9_1 := num_0; have n9_13 := num_0; have n9_14 := num_m1; omega) (show (∀ j : Nat, j < 8 → mSame G G j) from by have n_0 := num_8; have n9_2 := num_0; have n9_1 := num_0; have n9_13 := num_0; have n9_14 := num_m1; exact fun j h9 => ⟨rfl, rfl, rfl, rfl, rfl, rfl, rfl⟩) (show mZ G (Int32.toNatClampNeg (8 : Int32)) from by have n_0 := num_8; have n9_2 := num_0; have n9_1 := num_0; have n9_13 := num_0; have n9_14 := num_m1; intro j h1 h2; rw [show Int32.toNatClampNeg (8 : Int32) = 8 from by decide] at h2; exact absurd h1 (by omega)) (show (16 - (8 : Int32).toInt) < ((4294967296 : Nat) : Int) from by have n_0 := num_8; have n9_2 := num_0; have n9_1 := num_0; have n9_13 := num_0; have n9_14 := num_m1; omega) hM (lv_sub hl [1, 2, 0] rfl)
    · refine lv_bipush (v := (-2)) hx hb dX6_formats_17 (by decide) ?_
      exact mr_ri E hr hlk hsz hM (show (¬ (0 ≤ p0.toInt ∧ p0.toInt ≤ (F 1).toInt) ∧ ((-2) : Int32).toInt = -2 ∧ (F 1).toInt = (F 1).toInt ∧ (F 4).toInt = (F 4).toInt ∧ (∀ j : Nat, j < 8 → mSame G G j)) ∨ ((0 ≤ p0.toInt ∧ p0.toInt ≤ (F 1).toInt) ∧ (F 1).toInt = 0 ∧ ((((-2) : Int32).toInt = -1 ∧ (∀ (c : Nat) (M : Nat → Nat → Int), ¬ zOk (zk (fun j => (G 0 j).toInt) p0.toInt.toNat) p0.toInt.toNat c M) ∧ (F 4).toInt = (F 4).toInt ∧ (∀ j : Nat, j < 8 → mSame G G j)) ∨ (∃ (c : Nat) (M : Nat → Nat → Int), zOk (zk (fun j => (G 0 j).toInt) p0.toInt.toNat) p0.toInt.toNat c M ∧ ((-2) : Int32).toInt = (c : Int) ∧ (F 4).toInt = (c : Int) ∧ mRc G M))) from by have n9 := num_m2; have n9_2 := num_0; exact Or.inl ⟨by omega, by omega, by omega, by omega, fun j h9 => ⟨rfl, rfl, rfl, rfl, rfl, rfl, rfl⟩⟩) dX6_formats_19
