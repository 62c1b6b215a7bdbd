def zid (i : Nat) : Int := if i = 9 then 11 else if i = 10 then 10 else (i : Int) + 1
theorem zid_inj : ∀ i : Nat, i < 11 → ∀ j : Nat, j < 11 → zid i = zid j → i = j := by decide
theorem zid_bd : ∀ i : Nat, i < 11 → 1 ≤ zid i ∧ zid i ≤ 11 := by decide
def mKW (k : Nat → Nat) (n x : Nat) (kd wh : Int) : Prop :=
  (kd = 0 ∧ n ≤ ztp k x) ∨ (kd = 1 ∧ ∃ i : Nat, i < 11 ∧ zW k n x (zwl i) ∧ wh = zid i) ∨
  (kd = 3 ∧ zso k n (ztp k x) = 2 ∧ (((zV k n x : Int) ≤ 99999 ∧ wh = (zV k n x : Int)) ∨ (99999 < (zV k n x : Int) ∧ 99999 < wh))) ∨
  (kd = 2 ∧ ztp k x < n ∧ 65 ≤ wh ∧ wh ≤ 72 ∧ (k (ztp k x) : Int) = wh) ∨
  (kd = 4 ∧ ztp k x < n ∧ (wh = 59 ∨ wh = 123 ∨ wh = 125) ∧ (k (ztp k x) : Int) = wh) ∨
  (kd = 5 ∧ ztp k x < n ∧ ¬ zso k n (ztp k x) = 2 ∧ (∀ i : Nat, i < 11 → ¬ zW k n x (zwl i)) ∧ ¬ (65 ≤ k (ztp k x) ∧ k (ztp k x) ≤ 72) ∧ ¬ (k (ztp k x) = 59 ∨ k (ztp k x) = 123 ∨ k (ztp k x) = 125))
section MKW
variable {k : Nat → Nat} {n x : Nat} {kd wh : Int}
theorem mKW_W (hou : zout k n) (h : mKW k n x kd wh) {i : Nat} (hi : i < 11) : zW k n x (zwl i) ↔ kd = 1 ∧ wh = zid i := by
  constructor
  · intro w
    have h1 := zw_sort hou hi w
    obtain ⟨h2, h3⟩ := zso_1.mp h1
    unfold zsm at h3
    rcases h with ⟨a, b⟩ | ⟨a, j, hj, b, c⟩ | ⟨a, b, c⟩ | ⟨a, b, c, d, e⟩ | ⟨a, b, c, d⟩ | ⟨a, b, c, d, e, f⟩
    · omega
    · have e := zW_uq hi hj w b
      subst e
      exact ⟨a, c⟩
    · omega
    · omega
    · omega
    · exact absurd w (d i hi)
  · intro ⟨e1, e2⟩
    rcases h with ⟨a, b⟩ | ⟨a, j, hj, b, c⟩ | ⟨a, b, c⟩ | ⟨a, b, c, d, e⟩ | ⟨a, b, c, d⟩ | ⟨a, b, c, d, e, f⟩
    · omega
    · have e := zid_inj i hi j hj (e2.symm.trans c)
      subst e
      exact b
    · omega
    · omega
    · omega
    · omega
theorem mKW_S (hou : zout k n) (h : mKW k n x kd wh) {c : Nat} (hc : c = 59 ∨ c = 123 ∨ c = 125) : zS k n x c ↔ kd = 4 ∧ wh = (c : Int) := by
  constructor
  · intro s
    have h3 := zS_3 s (by omega)
    obtain ⟨s1, s2⟩ := s
    rcases h with ⟨a, b⟩ | ⟨a, j, hj, b, c⟩ | ⟨a, b, c⟩ | ⟨a, b, c, d, e⟩ | ⟨a, b, c, d⟩ | ⟨a, b, c, d, e, f⟩
    · omega
    · have := zw_sort hou hj b; omega
    · omega
    · omega
    · omega
    · omega
  · intro ⟨e1, e2⟩
    rcases h with ⟨a, b⟩ | ⟨a, j, hj, b, c⟩ | ⟨a, b, c⟩ | ⟨a, b, c, d, e⟩ | ⟨a, b, c, d⟩ | ⟨a, b, c, d, e, f⟩
    · omega
    · omega
    · omega
    · omega
    · exact ⟨b, by omega⟩
    · omega
theorem mKW_A (hou : zout k n) (h : mKW k n x kd wh) {f : Nat} (hf : f < 8) : zS k n x (65 + f) ↔ kd = 2 ∧ wh = 65 + (f : Int) := by
  constructor
  · intro s
    have h3 := zS_3 s (by omega)
    obtain ⟨s1, s2⟩ := s
    rcases h with ⟨a, b⟩ | ⟨a, j, hj, b, c⟩ | ⟨a, b, c⟩ | ⟨a, b, c, d, e⟩ | ⟨a, b, c, d⟩ | ⟨a, b, c, d, e, f⟩
    · omega
    · have := zw_sort hou hj b; omega
    · omega
    · omega
    · omega
    · omega
  · intro ⟨e1, e2⟩
    rcases h with ⟨a, b⟩ | ⟨a, j, hj, b, c⟩ | ⟨a, b, c⟩ | ⟨a, b, c, d, e⟩ | ⟨a, b, c, d⟩ | ⟨a, b, c, d, e, f⟩
    · omega
    · omega
    · omega
    · exact ⟨b, by omega⟩
    · omega
    · omega
theorem mKW_N (hou : zout k n) (h : mKW k n x kd wh) : (zso k n (ztp k x) = 2 ↔ kd = 3) ∧ (kd = 3 → ((zV k n x : Int) ≤ 99999 ∧ wh = (zV k n x : Int)) ∨ (99999 < (zV k n x : Int) ∧ 99999 < wh)) := by
  rcases h with ⟨a, b⟩ | ⟨a, j, hj, b, c⟩ | ⟨a, b, c⟩ | ⟨a, b, c, d, e⟩ | ⟨a, b, c, d⟩ | ⟨a, b, c, d, e, f⟩
  · have := zso_end (k := k) b; omega
  · have := zw_sort hou hj b; omega
  · exact ⟨by omega, fun _ => c⟩
  · have := zS_3 (k := k) (n := n) (x := x) (c := k (ztp k x)) ⟨b, rfl⟩ (by omega); omega
  · have := zS_3 (k := k) (n := n) (x := x) (c := k (ztp k x)) ⟨b, rfl⟩ (by omega); omega
  · omega
theorem mKW_E (hou : zout k n) (h : mKW k n x kd wh) : n ≤ ztp k x ↔ kd = 0 := by
  rcases h with ⟨a, b⟩ | ⟨a, j, hj, b, c⟩ | ⟨a, b, c⟩ | ⟨a, b, c, d, e⟩ | ⟨a, b, c, d⟩ | ⟨a, b, c, d, e, f⟩
  · omega
  · have := zso_1.mp (zw_sort hou hj b); omega
  · have := zso_2.mp b; omega
  · omega
  · omega
  · omega
end MKW
def mTx (kz : Nat → Nat) (nz : Nat) (F : Nat → Int32) (G : Nat → Nat → Int32) : Prop := kz = zk (fun j => (G 0 j).toInt) nz ∧ (F 39).toInt = (nz : Int)
section MTX
variable {kz : Nat → Nat} {nz : Nat} {F F1 : Nat → Int32} {G G1 : Nat → Nat → Int32}
theorem mTx_fr {WF WG : List Nat} (h : mTx kz nz F G) (f : mFr WF WG F G F1 G1) (a : 39 ∉ WF) (b : 0 ∉ WG) : mTx kz nz F1 G1 := by
  unfold mTx
  rw [f.1 39 a, f.2 0 b]
  exact h
theorem mTx_out (h : mTx kz nz F G) : zout kz nz := by rw [h.1]; exact zk_out _ _
theorem mTx_at (h : mTx kz nz F G) {p c : Nat} (hc : c < 128) : kz p = c ↔ p < nz ∧ (G 0 p).toInt = (c : Int) := by rw [h.1]; exact zk_at hc
theorem mTx_sm (h : mTx kz nz F G) {p : Nat} : zsm kz p ↔ p < nz ∧ 97 ≤ (G 0 p).toInt ∧ (G 0 p).toInt ≤ 122 := by
  constructor
  · intro s
    have s2 := s
    unfold zsm at s2
    have := (mTx_at h (p := p) (c := kz p) (by omega)).mp rfl
    omega
  · intro ⟨a, b, c⟩
    have := (mTx_at h (p := p) (c := (G 0 p).toInt.toNat) (by omega)).mpr ⟨a, by omega⟩
    unfold zsm
    omega
theorem mTx_dg (h : mTx kz nz F G) {p : Nat} : zdg kz p ↔ p < nz ∧ 48 ≤ (G 0 p).toInt ∧ (G 0 p).toInt ≤ 57 := by
  constructor
  · intro s
    have s2 := s
    unfold zdg at s2
    have := (mTx_at h (p := p) (c := kz p) (by omega)).mp rfl
    omega
  · intro ⟨a, b, c⟩
    have := (mTx_at h (p := p) (c := (G 0 p).toInt.toNat) (by omega)).mpr ⟨a, by omega⟩
    unfold zdg
    omega
theorem mTx_dv (h : mTx kz nz F G) {p : Nat} (d : zdg kz p) : (G 0 p).toInt = (kz p : Int) := by
  have d2 := d
  unfold zdg at d2
  exact ((mTx_at h (p := p) (c := kz p) (by omega)).mp rfl).2
theorem mTx_bl (h : mTx kz nz F G) {p : Nat} : zbl kz p ↔ p < nz ∧ ((G 0 p).toInt = 10 ∨ (G 0 p).toInt = 32) := by
  have h1 := mTx_at h (p := p) (c := 10) (by omega)
  have h2 := mTx_at h (p := p) (c := 32) (by omega)
  unfold zbl
  omega
end MTX
/-- the reference's words in their order, as they lie in its table -/
def zrw (w : Nat) : Nat := if w = 9 then 10 else if w = 10 then 9 else w
def zof : Nat → Nat := fun w => [0, 7, 12, 18, 25, 30, 35, 39, 45, 50, 56, 62].getD w 62
theorem zrw_lt : ∀ w : Nat, w < 11 → zrw w < 11 := by decide
theorem zrw_id : ∀ w : Nat, w < 11 → zid (zrw w) = (w : Int) + 1 := by decide
theorem zrw_all : ∀ i : Nat, i < 11 → zrw (zrw i) = i := by decide
theorem zof_s : ∀ w : Nat, w < 11 → zof (w + 1) = zof w + (zwl (zrw w)).length + 1 ∧ zof w + (zwl (zrw w)).length ≤ 61 := by decide
theorem zof_c : ∀ w : Nat, w < 11 → ∀ j : Nat, j < (zwl (zrw w)).length → (mwl.getD (zof w + j) 0).toInt = ((zwl (zrw w)).getD j 0 : Int) := by decide +kernel
theorem zof_e : ∀ w : Nat, w < 11 → (mwl.getD (zof w + (zwl (zrw w)).length) 0).toInt = 32 := by decide +kernel
def zno (k : Nat → Nat) (w a b : Nat) : Prop := ∀ i : Nat, i < w → ¬ zw k (zwl (zrw i)) a b
theorem zno_s {k : Nat → Nat} {w a b : Nat} (h : zno k w a b) (g : ¬ zw k (zwl (zrw w)) a b) : zno k (w + 1) a b := fun i hi => by
  by_cases e : i = w
  · rw [e]; exact g
  · exact h i (by omega)
theorem zno_all {k : Nat → Nat} {a b : Nat} (h : zno k 11 a b) : ∀ i : Nat, i < 11 → ¬ zw k (zwl i) a b := fun i hi => by
  have := h (zrw i) (zrw_lt i hi)
  rw [zrw_all i hi] at this
  exact this
def w7X6_wordAt : List Cond := .code yX6_wordAt cX6_wordAt 8 (some .int) :: ([.fieldLink RX6 102 "SkiShotsModel" "words" "[I", .fieldLink RX6 7 "SkiShotsModel" "tape" "[I"] ++ wsX60)
set_option maxHeartbeats 4000000 in
set_option maxRecDepth 100000 in
theorem g7_X6_wordAt (l : Launch) (D : va_G) (h0 : Nat) (q : Nat → Nat) (cq : Nat → ClassId) (F : Nat → Int32) (G : Nat → Nat → Int32) (sz : Nat) (p0 : Int32) (p1 : Int32) (hI : mI F G) (kz : Nat → Nat) (nz : Nat) (htx : mTx kz nz F G) (k0 : 0 ≤ p0.toInt ∧ p0.toInt ≤ 1000) (k1 : 0 ≤ p1.toInt ∧ p1.toInt ≤ 1000) (kl : p0.toInt ≤ p1.toInt ∧ p1.toInt ≤ (nz : Int)) : Met l yX6_wordAt w7X6_wordAt ({ frames := 0, cells := 0, slots := 0, locals := 0 }) (mPre D h0 q cq F G sz [.ref h0, .int p0, .int p1]) (mQi D h0 q cq F G sz [] [] (fun r F' G' => (∃ i : Nat, i < 11 ∧ zw kz (zwl i) p0.toInt.toNat p1.toInt.toNat ∧ r.toInt = zid i) ∨ (r.toInt = -1 ∧ ∀ i : Nat, i < 11 → ¬ zw kz (zwl i) p0.toInt.toNat p1.toInt.toNat))) 0 0 (va_A (mW h0 q cq F G) sz) := by
  refine mr_met (WF := []) (WG := []) (cc := cX6_wordAt) (maxL := 8) (ret := (some .int)) (by decide) rfl rfl (by decide +kernel) (Nat.le_of_ble_eq_true rfl) hI ?_
  intro p e s m args below meth c ls E hml hr hlk hsz hA hM hl
  have hx := E.1
  have hb := E.2.1
  have hts := E.2.2.1
  have hown := E.2.2.2.2.1
  have hl : lv_has ls 8 [(0, .ref h0), (1, .int p0), (2, .int p1)] := hl
  have B_5 : ∀ n_5 : Nat, ∀ (H : Heap) (locs : List Loc) (ls : Array Slot) (Fc_5 : Nat → Int32) (Gc_5 : Nat → Nat → Int32) (kk ad : Int32), (1 ≤ kk.toInt ∧ kk.toInt ≤ 12) → (0 ≤ ad.toInt ∧ ad.toInt ≤ 62) → ad.toInt = (zof (kk.toInt.toNat - 1) : Int) → zno kz (kk.toInt.toNat - 1) p0.toInt.toNat p1.toInt.toNat → (62 - ad.toInt) < (n_5 : Int) → mQ D h0 q cq (va_A (mW h0 q cq F G) sz) s.heap [] [] F G H locs Fc_5 Gc_5 → lv_has ls 8 [(0, .ref h0), (1, .int p0), (2, .int p1), (3, .int kk), (4, .int ad)] → W p l e ({ frames := 0, cells := 0, slots := 0, locals := 0 }) s m args below meth c H locs 0 0 (MQ below (mQi D h0 q cq F G sz [] [] (fun r F' G' => (∃ i : Nat, i < 11 ∧ zw kz (zwl i) p0.toInt.toNat p1.toInt.toNat ∧ r.toInt = zid i) ∨ (r.toInt = -1 ∧ ∀ i : Nat, i < 11 → ¬ zw kz (zwl i) p0.toInt.toNat p1.toInt.toNat))) args s 0 0 (va_A (mW h0 q cq F G) sz)) (F0 m 5 ls []) := by
    intro n_5
    induction n_5 with
    | zero => intro H locs ls Fc_5 Gc_5 kk ad f5_0 f5_1 f5_2 f5_3 hn hM hl; exact False.elim (by have hfr_5 := hM.fr; omega)
    | succ n_5 ih_5 =>
      intro H locs ls Fc_5 Gc_5 kk ad f5_0 f5_1 f5_2 f5_3 hn hM hl
      have hfr_5 := hM.fr
      have B_57 : ∀ n_57 : Nat, ∀ (H : Heap) (locs : List Loc) (ls : Array Slot) (Fc_57 : Nat → Int32) (Gc_57 : Nat → Nat → Int32) (nn sa i : Int32), (0 ≤ sa.toInt ∧ sa.toInt ≤ 1) → (0 ≤ nn.toInt ∧ nn.toInt ≤ 61) → (0 ≤ i.toInt ∧ i.toInt ≤ 61) → kk.toInt ≤ 11 → nn.toInt = ((zwl (zrw (kk.toInt.toNat - 1))).length : Int) → (sa.toInt = 1 ∧ nn.toInt = p1.toInt - p0.toInt ∧ zpre kz p0.toInt.toNat (zwl (zrw (kk.toInt.toNat - 1))) i.toInt.toNat) ∨ (sa.toInt = 0 ∧ ¬ zw kz (zwl (zrw (kk.toInt.toNat - 1))) p0.toInt.toNat p1.toInt.toNat) → i.toInt ≤ nn.toInt → (nn.toInt - i.toInt) < (n_57 : Int) → mQ D h0 q cq (va_A (mW h0 q cq F G) sz) s.heap [] [] F G H locs Fc_57 Gc_57 → lv_has ls 8 [(0, .ref h0), (1, .int p0), (2, .int p1), (3, .int kk), (4, .int ad), (5, .int nn), (6, .int sa), (7, .int i)] → W p l e ({ frames := 0, cells := 0, slots := 0, locals := 0 }) s m args below meth c H locs 0 0 (MQ below (mQi D h0 q cq F G sz [] [] (fun r F' G' => (∃ i : Nat, i < 11 ∧ zw kz (zwl i) p0.toInt.toNat p1.toInt.toNat ∧ r.toInt = zid i) ∨ (r.toInt = -1 ∧ ∀ i : Nat, i < 11 → ¬ zw kz (zwl i) p0.toInt.toNat p1.toInt.toNat))) args s 0 0 (va_A (mW h0 q cq F G) sz)) (F0 m 57 ls []) := by
        intro n_57
        induction n_57 with
        | zero => intro H locs ls Fc_57 Gc_57 nn sa i f57_0 f57_1 f57_2 f57_3 f57_4 f57_5 f57_6 hn hM hl; exact False.elim (by have hfr_57 := hM.fr; omega)
        | succ n_57 ih_57 =>
          intro H locs ls Fc_57 Gc_57 nn sa i f57_0 f57_1 f57_2 f57_3 f57_4 f57_5 f57_6 hn hM hl
          have hfr_57 := hM.fr
          have hw : (kk.toInt.toNat - 1) < 11 := (by omega)
          have hz := zof_s _ hw
          refine lv_iload hx hb dX6_wordAt_57 (lv_at hl 7 rfl) ?_
          refine lv_iload hx hb dX6_wordAt_59 (lv_at hl 5 rfl) ?_
          refine mm_icmp_ge (X := i.toInt) (Y := nn.toInt) (tgt := 104) hx hb dX6_wordAt_61 (by decide) rfl rfl (fun c_1 => ?_) (fun c_1 => ?_)
          · refine lv_iload hx hb dX6_wordAt_104 (lv_at hl 6 rfl) ?_
            refine mm_if_eq (X := sa.toInt) (tgt := 111) hx hb dX6_wordAt_106 (by decide) rfl (fun c_2 => ?_) (fun c_2 => ?_)
            · refine lv_iload hx hb dX6_wordAt_111 (lv_at hl 4 rfl) ?_
              refine lv_iload hx hb dX6_wordAt_113 (lv_at hl 5 rfl) ?_
              refine lv_iconst (v := 1) hx hb dX6_wordAt_115 (by decide) ?_
              refine mm_iadd (X := nn.toInt) (Y := 1) hx hb dX6_wordAt_116 rfl num_1 (by omega) (fun z_3 hz_3 => ?_)
              refine mm_iadd (X := ad.toInt) (Y := z_3.toInt) hx hb dX6_wordAt_117 rfl rfl (by omega) (fun z_4 hz_4 => ?_)
              refine lv_istore (lv' := [(4, .int z_4), (0, .ref h0), (1, .int p0), (2, .int p1), (3, .int kk), (5, .int nn), (6, .int sa), (7, .int i)]) hx hb dX6_wordAt_118 hl (by decide) rfl (fun ls hl => ?_)
              refine mm_iinc (X := kk.toInt) (v := 1) (lv2 := fun z => [(3, .int z), (4, .int z_4), (0, .ref h0), (1, .int p0), (2, .int p1), (5, .int nn), (6, .int sa), (7, .int i)]) hx hb dX6_wordAt_120 hl (k := 4) rfl rfl (by decide) num_1 (by omega) (by decide) (fun _ => rfl) (fun z_5 ls hz_5 hl => ?_)
              have hl : lv_has ls 8 [(3, .int z_5), (4, .int z_4), (0, .ref h0), (1, .int p0), (2, .int p1), (5, .int nn), (6, .int sa), (7, .int i)] := hl
              refine lv_goto (tgt := 5) hx hb dX6_wordAt_123 (by decide) ?_
              exact ih_5 _ _ _ Fc_57 Gc_57 z_5 z_4 (show (1 ≤ z_5.toInt ∧ z_5.toInt ≤ 12) from by omega) (show (0 ≤ z_4.toInt ∧ z_4.toInt ≤ 62) from by omega) (show z_4.toInt = (zof (z_5.toInt.toNat - 1) : Int) from by rw [show z_5.toInt.toNat - 1 = (kk.toInt.toNat - 1) + 1 from by omega, (zof_s _ hw).1]; omega) (show zno kz (z_5.toInt.toNat - 1) p0.toInt.toNat p1.toInt.toNat from by rw [show z_5.toInt.toNat - 1 = (kk.toInt.toNat - 1) + 1 from by omega]; exact zno_s f5_3 (f57_5.resolve_left (fun q => by omega)).2) (show (62 - z_4.toInt) < ((n_5 : Nat) : Int) from by omega) hM (lv_sub hl [2, 3, 4, 0, 1] rfl)
            · refine lv_iload_n hx hb dX6_wordAt_109 rfl (lv_at hl 3 rfl) ?_
              exact mr_ri E hr hlk hsz hM (show (∃ i : Nat, i < 11 ∧ zw kz (zwl i) p0.toInt.toNat p1.toInt.toNat ∧ kk.toInt = zid i) ∨ (kk.toInt = -1 ∧ ∀ i : Nat, i < 11 → ¬ zw kz (zwl i) p0.toInt.toNat p1.toInt.toNat) from by have hpv := f57_5.resolve_right (fun q => by omega); exact Or.inl ⟨zrw (kk.toInt.toNat - 1), zrw_lt _ hw, ⟨by omega, fun j hj => hpv.2.2 j (by omega)⟩, by rw [zrw_id _ hw]; omega⟩) dX6_wordAt_110
          · refine lv_iload hx hb dX6_wordAt_64 (lv_at hl 6 rfl) ?_
            refine mm_if_eq (X := sa.toInt) (tgt := 104) hx hb dX6_wordAt_66 (by decide) rfl (fun c_6 => ?_) (fun c_6 => ?_)
            · refine lv_iload hx hb dX6_wordAt_104 (lv_at hl 6 rfl) ?_
              refine mm_if_eq (X := sa.toInt) (tgt := 111) hx hb dX6_wordAt_106 (by decide) rfl (fun c_7 => ?_) (fun c_7 => False.elim (by omega))
              refine lv_iload hx hb dX6_wordAt_111 (lv_at hl 4 rfl) ?_
              refine lv_iload hx hb dX6_wordAt_113 (lv_at hl 5 rfl) ?_
              refine lv_iconst (v := 1) hx hb dX6_wordAt_115 (by decide) ?_
              refine mm_iadd (X := nn.toInt) (Y := 1) hx hb dX6_wordAt_116 rfl num_1 (by omega) (fun z_8 hz_8 => ?_)
              refine mm_iadd (X := ad.toInt) (Y := z_8.toInt) hx hb dX6_wordAt_117 rfl rfl (by omega) (fun z_9 hz_9 => ?_)
              refine lv_istore (lv' := [(4, .int z_9), (0, .ref h0), (1, .int p0), (2, .int p1), (3, .int kk), (5, .int nn), (6, .int sa), (7, .int i)]) hx hb dX6_wordAt_118 hl (by decide) rfl (fun ls hl => ?_)
              refine mm_iinc (X := kk.toInt) (v := 1) (lv2 := fun z => [(3, .int z), (4, .int z_9), (0, .ref h0), (1, .int p0), (2, .int p1), (5, .int nn), (6, .int sa), (7, .int i)]) hx hb dX6_wordAt_120 hl (k := 4) rfl rfl (by decide) num_1 (by omega) (by decide) (fun _ => rfl) (fun z_10 ls hz_10 hl => ?_)
              have hl : lv_has ls 8 [(3, .int z_10), (4, .int z_9), (0, .ref h0), (1, .int p0), (2, .int p1), (5, .int nn), (6, .int sa), (7, .int i)] := hl
              refine lv_goto (tgt := 5) hx hb dX6_wordAt_123 (by decide) ?_
              exact ih_5 _ _ _ Fc_57 Gc_57 z_10 z_9 (show (1 ≤ z_10.toInt ∧ z_10.toInt ≤ 12) from by omega) (show (0 ≤ z_9.toInt ∧ z_9.toInt ≤ 62) from by omega) (show z_9.toInt = (zof (z_10.toInt.toNat - 1) : Int) from by rw [show z_10.toInt.toNat - 1 = (kk.toInt.toNat - 1) + 1 from by omega, (zof_s _ hw).1]; omega) (show zno kz (z_10.toInt.toNat - 1) p0.toInt.toNat p1.toInt.toNat from by rw [show z_10.toInt.toNat - 1 = (kk.toInt.toNat - 1) + 1 from by omega]; exact zno_s f5_3 (f57_5.resolve_left (fun q => by omega)).2) (show (62 - z_9.toInt) < ((n_5 : Nat) : Int) from by omega) hM (lv_sub hl [2, 3, 4, 0, 1] rfl)
            · refine lv_aload_n hx hb dX6_wordAt_69 rfl (lv_at hl 0 rfl) ?_
              refine mr_get (v := .ref (q 38)) E hM 38 (by decide) (index := 102) (mm_at 1 rfl) rfl rfl dX6_wordAt_70 ?_
              refine lv_iload hx hb dX6_wordAt_73 (lv_at hl 4 rfl) ?_
              refine lv_iload hx hb dX6_wordAt_75 (lv_at hl 7 rfl) ?_
              refine mm_iadd (X := ad.toInt) (Y := i.toInt) hx hb dX6_wordAt_77 rfl rfl (by omega) (fun z_11 hz_11 => ?_)
              refine mr_ald (X := z_11.toInt) E hM 30 29 rfl rfl rfl (by omega) dX6_wordAt_78 ?_
              refine lv_aload_n hx hb dX6_wordAt_79 rfl (lv_at hl 0 rfl) ?_
              refine mr_get (v := .ref (q 0)) E hM 0 (by decide) (index := 7) (mm_at 2 rfl) rfl rfl dX6_wordAt_80 ?_
              refine lv_iload_n hx hb dX6_wordAt_83 rfl (lv_at hl 1 rfl) ?_
              refine lv_iload hx hb dX6_wordAt_84 (lv_at hl 7 rfl) ?_
              refine mm_iadd (X := p0.toInt) (Y := i.toInt) hx hb dX6_wordAt_86 rfl rfl (by omega) (fun z_12 hz_12 => ?_)
              refine mr_ald (X := z_12.toInt) E hM 1 0 rfl rfl rfl (by omega) dX6_wordAt_87 ?_
              have hpv := f57_5.resolve_right (fun q => by omega)
              have hwl : (Gc_57 38 (Int32.toNatClampNeg z_11)).toInt = ((zwl (zrw (kk.toInt.toNat - 1))).getD i.toInt.toNat 0 : Int) := by rw [hM.wd, show Int32.toNatClampNeg z_11 = zof (kk.toInt.toNat - 1) + i.toInt.toNat from by rw [mm_nat]; omega]; exact zof_c _ hw _ (by omega)
              have hsm := zwl_sm _ (zrw_lt _ hw) i.toInt.toNat (by omega)
              have htc := mTx_fr htx hM.fr (by decide) (by decide)
              have hta := mTx_at htc (p := p0.toInt.toNat + i.toInt.toNat) (c := (zwl (zrw (kk.toInt.toNat - 1))).getD i.toInt.toNat 0) (by omega)
              have hti : (Gc_57 0 (Int32.toNatClampNeg z_12)).toInt = (Gc_57 0 (p0.toInt.toNat + i.toInt.toNat)).toInt := by rw [show Int32.toNatClampNeg z_12 = p0.toInt.toNat + i.toInt.toNat from by rw [mm_nat]; omega]
              refine mm_icmp_ne (X := (Gc_57 38 (Int32.toNatClampNeg z_11)).toInt) (Y := (Gc_57 0 (Int32.toNatClampNeg z_12)).toInt) (tgt := 95) hx hb dX6_wordAt_88 (by decide) rfl rfl (fun c_13 => ?_) (fun c_13 => ?_)
              · refine lv_iconst (v := 0) hx hb dX6_wordAt_95 (by decide) ?_
                refine lv_istore (lv' := [(6, .int 0), (0, .ref h0), (1, .int p0), (2, .int p1), (3, .int kk), (4, .int ad), (5, .int nn), (7, .int i)]) hx hb dX6_wordAt_96 hl (by decide) rfl (fun ls hl => ?_)
                refine mm_iinc (X := i.toInt) (v := 1) (lv2 := fun z => [(7, .int z), (6, .int 0), (0, .ref h0), (1, .int p0), (2, .int p1), (3, .int kk), (4, .int ad), (5, .int nn)]) hx hb dX6_wordAt_98 hl (k := 7) rfl rfl (by decide) num_1 (by omega) (by decide) (fun _ => rfl) (fun z_14 ls hz_14 hl => ?_)
                have hl : lv_has ls 8 [(7, .int z_14), (6, .int 0), (0, .ref h0), (1, .int p0), (2, .int p1), (3, .int kk), (4, .int ad), (5, .int nn)] := hl
                refine lv_goto (tgt := 57) hx hb dX6_wordAt_101 (by decide) ?_
                exact ih_57 _ _ _ Fc_57 Gc_57 nn 0 z_14 (show (0 ≤ (0 : Int32).toInt ∧ (0 : Int32).toInt ≤ 1) from by have n_1 := num_0; omega) (show (0 ≤ nn.toInt ∧ nn.toInt ≤ 61) from by have n_1 := num_0; omega) (show (0 ≤ z_14.toInt ∧ z_14.toInt ≤ 61) from by have n_1 := num_0; omega) (show kk.toInt ≤ 11 from by have n_1 := num_0; omega) (show nn.toInt = ((zwl (zrw (kk.toInt.toNat - 1))).length : Int) from by have n_1 := num_0; omega) (show ((0 : Int32).toInt = 1 ∧ nn.toInt = p1.toInt - p0.toInt ∧ zpre kz p0.toInt.toNat (zwl (zrw (kk.toInt.toNat - 1))) z_14.toInt.toNat) ∨ ((0 : Int32).toInt = 0 ∧ ¬ zw kz (zwl (zrw (kk.toInt.toNat - 1))) p0.toInt.toNat p1.toInt.toNat) from by have n_1 := num_0; exact Or.inr ⟨by omega, fun hw2 => by have h1 := hta.mp (hw2.2 i.toInt.toNat (by omega)); omega⟩) (show z_14.toInt ≤ nn.toInt from by have n_1 := num_0; omega) (show (nn.toInt - z_14.toInt) < ((n_57 : Nat) : Int) from by have n_1 := num_0; omega) hM (lv_sub hl [2, 3, 4, 5, 6, 7, 1, 0] rfl)
              · refine lv_iconst (v := 1) hx hb dX6_wordAt_91 (by decide) ?_
                refine lv_goto (tgt := 96) hx hb dX6_wordAt_92 (by decide) ?_
                refine lv_istore (lv' := [(6, .int 1), (0, .ref h0), (1, .int p0), (2, .int p1), (3, .int kk), (4, .int ad), (5, .int nn), (7, .int i)]) hx hb dX6_wordAt_96 hl (by decide) rfl (fun ls hl => ?_)
                refine mm_iinc (X := i.toInt) (v := 1) (lv2 := fun z => [(7, .int z), (6, .int 1), (0, .ref h0), (1, .int p0), (2, .int p1), (3, .int kk), (4, .int ad), (5, .int nn)]) hx hb dX6_wordAt_98 hl (k := 7) rfl rfl (by decide) num_1 (by omega) (by decide) (fun _ => rfl) (fun z_15 ls hz_15 hl => ?_)
                have hl : lv_has ls 8 [(7, .int z_15), (6, .int 1), (0, .ref h0), (1, .int p0), (2, .int p1), (3, .int kk), (4, .int ad), (5, .int nn)] := hl
                refine lv_goto (tgt := 57) hx hb dX6_wordAt_101 (by decide) ?_
                exact ih_57 _ _ _ Fc_57 Gc_57 nn 1 z_15 (show (0 ≤ (1 : Int32).toInt ∧ (1 : Int32).toInt ≤ 1) from by have n_1 := num_1; omega) (show (0 ≤ nn.toInt ∧ nn.toInt ≤ 61) from by have n_1 := num_1; omega) (show (0 ≤ z_15.toInt ∧ z_15.toInt ≤ 61) from by have n_1 := num_1; omega) (show kk.toInt ≤ 11 from by have n_1 := num_1; omega) (show nn.toInt = ((zwl (zrw (kk.toInt.toNat - 1))).length : Int) from by have n_1 := num_1; omega) (show ((1 : Int32).toInt = 1 ∧ nn.toInt = p1.toInt - p0.toInt ∧ zpre kz p0.toInt.toNat (zwl (zrw (kk.toInt.toNat - 1))) z_15.toInt.toNat) ∨ ((1 : Int32).toInt = 0 ∧ ¬ zw kz (zwl (zrw (kk.toInt.toNat - 1))) p0.toInt.toNat p1.toInt.toNat) from by have n_1 := num_1; exact Or.inl ⟨by omega, by omega, fun j hj => (Nat.lt_or_ge j i.toInt.toNat).elim (fun h9 => hpv.2.2 j h9) (fun h9 => by rw [show j = i.toInt.toNat from by omega]; exact hta.mpr ⟨by omega, by omega⟩)⟩) (show z_15.toInt ≤ nn.toInt from by have n_1 := num_1; omega) (show (nn.toInt - z_15.toInt) < ((n_57 : Nat) : Int) from by have n_1 := num_1; omega) hM (lv_sub hl [2, 3, 4, 5, 6, 7, 1, 0] rfl)
      have B_18 : ∀ n_18 : Nat, ∀ (H : Heap) (locs : List Loc) (ls : Array Slot) (Fc_18 : Nat → Int32) (Gc_18 : Nat → Nat → Int32) (nn : Int32), (0 ≤ nn.toInt ∧ nn.toInt ≤ 61) → kk.toInt ≤ 11 → nn.toInt ≤ ((zwl (zrw (kk.toInt.toNat - 1))).length : Int) → (62 - nn.toInt) < (n_18 : Int) → mQ D h0 q cq (va_A (mW h0 q cq F G) sz) s.heap [] [] F G H locs Fc_18 Gc_18 → lv_has ls 8 [(0, .ref h0), (1, .int p0), (2, .int p1), (3, .int kk), (4, .int ad), (5, .int nn)] → W p l e ({ frames := 0, cells := 0, slots := 0, locals := 0 }) s m args below meth c H locs 0 0 (MQ below (mQi D h0 q cq F G sz [] [] (fun r F' G' => (∃ i : Nat, i < 11 ∧ zw kz (zwl i) p0.toInt.toNat p1.toInt.toNat ∧ r.toInt = zid i) ∨ (r.toInt = -1 ∧ ∀ i : Nat, i < 11 → ¬ zw kz (zwl i) p0.toInt.toNat p1.toInt.toNat))) args s 0 0 (va_A (mW h0 q cq F G) sz)) (F0 m 18 ls []) := by
        intro n_18
        induction n_18 with
        | zero => intro H locs ls Fc_18 Gc_18 nn f18_0 f18_1 f18_2 hn hM hl; exact False.elim (by have hfr_18 := hM.fr; omega)
        | succ n_18 ih_18 =>
          intro H locs ls Fc_18 Gc_18 nn f18_0 f18_1 f18_2 hn hM hl
          have hfr_18 := hM.fr
          have hw : (kk.toInt.toNat - 1) < 11 := (by omega)
          have hz := zof_s _ hw
          refine lv_aload_n hx hb dX6_wordAt_18 rfl (lv_at hl 0 rfl) ?_
          refine mr_get (v := .ref (q 38)) E hM 38 (by decide) (index := 102) (mm_at 1 rfl) rfl rfl dX6_wordAt_19 ?_
          refine lv_iload hx hb dX6_wordAt_22 (lv_at hl 4 rfl) ?_
          refine lv_iload hx hb dX6_wordAt_24 (lv_at hl 5 rfl) ?_
          refine mm_iadd (X := ad.toInt) (Y := nn.toInt) hx hb dX6_wordAt_26 rfl rfl (by omega) (fun z_16 hz_16 => ?_)
          refine mr_ald (X := z_16.toInt) E hM 30 29 rfl rfl rfl (by omega) dX6_wordAt_27 ?_
          have hwv : (Gc_18 38 (Int32.toNatClampNeg z_16)).toInt = (mwl.getD (zof (kk.toInt.toNat - 1) + nn.toInt.toNat) 0).toInt := by rw [hM.wd, show Int32.toNatClampNeg z_16 = zof (kk.toInt.toNat - 1) + nn.toInt.toNat from by rw [mm_nat]; omega]
          have hcs : (nn.toInt = ((zwl (zrw (kk.toInt.toNat - 1))).length : Int) ∧ (Gc_18 38 (Int32.toNatClampNeg z_16)).toInt = 32) ∨ (nn.toInt < ((zwl (zrw (kk.toInt.toNat - 1))).length : Int) ∧ 97 ≤ (Gc_18 38 (Int32.toNatClampNeg z_16)).toInt) := (Nat.lt_or_ge nn.toInt.toNat (zwl (zrw (kk.toInt.toNat - 1))).length).elim (fun q => Or.inr ⟨by omega, by rw [hwv, zof_c _ hw _ q]; have := zwl_sm _ (zrw_lt _ hw) _ q; omega⟩) (fun q => Or.inl ⟨by omega, by rw [hwv, show nn.toInt.toNat = (zwl (zrw (kk.toInt.toNat - 1))).length from by omega]; exact zof_e _ hw⟩)
          refine lv_bipush (v := 32) hx hb dX6_wordAt_28 (by decide) ?_
          refine mm_icmp_eq (X := (Gc_18 38 (Int32.toNatClampNeg z_16)).toInt) (Y := 32) (tgt := 39) hx hb dX6_wordAt_30 (by decide) rfl num_32 (fun c_17 => ?_) (fun c_17 => ?_)
          · refine lv_iload hx hb dX6_wordAt_39 (lv_at hl 5 rfl) ?_
            refine lv_iload_n hx hb dX6_wordAt_41 rfl (lv_at hl 2 rfl) ?_
            refine lv_iload_n hx hb dX6_wordAt_42 rfl (lv_at hl 1 rfl) ?_
            refine mm_isub (X := p1.toInt) (Y := p0.toInt) hx hb dX6_wordAt_43 rfl rfl (by omega) (fun z_18 hz_18 => ?_)
            refine mm_icmp_ne (X := nn.toInt) (Y := z_18.toInt) (tgt := 51) hx hb dX6_wordAt_44 (by decide) rfl rfl (fun c_19 => ?_) (fun c_19 => ?_)
            · refine lv_iconst (v := 0) hx hb dX6_wordAt_51 (by decide) ?_
              refine lv_istore (lv' := [(6, .int 0), (0, .ref h0), (1, .int p0), (2, .int p1), (3, .int kk), (4, .int ad), (5, .int nn)]) hx hb dX6_wordAt_52 hl (by decide) rfl (fun ls hl => ?_)
              refine lv_iconst (v := 0) hx hb dX6_wordAt_54 (by decide) ?_
              refine lv_istore (lv' := [(7, .int 0), (6, .int 0), (0, .ref h0), (1, .int p0), (2, .int p1), (3, .int kk), (4, .int ad), (5, .int nn)]) hx hb dX6_wordAt_55 hl (by decide) rfl (fun ls hl => ?_)
              exact B_57 4294967296 _ _ _ Fc_18 Gc_18 nn 0 0 (show (0 ≤ (0 : Int32).toInt ∧ (0 : Int32).toInt ≤ 1) from by have n_1 := num_0; have n_2 := num_0; omega) (show (0 ≤ nn.toInt ∧ nn.toInt ≤ 61) from by have n_1 := num_0; have n_2 := num_0; omega) (show (0 ≤ (0 : Int32).toInt ∧ (0 : Int32).toInt ≤ 61) from by have n_1 := num_0; have n_2 := num_0; omega) (show kk.toInt ≤ 11 from by have n_1 := num_0; have n_2 := num_0; omega) (show nn.toInt = ((zwl (zrw (kk.toInt.toNat - 1))).length : Int) from by have n_1 := num_0; have n_2 := num_0; omega) (show ((0 : Int32).toInt = 1 ∧ nn.toInt = p1.toInt - p0.toInt ∧ zpre kz p0.toInt.toNat (zwl (zrw (kk.toInt.toNat - 1))) (0 : Int32).toInt.toNat) ∨ ((0 : Int32).toInt = 0 ∧ ¬ zw kz (zwl (zrw (kk.toInt.toNat - 1))) p0.toInt.toNat p1.toInt.toNat) from by have n_1 := num_0; have n_2 := num_0; exact Or.inr ⟨by omega, fun hw2 => by have := hw2.1; omega⟩) (show (0 : Int32).toInt ≤ nn.toInt from by have n_1 := num_0; have n_2 := num_0; omega) (show (nn.toInt - (0 : Int32).toInt) < ((4294967296 : Nat) : Int) from by have n_1 := num_0; have n_2 := num_0; omega) hM (lv_sub hl [2, 3, 4, 5, 6, 7, 1, 0] rfl)
            · refine lv_iconst (v := 1) hx hb dX6_wordAt_47 (by decide) ?_
              refine lv_goto (tgt := 52) hx hb dX6_wordAt_48 (by decide) ?_
              refine lv_istore (lv' := [(6, .int 1), (0, .ref h0), (1, .int p0), (2, .int p1), (3, .int kk), (4, .int ad), (5, .int nn)]) hx hb dX6_wordAt_52 hl (by decide) rfl (fun ls hl => ?_)
              refine lv_iconst (v := 0) hx hb dX6_wordAt_54 (by decide) ?_
              refine lv_istore (lv' := [(7, .int 0), (6, .int 1), (0, .ref h0), (1, .int p0), (2, .int p1), (3, .int kk), (4, .int ad), (5, .int nn)]) hx hb dX6_wordAt_55 hl (by decide) rfl (fun ls hl => ?_)
              exact B_57 4294967296 _ _ _ Fc_18 Gc_18 nn 1 0 (show (0 ≤ (1 : Int32).toInt ∧ (1 : Int32).toInt ≤ 1) from by have n_1 := num_1; have n_2 := num_0; omega) (show (0 ≤ nn.toInt ∧ nn.toInt ≤ 61) from by have n_1 := num_1; have n_2 := num_0; omega) (show (0 ≤ (0 : Int32).toInt ∧ (0 : Int32).toInt ≤ 61) from by have n_1 := num_1; have n_2 := num_0; omega) (show kk.toInt ≤ 11 from by have n_1 := num_1; have n_2 := num_0; omega) (show nn.toInt = ((zwl (zrw (kk.toInt.toNat - 1))).length : Int) from by have n_1 := num_1; have n_2 := num_0; omega) (show ((1 : Int32).toInt = 1 ∧ nn.toInt = p1.toInt - p0.toInt ∧ zpre kz p0.toInt.toNat (zwl (zrw (kk.toInt.toNat - 1))) (0 : Int32).toInt.toNat) ∨ ((1 : Int32).toInt = 0 ∧ ¬ zw kz (zwl (zrw (kk.toInt.toNat - 1))) p0.toInt.toNat p1.toInt.toNat) from by have n_1 := num_1; have n_2 := num_0; exact Or.inl ⟨by omega, by omega, fun j hj => absurd hj (by rw [show (0 : Int32).toInt.toNat = 0 from by decide]; exact Nat.not_lt_zero _)⟩) (show (0 : Int32).toInt ≤ nn.toInt from by have n_1 := num_1; have n_2 := num_0; omega) (show (nn.toInt - (0 : Int32).toInt) < ((4294967296 : Nat) : Int) from by have n_1 := num_1; have n_2 := num_0; omega) hM (lv_sub hl [2, 3, 4, 5, 6, 7, 1, 0] rfl)
          · refine mm_iinc (X := nn.toInt) (v := 1) (lv2 := fun z => [(5, .int z), (0, .ref h0), (1, .int p0), (2, .int p1), (3, .int kk), (4, .int ad)]) hx hb dX6_wordAt_33 hl (k := 5) rfl rfl (by decide) num_1 (by omega) (by decide) (fun _ => rfl) (fun z_20 ls hz_20 hl => ?_)
            have hl : lv_has ls 8 [(5, .int z_20), (0, .ref h0), (1, .int p0), (2, .int p1), (3, .int kk), (4, .int ad)] := hl
            refine lv_goto (tgt := 18) hx hb dX6_wordAt_36 (by decide) ?_
            exact ih_18 _ _ _ Fc_18 Gc_18 z_20 (show (0 ≤ z_20.toInt ∧ z_20.toInt ≤ 61) from by omega) (show kk.toInt ≤ 11 from by omega) (show z_20.toInt ≤ ((zwl (zrw (kk.toInt.toNat - 1))).length : Int) from by omega) (show (62 - z_20.toInt) < ((n_18 : Nat) : Int) from by omega) hM (lv_sub hl [1, 2, 3, 4, 5, 0] rfl)
      refine lv_iload hx hb dX6_wordAt_5 (lv_at hl 4 rfl) ?_
      refine lv_aload_n hx hb dX6_wordAt_7 rfl (lv_at hl 0 rfl) ?_
      refine mr_get (v := .ref (q 38)) E hM 38 (by decide) (index := 102) (mm_at 1 rfl) rfl rfl dX6_wordAt_8 ?_
      refine mr_alen (v := 62) E hM 30 29 rfl rfl (by decide) dX6_wordAt_11 ?_
      refine mm_icmp_ge (X := ad.toInt) (Y := 62) (tgt := 126) hx hb dX6_wordAt_12 (by decide) rfl num_62 (fun c_21 => ?_) (fun c_21 => ?_)
      · refine lv_iconst (v := (-1)) hx hb dX6_wordAt_126 (by decide) ?_
        exact mr_ri E hr hlk hsz hM (show (∃ i : Nat, i < 11 ∧ zw kz (zwl i) p0.toInt.toNat p1.toInt.toNat ∧ ((-1) : Int32).toInt = zid i) ∨ (((-1) : Int32).toInt = -1 ∧ ∀ i : Nat, i < 11 → ¬ zw kz (zwl i) p0.toInt.toNat p1.toInt.toNat) from by have n9 := num_m1; have hk : (kk.toInt.toNat - 1) = 11 := (Nat.lt_or_ge (kk.toInt.toNat - 1) 11).elim (fun q => by have := (zof_s _ q).2; omega) (fun q => by omega); rw [hk] at f5_3; exact Or.inr ⟨by omega, zno_all f5_3⟩) dX6_wordAt_127
      · have hw : (kk.toInt.toNat - 1) < 11 := (Nat.lt_or_ge (kk.toInt.toNat - 1) 11).elim id (fun q => False.elim (by have e : (kk.toInt.toNat - 1) = 11 := (by omega); rw [e, show zof 11 = 62 from rfl] at f5_2; omega))
        have hz := zof_s _ hw
        refine lv_iconst (v := 0) hx hb dX6_wordAt_15 (by decide) ?_
        refine lv_istore (lv' := [(5, .int 0), (0, .ref h0), (1, .int p0), (2, .int p1), (3, .int kk), (4, .int ad)]) hx hb dX6_wordAt_16 hl (by decide) rfl (fun ls hl => ?_)
        exact B_18 4294967296 _ _ _ Fc_5 Gc_5 0 (show (0 ≤ (0 : Int32).toInt ∧ (0 : Int32).toInt ≤ 61) from by have n_0 := num_0; omega) (show kk.toInt ≤ 11 from by have n_0 := num_0; omega) (show (0 : Int32).toInt ≤ ((zwl (zrw (kk.toInt.toNat - 1))).length : Int) from by have n_0 := num_0; omega) (show (62 - (0 : Int32).toInt) < ((4294967296 : Nat) : Int) from by have n_0 := num_0; omega) hM (lv_sub hl [1, 2, 3, 4, 5, 0] rfl)
  refine lv_iconst (v := 1) hx hb dX6_wordAt_0 (by decide) ?_
  refine lv_istore_n (lv' := [(3, .int 1), (0, .ref h0), (1, .int p0), (2, .int p1)]) hx hb dX6_wordAt_1 rfl hl (by decide) rfl (fun ls hl => ?_)
  refine lv_iconst (v := 0) hx hb dX6_wordAt_2 (by decide) ?_
  refine lv_istore (lv' := [(4, .int 0), (3, .int 1), (0, .ref h0), (1, .int p0), (2, .int p1)]) hx hb dX6_wordAt_3 hl (by decide) rfl (fun ls hl => ?_)
  exact B_5 4294967296 _ _ _ F G 1 0 (show (1 ≤ (1 : Int32).toInt ∧ (1 : Int32).toInt ≤ 12) from by have n_0 := num_1; have n_1 := num_0; omega) (show (0 ≤ (0 : Int32).toInt ∧ (0 : Int32).toInt ≤ 62) from by have n_0 := num_1; have n_1 := num_0; omega) (show (0 : Int32).toInt = (zof ((1 : Int32).toInt.toNat - 1) : Int) from by have n_0 := num_1; have n_1 := num_0; rw [show (1 : Int32).toInt.toNat - 1 = 0 from by decide]; show _ = ((0 : Nat) : Int); omega) (show zno kz ((1 : Int32).toInt.toNat - 1) p0.toInt.toNat p1.toInt.toNat from by have n_0 := num_1; have n_1 := num_0; rw [show (1 : Int32).toInt.toNat - 1 = 0 from by decide]; exact fun i hi => absurd hi (Nat.not_lt_zero _)) (show (62 - (0 : Int32).toInt) < ((4294967296 : Nat) : Int) from by have n_0 := num_1; have n_1 := num_0; omega) hM (lv_sub hl [2, 3, 4, 1, 0] rfl)
def w7X6_take : List Cond := .code yX6_take cX6_take 1 none :: ([.fieldLink RX6 138 "SkiShotsModel" "next" "I", .methodLink RX6 158 yX6_isDigit, .instanceMethod yX6_isDigit, .selects RX6 yX6_isDigit yX6_isDigit, .initialized RX6, .code yX6_isDigit cX6_isDigit 2 (some .boolean), .fieldLink RX6 135 "SkiShotsModel" "size" "I", .fieldLink RX6 7 "SkiShotsModel" "tape" "[I", .fieldLink RX6 155 "SkiShotsModel" "which" "I", .constant RX6 161 (99999), .methodLink RX6 147 yX6_isSmall, .instanceMethod yX6_isSmall, .selects RX6 yX6_isSmall yX6_isSmall, .code yX6_isSmall cX6_isSmall 2 (some .boolean), .fieldLink RX6 141 "SkiShotsModel" "place" "I", .methodLink RX6 151 yX6_wordAt, .instanceMethod yX6_wordAt, .selects RX6 yX6_wordAt yX6_wordAt, .code yX6_wordAt cX6_wordAt 8 (some .int), .fieldLink RX6 102 "SkiShotsModel" "words" "[I", .fieldLink RX6 144 "SkiShotsModel" "kind" "I"] ++ wsX60)
set_option maxRecDepth 20000 in
theorem g8_X6_take_X6_isDigit_2 : GoodIn w7X6_take (wsV RX6 158 RX6 yX6_isDigit w3X6_isDigit) := goodIn_p _ [6] rfl (by decide +kernel)
set_option maxRecDepth 20000 in
theorem g8_X6_take_X6_isSmall_21 : GoodIn w7X6_take (wsV RX6 147 RX6 yX6_isSmall w3X6_isSmall) := goodIn_p _ [14] rfl (by decide +kernel)
set_option maxRecDepth 20000 in
theorem g8_X6_take_X6_wordAt_28 : GoodIn w7X6_take (wsV RX6 151 RX6 yX6_wordAt w7X6_wordAt) := goodIn_p _ [19] rfl (by decide +kernel)
set_option maxRecDepth 20000 in
theorem g8_X6_take_X6_isSmall_40 : GoodIn w7X6_take (wsV RX6 147 RX6 yX6_isSmall w3X6_isSmall) := goodIn_p _ [14] rfl (by decide +kernel)
set_option maxRecDepth 20000 in
theorem g8_X6_take_X6_isDigit_44 : GoodIn w7X6_take (wsV RX6 158 RX6 yX6_isDigit w3X6_isDigit) := goodIn_p _ [6] rfl (by decide +kernel)
set_option maxHeartbeats 4000000 in
set_option maxRecDepth 100000 in
theorem g7_X6_take (l : Launch) (D : va_G) (h0 : Nat) (q : Nat → Nat) (cq : Nat → ClassId) (F : Nat → Int32) (G : Nat → Nat → Int32) (sz : Nat)  (hI : mI F G) (kz : Nat → Nat) (nz : Nat) (xz : Nat) (htx : mTx kz nz F G) (hnx : (F 40).toInt = (xz : Int)) (hns : (F 40).toInt ≤ (F 39).toInt) : Met l yX6_take w7X6_take ({ frames := 1, cells := 0, slots := 0, locals := 27 }) (mPre D h0 q cq F G sz [.ref h0]) (mQv D h0 q cq F G sz [40, 41, 42, 43] [] (fun F' G' => (F' 40).toInt ≤ (F 39).toInt ∧ (F 40).toInt ≤ (F' 40).toInt ∧ ((F' 41).toInt = 0 ∨ (F 40).toInt < (F' 40).toInt) ∧ (¬ (F' 41).toInt = 2 ∨ (65 ≤ (F' 42).toInt ∧ (F' 42).toInt ≤ 72)) ∧ (F' 43).toInt = (ztp kz xz : Int) ∧ (F' 40).toInt = (zty kz nz xz : Int) ∧ mKW kz nz xz (F' 41).toInt (F' 42).toInt)) 0 0 (va_A (mW h0 q cq F G) sz) := by
  refine mr_met (WF := [40, 41, 42, 43]) (WG := []) (cc := cX6_take) (maxL := 1) (ret := none) (by decide) rfl rfl (by decide +kernel) (Nat.le_of_ble_eq_true rfl) hI ?_
  intro p e s m args below meth c ls E hml hr hlk hsz hA hM hl
  have hx := E.1
  have hb := E.2.1
  have hts := E.2.2.1
  have hown := E.2.2.2.2.1
  have hl : lv_has ls 1 [(0, .ref h0)] := hl
  have hou := mTx_out htx
  have hsz9 := htx.2
  have B_170 : ∀ n_170 : Nat, ∀ (H : Heap) (locs : List Loc) (ls : Array Slot) (Fc_170 : Nat → Int32) (Gc_170 : Nat → Nat → Int32), (Fc_170 40).toInt ≤ (F 39).toInt → (F 40).toInt ≤ (Fc_170 40).toInt → (Fc_170 41).toInt = 3 → (F 40).toInt < (Fc_170 40).toInt ∨ ((Fc_170 40).toInt < (F 39).toInt ∧ 48 ≤ (Gc_170 0 (Int32.toNatClampNeg (Fc_170 40))).toInt ∧ (Gc_170 0 (Int32.toNatClampNeg (Fc_170 40))).toInt ≤ 57) → (Fc_170 43).toInt = (ztp kz xz : Int) → zrun (zdg kz) (ztp kz xz) ((Fc_170 40).toInt).toNat → zdg kz (ztp kz xz) → ((zval kz (ztp kz xz) (((Fc_170 40).toInt).toNat - ztp kz xz) : Int) ≤ 99999 ∧ (Fc_170 42).toInt = (zval kz (ztp kz xz) (((Fc_170 40).toInt).toNat - ztp kz xz) : Int)) ∨ (99999 < (zval kz (ztp kz xz) (((Fc_170 40).toInt).toNat - ztp kz xz) : Int) ∧ 99999 < (Fc_170 42).toInt) → 0 ≤ (Fc_170 42).toInt ∧ (Fc_170 42).toInt ≤ 1000100 → ((F 39).toInt - (Fc_170 40).toInt) < (n_170 : Int) → mQ D h0 q cq (va_A (mW h0 q cq F G) sz) s.heap [40, 41, 42, 43] [] F G H locs Fc_170 Gc_170 → lv_has ls 1 [(0, .ref h0)] → W p l e ({ frames := 1, cells := 0, slots := 0, locals := 27 }) s m args below meth c H locs 0 0 (MQ below (mQv D h0 q cq F G sz [40, 41, 42, 43] [] (fun F' G' => (F' 40).toInt ≤ (F 39).toInt ∧ (F 40).toInt ≤ (F' 40).toInt ∧ ((F' 41).toInt = 0 ∨ (F 40).toInt < (F' 40).toInt) ∧ (¬ (F' 41).toInt = 2 ∨ (65 ≤ (F' 42).toInt ∧ (F' 42).toInt ≤ 72)) ∧ (F' 43).toInt = (ztp kz xz : Int) ∧ (F' 40).toInt = (zty kz nz xz : Int) ∧ mKW kz nz xz (F' 41).toInt (F' 42).toInt)) args s 0 0 (va_A (mW h0 q cq F G) sz)) (F0 m 170 ls []) := by
    intro n_170
    induction n_170 with
    | zero => intro H locs ls Fc_170 Gc_170  f170_0 f170_1 f170_2 f170_3 f170_4 f170_5 f170_6 f170_7 f170_8 hn hM hl; exact False.elim (by have hfr_170 := hM.fr; omega)
    | succ n_170 ih_170 =>
      intro H locs ls Fc_170 Gc_170  f170_0 f170_1 f170_2 f170_3 f170_4 f170_5 f170_6 f170_7 f170_8 hn hM hl
      have hfr_170 := hM.fr
      have htc9 := mTx_fr htx hM.fr (by decide) (by decide)
      have hi99 : (Gc_170 0 (Int32.toNatClampNeg (Fc_170 40))).toInt = (Gc_170 0 ((Fc_170 40).toInt).toNat).toInt := rfl
      refine lv_aload_n hx hb dX6_take_170 rfl (lv_at hl 0 rfl) ?_
      refine lv_aload_n hx hb dX6_take_171 rfl (lv_at hl 0 rfl) ?_
      have b_1 : 0 ≤ (Fc_170 40).toInt ∧ (Fc_170 40).toInt ≤ 1000 := hM.fb 40 rfl
      refine mr_get (v := .int (Fc_170 40)) E hM 40 (by decide) (index := 138) (mm_at 1 rfl) rfl rfl dX6_take_172 ?_
      have b_3 : 0 ≤ (Fc_170 39).toInt ∧ (Fc_170 39).toInt ≤ 1000 := hM.fb 39 rfl
      have e_4 : (Fc_170 39).toInt = (F 39).toInt := (congrArg Int32.toInt (hfr_170.1 39 (by decide))).trans rfl
      refine mr_callp (av := [.int (Fc_170 40)]) (rest := []) E hA hml hM (g3_X6_isDigit l D h0 q cq Fc_170 Gc_170 _ (Fc_170 40) hM.2.2.2.1 (show 0 ≤ (Fc_170 40).toInt from by omega)) (cwV 1 hts g8_X6_take_X6_isDigit_2 rfl rfl rfl (by decide +kernel) ⟨Nat.le_of_ble_eq_true rfl, Nat.le_of_ble_eq_true rfl⟩) rfl hl.1 rfl (Nat.le_of_ble_eq_true rfl) dX6_take_175 ⟨Nat.le_of_ble_eq_true rfl, Nat.le_of_ble_eq_true rfl⟩ (fun r_5 H locs p_6 hM => ?_)
      replace p_6 : (r_5.toInt = 1 ∧ ((Fc_170 40).toInt < (Fc_170 39).toInt ∧ 48 ≤ (Gc_170 0 (Int32.toNatClampNeg (Fc_170 40))).toInt ∧ (Gc_170 0 (Int32.toNatClampNeg (Fc_170 40))).toInt ≤ 57)) ∨ (r_5.toInt = 0 ∧ ¬ ((Fc_170 40).toInt < (Fc_170 39).toInt ∧ 48 ≤ (Gc_170 0 (Int32.toNatClampNeg (Fc_170 40))).toInt ∧ (Gc_170 0 (Int32.toNatClampNeg (Fc_170 40))).toInt ≤ 57)) := p_6
      refine mm_if_eq (X := r_5.toInt) (tgt := 315) hx hb dX6_take_178 (by decide) rfl (fun c_7 => ?_) (fun c_7 => ?_)
      · have b_8 : 0 ≤ (Fc_170 43).toInt ∧ (Fc_170 43).toInt ≤ 1000 := hM.fb 43 rfl
        have b_9 : 0 ≤ (Fc_170 41).toInt ∧ (Fc_170 41).toInt ≤ 5 := hM.fb 41 rfl
        exact mr_rv E hr hlk hsz hM (show (Fc_170 40).toInt ≤ (F 39).toInt ∧ (F 40).toInt ≤ (Fc_170 40).toInt ∧ ((Fc_170 41).toInt = 0 ∨ (F 40).toInt < (Fc_170 40).toInt) ∧ (¬ (Fc_170 41).toInt = 2 ∨ (65 ≤ (Fc_170 42).toInt ∧ (Fc_170 42).toInt ≤ 72)) ∧ (Fc_170 43).toInt = (ztp kz xz : Int) ∧ (Fc_170 40).toInt = (zty kz nz xz : Int) ∧ mKW kz nz xz (Fc_170 41).toInt (Fc_170 42).toInt from by have htc := htc9; have hty : zty kz nz xz = (Fc_170 40).toInt.toNat := zty_eq (Or.inr (Or.inr (Or.inl ⟨zdg_lt hou f170_6, f170_6, f170_5.1, f170_5.2, fun b => by have h1 := (mTx_dg htc).mp b; have hi9 := hi99; omega⟩))); have hso := zso_2.mpr ⟨zdg_lt hou f170_6, f170_6⟩; have hVv : zV kz nz xz = zval kz (ztp kz xz) ((Fc_170 40).toInt.toNat - ztp kz xz) := (by unfold zV; rw [hty]); exact ⟨by omega, by omega, by omega, by omega, by omega, by omega, Or.inr (Or.inr (Or.inl ⟨by omega, hso, by rw [hVv]; omega⟩))⟩) dX6_take_315
      · refine lv_aload_n hx hb dX6_take_181 rfl (lv_at hl 0 rfl) ?_
        refine lv_aload_n hx hb dX6_take_182 rfl (lv_at hl 0 rfl) ?_
        refine mr_get (v := .int (Fc_170 42)) E hM 42 (by decide) (index := 155) (mm_at 9 rfl) rfl rfl dX6_take_183 ?_
        refine lv_ldc (v := 99999) hx hb hown (hts _ (mm_at 10 rfl)) dX6_take_186 ?_
        refine mm_icmp_le (X := (Fc_170 42).toInt) (Y := 99999) (tgt := 198) hx hb dX6_take_188 (by decide) rfl num_99999 (fun c_10 => ?_) (fun c_10 => ?_)
        · refine lv_bipush (v := 10) hx hb dX6_take_198 (by decide) ?_
          refine lv_aload_n hx hb dX6_take_200 rfl (lv_at hl 0 rfl) ?_
          refine mr_get (v := .int (Fc_170 42)) E hM 42 (by decide) (index := 155) (mm_at 9 rfl) rfl rfl dX6_take_201 ?_
          refine mm_imul (X := 10) (Y := (Fc_170 42).toInt) hx hb dX6_take_204 num_10 rfl (by omega) (fun z_11 hz_11 => ?_)
          refine lv_aload_n hx hb dX6_take_205 rfl (lv_at hl 0 rfl) ?_
          refine mr_get (v := .ref (q 0)) E hM 0 (by decide) (index := 7) (mm_at 8 rfl) rfl rfl dX6_take_206 ?_
          refine lv_aload_n hx hb dX6_take_209 rfl (lv_at hl 0 rfl) ?_
          refine mr_get (v := .int (Fc_170 40)) E hM 40 (by decide) (index := 138) (mm_at 1 rfl) rfl rfl dX6_take_210 ?_
          refine mr_ald (X := (Fc_170 40).toInt) E hM 1 0 rfl rfl rfl (by omega) dX6_take_213 ?_
          refine mm_iadd (X := z_11.toInt) (Y := (Gc_170 0 (Int32.toNatClampNeg (Fc_170 40))).toInt) hx hb dX6_take_214 rfl rfl (by omega) (fun z_12 hz_12 => ?_)
          refine lv_bipush (v := 48) hx hb dX6_take_215 (by decide) ?_
          refine mm_isub (X := z_12.toInt) (Y := 48) hx hb dX6_take_217 rfl num_48 (by omega) (fun z_13 hz_13 => ?_)
          refine mr_put (v := z_13) E hM 42 (by decide) (index := 155) (mm_at 9 rfl) rfl rfl (by decide +kernel) ms_42 (mm_nb rfl) (by decide) dX6_take_218 (fun H locs hM => ?_)
          refine lv_aload_n hx hb dX6_take_221 rfl (lv_at hl 0 rfl) ?_
          refine lv_dup hx hb dX6_take_222 rfl ?_
          refine mr_get (v := .int (Fc_170 40)) E hM 40 (by decide) (index := 138) (mm_at 1 rfl) rfl rfl dX6_take_223 ?_
          refine lv_iconst (v := 1) hx hb dX6_take_226 (by decide) ?_
          refine mm_iadd (X := (Fc_170 40).toInt) (Y := 1) hx hb dX6_take_227 rfl num_1 (by omega) (fun z_14 hz_14 => ?_)
          refine mr_put (v := z_14) E hM 40 (by decide) (index := 138) (mm_at 1 rfl) rfl rfl (by decide +kernel) ms_40 (mm_bd (X := z_14.toInt) (a := 0) (b := 1000) rfl rfl (by omega)) (by decide) dX6_take_228 (fun H locs hM => ?_)
          refine lv_goto (tgt := 170) hx hb dX6_take_231 (by decide) ?_
          have b_15 : 0 ≤ (Fc_170 41).toInt ∧ (Fc_170 41).toInt ≤ 5 := hM.fb 41 rfl
          have b_16 : 0 ≤ (Fc_170 43).toInt ∧ (Fc_170 43).toInt ≤ 1000 := hM.fb 43 rfl
          exact ih_170 _ _ _ (upd (upd Fc_170 42 z_13) 40 z_14) Gc_170  (show z_14.toInt ≤ (F 39).toInt from by omega) (show (F 40).toInt ≤ z_14.toInt from by omega) (show (Fc_170 41).toInt = 3 from by omega) (show (F 40).toInt < z_14.toInt ∨ (z_14.toInt < (F 39).toInt ∧ 48 ≤ (Gc_170 0 (Int32.toNatClampNeg z_14)).toInt ∧ (Gc_170 0 (Int32.toNatClampNeg z_14)).toInt ≤ 57) from by omega) (show (Fc_170 43).toInt = (ztp kz xz : Int) from by omega) (show zrun (zdg kz) (ztp kz xz) (z_14.toInt).toNat from by have htc := mTx_fr htx hM.fr (by decide) (by decide); have hi9 := (show (Gc_170 0 (Int32.toNatClampNeg (Fc_170 40))).toInt = (Gc_170 0 (Fc_170 40).toInt.toNat).toInt from rfl); exact ⟨by have := f170_5.1; omega, fun j h1 h2 => (Nat.lt_or_ge j (Fc_170 40).toInt.toNat).elim (fun h9 => f170_5.2 j h1 h9) (fun h9 => by rw [show j = (Fc_170 40).toInt.toNat from by omega]; exact (mTx_dg htc).mpr ⟨by omega, by omega, by omega⟩)⟩) (show zdg kz (ztp kz xz) from by exact f170_6) (show ((zval kz (ztp kz xz) ((z_14.toInt).toNat - ztp kz xz) : Int) ≤ 99999 ∧ z_13.toInt = (zval kz (ztp kz xz) ((z_14.toInt).toNat - ztp kz xz) : Int)) ∨ (99999 < (zval kz (ztp kz xz) ((z_14.toInt).toNat - ztp kz xz) : Int) ∧ 99999 < z_13.toInt) from by have htc := mTx_fr htx hM.fr (by decide) (by decide); have hr5 := f170_5.1; have hi9 := (show (Gc_170 0 (Int32.toNatClampNeg (Fc_170 40))).toInt = (Gc_170 0 (Fc_170 40).toInt.toNat).toInt from rfl); have hd := (mTx_dg htc (p := (Fc_170 40).toInt.toNat)).mpr ⟨by omega, by omega, by omega⟩; have hv := mTx_dv htc hd; have hvs : zval kz (ztp kz xz) ((Fc_170 40).toInt.toNat + 1 - ztp kz xz) = 10 * zval kz (ztp kz xz) ((Fc_170 40).toInt.toNat - ztp kz xz) + (kz (Fc_170 40).toInt.toNat - 48) := (by rw [show (Fc_170 40).toInt.toNat + 1 - ztp kz xz = ((Fc_170 40).toInt.toNat - ztp kz xz) + 1 from by omega]; show 10 * _ + (kz (ztp kz xz + ((Fc_170 40).toInt.toNat - ztp kz xz)) - 48) = _; rw [show ztp kz xz + ((Fc_170 40).toInt.toNat - ztp kz xz) = (Fc_170 40).toInt.toNat from by omega]); rw [show (z_14.toInt).toNat - ztp kz xz = (Fc_170 40).toInt.toNat + 1 - ztp kz xz from by omega]; omega) (show 0 ≤ z_13.toInt ∧ z_13.toInt ≤ 1000100 from by omega) (show ((F 39).toInt - z_14.toInt) < ((n_170 : Nat) : Int) from by omega) hM (lv_sub hl [0] rfl)
        · refine lv_aload_n hx hb dX6_take_191 rfl (lv_at hl 0 rfl) ?_
          refine mr_get (v := .int (Fc_170 42)) E hM 42 (by decide) (index := 155) (mm_at 9 rfl) rfl rfl dX6_take_192 ?_
          refine lv_goto (tgt := 218) hx hb dX6_take_195 (by decide) ?_
          refine mr_put (v := (Fc_170 42)) E hM 42 (by decide) (index := 155) (mm_at 9 rfl) rfl rfl (by decide +kernel) ms_42 (mm_nb rfl) (by decide) dX6_take_218 (fun H locs hM => ?_)
          refine lv_aload_n hx hb dX6_take_221 rfl (lv_at hl 0 rfl) ?_
          refine lv_dup hx hb dX6_take_222 rfl ?_
          refine mr_get (v := .int (Fc_170 40)) E hM 40 (by decide) (index := 138) (mm_at 1 rfl) rfl rfl dX6_take_223 ?_
          refine lv_iconst (v := 1) hx hb dX6_take_226 (by decide) ?_
          refine mm_iadd (X := (Fc_170 40).toInt) (Y := 1) hx hb dX6_take_227 rfl num_1 (by omega) (fun z_17 hz_17 => ?_)
          refine mr_put (v := z_17) E hM 40 (by decide) (index := 138) (mm_at 1 rfl) rfl rfl (by decide +kernel) ms_40 (mm_bd (X := z_17.toInt) (a := 0) (b := 1000) rfl rfl (by omega)) (by decide) dX6_take_228 (fun H locs hM => ?_)
          refine lv_goto (tgt := 170) hx hb dX6_take_231 (by decide) ?_
          have b_18 : 0 ≤ (Fc_170 41).toInt ∧ (Fc_170 41).toInt ≤ 5 := hM.fb 41 rfl
          have b_19 : 0 ≤ (Fc_170 43).toInt ∧ (Fc_170 43).toInt ≤ 1000 := hM.fb 43 rfl
          exact ih_170 _ _ _ (upd (upd Fc_170 42 (Fc_170 42)) 40 z_17) Gc_170  (show z_17.toInt ≤ (F 39).toInt from by omega) (show (F 40).toInt ≤ z_17.toInt from by omega) (show (Fc_170 41).toInt = 3 from by omega) (show (F 40).toInt < z_17.toInt ∨ (z_17.toInt < (F 39).toInt ∧ 48 ≤ (Gc_170 0 (Int32.toNatClampNeg z_17)).toInt ∧ (Gc_170 0 (Int32.toNatClampNeg z_17)).toInt ≤ 57) from by omega) (show (Fc_170 43).toInt = (ztp kz xz : Int) from by omega) (show zrun (zdg kz) (ztp kz xz) (z_17.toInt).toNat from by have htc := mTx_fr htx hM.fr (by decide) (by decide); have hi9 := (show (Gc_170 0 (Int32.toNatClampNeg (Fc_170 40))).toInt = (Gc_170 0 (Fc_170 40).toInt.toNat).toInt from rfl); exact ⟨by have := f170_5.1; omega, fun j h1 h2 => (Nat.lt_or_ge j (Fc_170 40).toInt.toNat).elim (fun h9 => f170_5.2 j h1 h9) (fun h9 => by rw [show j = (Fc_170 40).toInt.toNat from by omega]; exact (mTx_dg htc).mpr ⟨by omega, by omega, by omega⟩)⟩) (show zdg kz (ztp kz xz) from by exact f170_6) (show ((zval kz (ztp kz xz) ((z_17.toInt).toNat - ztp kz xz) : Int) ≤ 99999 ∧ (Fc_170 42).toInt = (zval kz (ztp kz xz) ((z_17.toInt).toNat - ztp kz xz) : Int)) ∨ (99999 < (zval kz (ztp kz xz) ((z_17.toInt).toNat - ztp kz xz) : Int) ∧ 99999 < (Fc_170 42).toInt) from by have htc := mTx_fr htx hM.fr (by decide) (by decide); have hr5 := f170_5.1; have hi9 := (show (Gc_170 0 (Int32.toNatClampNeg (Fc_170 40))).toInt = (Gc_170 0 (Fc_170 40).toInt.toNat).toInt from rfl); have hd := (mTx_dg htc (p := (Fc_170 40).toInt.toNat)).mpr ⟨by omega, by omega, by omega⟩; have hv := mTx_dv htc hd; have hvs : zval kz (ztp kz xz) ((Fc_170 40).toInt.toNat + 1 - ztp kz xz) = 10 * zval kz (ztp kz xz) ((Fc_170 40).toInt.toNat - ztp kz xz) + (kz (Fc_170 40).toInt.toNat - 48) := (by rw [show (Fc_170 40).toInt.toNat + 1 - ztp kz xz = ((Fc_170 40).toInt.toNat - ztp kz xz) + 1 from by omega]; show 10 * _ + (kz (ztp kz xz + ((Fc_170 40).toInt.toNat - ztp kz xz)) - 48) = _; rw [show ztp kz xz + ((Fc_170 40).toInt.toNat - ztp kz xz) = (Fc_170 40).toInt.toNat from by omega]); rw [show (z_17.toInt).toNat - ztp kz xz = (Fc_170 40).toInt.toNat + 1 - ztp kz xz from by omega]; omega) (show 0 ≤ (Fc_170 42).toInt ∧ (Fc_170 42).toInt ≤ 1000100 from by omega) (show ((F 39).toInt - z_17.toInt) < ((n_170 : Nat) : Int) from by omega) hM (lv_sub hl [0] rfl)
  have B_90 : ∀ n_90 : Nat, ∀ (H : Heap) (locs : List Loc) (ls : Array Slot) (Fc_90 : Nat → Int32) (Gc_90 : Nat → Nat → Int32), (Fc_90 40).toInt ≤ (F 39).toInt → (F 40).toInt ≤ (Fc_90 40).toInt → (Fc_90 43).toInt ≤ (Fc_90 40).toInt → (F 40).toInt < (Fc_90 40).toInt ∨ ((Fc_90 40).toInt < (F 39).toInt ∧ 97 ≤ (Gc_90 0 (Int32.toNatClampNeg (Fc_90 40))).toInt ∧ (Gc_90 0 (Int32.toNatClampNeg (Fc_90 40))).toInt ≤ 122) → (Fc_90 43).toInt = (ztp kz xz : Int) → zrun (zsm kz) (ztp kz xz) ((Fc_90 40).toInt).toNat → zsm kz (ztp kz xz) → ((F 39).toInt - (Fc_90 40).toInt) < (n_90 : Int) → mQ D h0 q cq (va_A (mW h0 q cq F G) sz) s.heap [40, 41, 42, 43] [] F G H locs Fc_90 Gc_90 → lv_has ls 1 [(0, .ref h0)] → W p l e ({ frames := 1, cells := 0, slots := 0, locals := 27 }) s m args below meth c H locs 0 0 (MQ below (mQv D h0 q cq F G sz [40, 41, 42, 43] [] (fun F' G' => (F' 40).toInt ≤ (F 39).toInt ∧ (F 40).toInt ≤ (F' 40).toInt ∧ ((F' 41).toInt = 0 ∨ (F 40).toInt < (F' 40).toInt) ∧ (¬ (F' 41).toInt = 2 ∨ (65 ≤ (F' 42).toInt ∧ (F' 42).toInt ≤ 72)) ∧ (F' 43).toInt = (ztp kz xz : Int) ∧ (F' 40).toInt = (zty kz nz xz : Int) ∧ mKW kz nz xz (F' 41).toInt (F' 42).toInt)) args s 0 0 (va_A (mW h0 q cq F G) sz)) (F0 m 90 ls []) := by
    intro n_90
    induction n_90 with
    | zero => intro H locs ls Fc_90 Gc_90  f90_0 f90_1 f90_2 f90_3 f90_4 f90_5 f90_6 hn hM hl; exact False.elim (by have hfr_90 := hM.fr; omega)
    | succ n_90 ih_90 =>
      intro H locs ls Fc_90 Gc_90  f90_0 f90_1 f90_2 f90_3 f90_4 f90_5 f90_6 hn hM hl
      have hfr_90 := hM.fr
      have htc9 := mTx_fr htx hM.fr (by decide) (by decide)
      have hi99 : (Gc_90 0 (Int32.toNatClampNeg (Fc_90 40))).toInt = (Gc_90 0 ((Fc_90 40).toInt).toNat).toInt := rfl
      refine lv_aload_n hx hb dX6_take_90 rfl (lv_at hl 0 rfl) ?_
      refine lv_aload_n hx hb dX6_take_91 rfl (lv_at hl 0 rfl) ?_
      have b_20 : 0 ≤ (Fc_90 40).toInt ∧ (Fc_90 40).toInt ≤ 1000 := hM.fb 40 rfl
      refine mr_get (v := .int (Fc_90 40)) E hM 40 (by decide) (index := 138) (mm_at 1 rfl) rfl rfl dX6_take_92 ?_
      have b_22 : 0 ≤ (Fc_90 39).toInt ∧ (Fc_90 39).toInt ≤ 1000 := hM.fb 39 rfl
      have e_23 : (Fc_90 39).toInt = (F 39).toInt := (congrArg Int32.toInt (hfr_90.1 39 (by decide))).trans rfl
      refine mr_callp (av := [.int (Fc_90 40)]) (rest := []) E hA hml hM (g3_X6_isSmall l D h0 q cq Fc_90 Gc_90 _ (Fc_90 40) hM.2.2.2.1 (show 0 ≤ (Fc_90 40).toInt from by omega)) (cwV 1 hts g8_X6_take_X6_isSmall_21 rfl rfl rfl (by decide +kernel) ⟨Nat.le_of_ble_eq_true rfl, Nat.le_of_ble_eq_true rfl⟩) rfl hl.1 rfl (Nat.le_of_ble_eq_true rfl) dX6_take_95 ⟨Nat.le_of_ble_eq_true rfl, Nat.le_of_ble_eq_true rfl⟩ (fun r_24 H locs p_25 hM => ?_)
      replace p_25 : (r_24.toInt = 1 ∧ ((Fc_90 40).toInt < (Fc_90 39).toInt ∧ 97 ≤ (Gc_90 0 (Int32.toNatClampNeg (Fc_90 40))).toInt ∧ (Gc_90 0 (Int32.toNatClampNeg (Fc_90 40))).toInt ≤ 122)) ∨ (r_24.toInt = 0 ∧ ¬ ((Fc_90 40).toInt < (Fc_90 39).toInt ∧ 97 ≤ (Gc_90 0 (Int32.toNatClampNeg (Fc_90 40))).toInt ∧ (Gc_90 0 (Int32.toNatClampNeg (Fc_90 40))).toInt ≤ 122)) := p_25
      refine mm_if_eq (X := r_24.toInt) (tgt := 114) hx hb dX6_take_98 (by decide) rfl (fun c_26 => ?_) (fun c_26 => ?_)
      · refine lv_aload_n hx hb dX6_take_114 rfl (lv_at hl 0 rfl) ?_
        refine lv_aload_n hx hb dX6_take_115 rfl (lv_at hl 0 rfl) ?_
        refine lv_aload_n hx hb dX6_take_116 rfl (lv_at hl 0 rfl) ?_
        have b_27 : 0 ≤ (Fc_90 43).toInt ∧ (Fc_90 43).toInt ≤ 1000 := hM.fb 43 rfl
        refine mr_get (v := .int (Fc_90 43)) E hM 43 (by decide) (index := 141) (mm_at 15 rfl) rfl rfl dX6_take_117 ?_
        refine lv_aload_n hx hb dX6_take_120 rfl (lv_at hl 0 rfl) ?_
        refine mr_get (v := .int (Fc_90 40)) E hM 40 (by decide) (index := 138) (mm_at 1 rfl) rfl rfl dX6_take_121 ?_
        refine mr_callp (av := [.int (Fc_90 43), .int (Fc_90 40)]) (rest := [.ref h0]) E hA hml hM (g7_X6_wordAt l D h0 q cq Fc_90 Gc_90 _ (Fc_90 43) (Fc_90 40) hM.2.2.2.1 kz nz (mTx_fr htx hM.fr (by decide) (by decide)) (show 0 ≤ (Fc_90 43).toInt ∧ (Fc_90 43).toInt ≤ 1000 from by omega) (show 0 ≤ (Fc_90 40).toInt ∧ (Fc_90 40).toInt ≤ 1000 from by omega) (show (Fc_90 43).toInt ≤ (Fc_90 40).toInt ∧ (Fc_90 40).toInt ≤ (nz : Int) from by omega)) (cwV 2 hts g8_X6_take_X6_wordAt_28 rfl rfl rfl (by decide +kernel) ⟨Nat.le_of_ble_eq_true rfl, Nat.le_of_ble_eq_true rfl⟩) rfl hl.1 rfl (Nat.le_of_ble_eq_true rfl) dX6_take_124 ⟨Nat.le_of_ble_eq_true rfl, Nat.le_of_ble_eq_true rfl⟩ (fun r_29 H locs p_30 hM => ?_)
        replace p_30 : (∃ i : Nat, i < 11 ∧ zw kz (zwl i) (Fc_90 43).toInt.toNat (Fc_90 40).toInt.toNat ∧ r_29.toInt = zid i) ∨ (r_29.toInt = -1 ∧ ∀ i : Nat, i < 11 → ¬ zw kz (zwl i) (Fc_90 43).toInt.toNat (Fc_90 40).toInt.toNat) := p_30
        rcases p_30 with ⟨i_31, hi_31, w_31, hr_31⟩ | ⟨hr_31, w_31⟩
        · have hb_31 := zid_bd i_31 hi_31
          refine mr_put (v := r_29) E hM 42 (by decide) (index := 155) (mm_at 9 rfl) rfl rfl (by decide +kernel) ms_42 (mm_nb rfl) (by decide) dX6_take_127 (fun H locs hM => ?_)
          refine lv_aload_n hx hb dX6_take_130 rfl (lv_at hl 0 rfl) ?_
          refine lv_aload_n hx hb dX6_take_131 rfl (lv_at hl 0 rfl) ?_
          refine mr_get (v := .int r_29) E hM 42 (by decide) (index := 155) (mm_at 9 rfl) rfl rfl dX6_take_132 ?_
          refine mm_if_ge (X := r_29.toInt) (tgt := 142) hx hb dX6_take_135 (by decide) rfl (fun c_32 => ?_) (fun c_32 => False.elim (by omega))
          refine lv_iconst (v := 1) hx hb dX6_take_142 (by decide) ?_
          refine mr_put (v := 1) E hM 41 (by decide) (index := 144) (mm_at 21 rfl) rfl rfl (by decide +kernel) ms_41 (mm_bd (X := 1) (a := 0) (b := 5) rfl num_1 (by omega)) (by decide) dX6_take_143 (fun H locs hM => ?_)
          refine lv_goto (tgt := 315) hx hb dX6_take_146 (by decide) ?_
          exact mr_rv E hr hlk hsz hM (show (Fc_90 40).toInt ≤ (F 39).toInt ∧ (F 40).toInt ≤ (Fc_90 40).toInt ∧ ((1 : Int32).toInt = 0 ∨ (F 40).toInt < (Fc_90 40).toInt) ∧ (¬ (1 : Int32).toInt = 2 ∨ (65 ≤ r_29.toInt ∧ r_29.toInt ≤ 72)) ∧ (Fc_90 43).toInt = (ztp kz xz : Int) ∧ (Fc_90 40).toInt = (zty kz nz xz : Int) ∧ mKW kz nz xz (1 : Int32).toInt r_29.toInt from by have n9_41 := num_1; have hsm6 := f90_6; unfold zsm at hsm6; have htc := htc9; have hty : zty kz nz xz = (Fc_90 40).toInt.toNat := zty_eq (Or.inr (Or.inl ⟨zsm_lt hou f90_6, f90_6, f90_5.1, f90_5.2, fun b => by have h1 := (mTx_sm htc).mp b; have hi9 := hi99; omega⟩)); have hso := zso_1.mpr ⟨zsm_lt hou f90_6, f90_6⟩; have hlt := zsm_lt hou f90_6; exact ⟨by omega, by omega, by omega, by omega, by omega, by omega, Or.inr (Or.inl ⟨by omega, i_31, hi_31, (by unfold zW; rw [hty, show ztp kz xz = (Fc_90 43).toInt.toNat from by omega]; exact w_31), by omega⟩)⟩) dX6_take_315
        · refine mr_put (v := r_29) E hM 42 (by decide) (index := 155) (mm_at 9 rfl) rfl rfl (by decide +kernel) ms_42 (mm_nb rfl) (by decide) dX6_take_127 (fun H locs hM => ?_)
          refine lv_aload_n hx hb dX6_take_130 rfl (lv_at hl 0 rfl) ?_
          refine lv_aload_n hx hb dX6_take_131 rfl (lv_at hl 0 rfl) ?_
          refine mr_get (v := .int r_29) E hM 42 (by decide) (index := 155) (mm_at 9 rfl) rfl rfl dX6_take_132 ?_
          refine mm_if_ge (X := r_29.toInt) (tgt := 142) hx hb dX6_take_135 (by decide) rfl (fun c_33 => False.elim (by omega)) (fun c_33 => ?_)
          refine lv_iconst (v := 5) hx hb dX6_take_138 (by decide) ?_
          refine lv_goto (tgt := 143) hx hb dX6_take_139 (by decide) ?_
          refine mr_put (v := 5) E hM 41 (by decide) (index := 144) (mm_at 21 rfl) rfl rfl (by decide +kernel) ms_41 (mm_bd (X := 5) (a := 0) (b := 5) rfl num_5 (by omega)) (by decide) dX6_take_143 (fun H locs hM => ?_)
          refine lv_goto (tgt := 315) hx hb dX6_take_146 (by decide) ?_
          exact mr_rv E hr hlk hsz hM (show (Fc_90 40).toInt ≤ (F 39).toInt ∧ (F 40).toInt ≤ (Fc_90 40).toInt ∧ ((5 : Int32).toInt = 0 ∨ (F 40).toInt < (Fc_90 40).toInt) ∧ (¬ (5 : Int32).toInt = 2 ∨ (65 ≤ r_29.toInt ∧ r_29.toInt ≤ 72)) ∧ (Fc_90 43).toInt = (ztp kz xz : Int) ∧ (Fc_90 40).toInt = (zty kz nz xz : Int) ∧ mKW kz nz xz (5 : Int32).toInt r_29.toInt from by have n9_41 := num_5; have hsm6 := f90_6; unfold zsm at hsm6; have htc := htc9; have hty : zty kz nz xz = (Fc_90 40).toInt.toNat := zty_eq (Or.inr (Or.inl ⟨zsm_lt hou f90_6, f90_6, f90_5.1, f90_5.2, fun b => by have h1 := (mTx_sm htc).mp b; have hi9 := hi99; omega⟩)); have hso := zso_1.mpr ⟨zsm_lt hou f90_6, f90_6⟩; have hlt := zsm_lt hou f90_6; exact ⟨by omega, by omega, by omega, by omega, by omega, by omega, Or.inr (Or.inr (Or.inr (Or.inr (Or.inr ⟨by omega, hlt, by omega, (fun i hi q => w_31 i hi (by unfold zW at q; rw [hty, show ztp kz xz = (Fc_90 43).toInt.toNat from by omega] at q; exact q)), by omega, by omega⟩))))⟩) dX6_take_315
      · refine lv_aload_n hx hb dX6_take_101 rfl (lv_at hl 0 rfl) ?_
        refine lv_dup hx hb dX6_take_102 rfl ?_
        refine mr_get (v := .int (Fc_90 40)) E hM 40 (by decide) (index := 138) (mm_at 1 rfl) rfl rfl dX6_take_103 ?_
        refine lv_iconst (v := 1) hx hb dX6_take_106 (by decide) ?_
        refine mm_iadd (X := (Fc_90 40).toInt) (Y := 1) hx hb dX6_take_107 rfl num_1 (by omega) (fun z_34 hz_34 => ?_)
        refine mr_put (v := z_34) E hM 40 (by decide) (index := 138) (mm_at 1 rfl) rfl rfl (by decide +kernel) ms_40 (mm_bd (X := z_34.toInt) (a := 0) (b := 1000) rfl rfl (by omega)) (by decide) dX6_take_108 (fun H locs hM => ?_)
        refine lv_goto (tgt := 90) hx hb dX6_take_111 (by decide) ?_
        have b_35 : 0 ≤ (Fc_90 43).toInt ∧ (Fc_90 43).toInt ≤ 1000 := hM.fb 43 rfl
        exact ih_90 _ _ _ (upd Fc_90 40 z_34) Gc_90  (show z_34.toInt ≤ (F 39).toInt from by omega) (show (F 40).toInt ≤ z_34.toInt from by omega) (show (Fc_90 43).toInt ≤ z_34.toInt from by omega) (show (F 40).toInt < z_34.toInt ∨ (z_34.toInt < (F 39).toInt ∧ 97 ≤ (Gc_90 0 (Int32.toNatClampNeg z_34)).toInt ∧ (Gc_90 0 (Int32.toNatClampNeg z_34)).toInt ≤ 122) from by omega) (show (Fc_90 43).toInt = (ztp kz xz : Int) from by omega) (show zrun (zsm kz) (ztp kz xz) (z_34.toInt).toNat from by have htc := mTx_fr htx hM.fr (by decide) (by decide); have hi9 := (show (Gc_90 0 (Int32.toNatClampNeg (Fc_90 40))).toInt = (Gc_90 0 (Fc_90 40).toInt.toNat).toInt from rfl); exact ⟨by have := f90_5.1; omega, fun j h1 h2 => (Nat.lt_or_ge j (Fc_90 40).toInt.toNat).elim (fun h9 => f90_5.2 j h1 h9) (fun h9 => by rw [show j = (Fc_90 40).toInt.toNat from by omega]; exact (mTx_sm htc).mpr ⟨by omega, by omega, by omega⟩)⟩) (show zsm kz (ztp kz xz) from by exact f90_6) (show ((F 39).toInt - z_34.toInt) < ((n_90 : Nat) : Int) from by omega) hM (lv_sub hl [0] rfl)
  have B_52 : ∀ (H : Heap) (locs : List Loc) (ls : Array Slot) (Fc_52 : Nat → Int32) (Gc_52 : Nat → Nat → Int32), (Fc_52 40).toInt ≤ (F 39).toInt → (F 40).toInt ≤ (Fc_52 40).toInt → zend (zbl kz) xz ((Fc_52 40).toInt).toNat → mQ D h0 q cq (va_A (mW h0 q cq F G) sz) s.heap [40, 41, 42, 43] [] F G H locs Fc_52 Gc_52 → lv_has ls 1 [(0, .ref h0)] → W p l e ({ frames := 1, cells := 0, slots := 0, locals := 27 }) s m args below meth c H locs 0 0 (MQ below (mQv D h0 q cq F G sz [40, 41, 42, 43] [] (fun F' G' => (F' 40).toInt ≤ (F 39).toInt ∧ (F 40).toInt ≤ (F' 40).toInt ∧ ((F' 41).toInt = 0 ∨ (F 40).toInt < (F' 40).toInt) ∧ (¬ (F' 41).toInt = 2 ∨ (65 ≤ (F' 42).toInt ∧ (F' 42).toInt ≤ 72)) ∧ (F' 43).toInt = (ztp kz xz : Int) ∧ (F' 40).toInt = (zty kz nz xz : Int) ∧ mKW kz nz xz (F' 41).toInt (F' 42).toInt)) args s 0 0 (va_A (mW h0 q cq F G) sz)) (F0 m 52 ls []) := by
    intro H locs ls Fc_52 Gc_52  f52_0 f52_1 f52_2 hM hl
    have hfr_52 := hM.fr
    have htp : ztp kz xz = ((Fc_52 40).toInt).toNat := ztp_eq f52_2
    have htc9 := mTx_fr htx hM.fr (by decide) (by decide)
    have hi99 : (Gc_52 0 (Int32.toNatClampNeg (Fc_52 40))).toInt = (Gc_52 0 ((Fc_52 40).toInt).toNat).toInt := rfl
    refine lv_aload_n hx hb dX6_take_52 rfl (lv_at hl 0 rfl) ?_
    refine lv_aload_n hx hb dX6_take_53 rfl (lv_at hl 0 rfl) ?_
    have b_36 : 0 ≤ (Fc_52 40).toInt ∧ (Fc_52 40).toInt ≤ 1000 := hM.fb 40 rfl
    refine mr_get (v := .int (Fc_52 40)) E hM 40 (by decide) (index := 138) (mm_at 1 rfl) rfl rfl dX6_take_54 ?_
    refine mr_put (v := (Fc_52 40)) E hM 43 (by decide) (index := 141) (mm_at 15 rfl) rfl rfl (by decide +kernel) ms_43 (mm_bd (X := (Fc_52 40).toInt) (a := 0) (b := 1000) rfl rfl (by omega)) (by decide) dX6_take_57 (fun H locs hM => ?_)
    refine lv_aload_n hx hb dX6_take_60 rfl (lv_at hl 0 rfl) ?_
    refine mr_get (v := .int (Fc_52 40)) E hM 40 (by decide) (index := 138) (mm_at 1 rfl) rfl rfl dX6_take_61 ?_
    refine lv_aload_n hx hb dX6_take_64 rfl (lv_at hl 0 rfl) ?_
    have b_37 : 0 ≤ (Fc_52 39).toInt ∧ (Fc_52 39).toInt ≤ 1000 := hM.fb 39 rfl
    have e_38 : (Fc_52 39).toInt = (F 39).toInt := (congrArg Int32.toInt (hfr_52.1 39 (by decide))).trans rfl
    refine mr_get (v := .int (Fc_52 39)) E hM 39 (by decide) (index := 135) (mm_at 7 rfl) rfl rfl dX6_take_65 ?_
    refine mm_icmp_ne (X := (Fc_52 40).toInt) (Y := (Fc_52 39).toInt) (tgt := 79) hx hb dX6_take_68 (by decide) rfl rfl (fun c_39 => ?_) (fun c_39 => ?_)
    · refine lv_aload_n hx hb dX6_take_79 rfl (lv_at hl 0 rfl) ?_
      refine lv_aload_n hx hb dX6_take_80 rfl (lv_at hl 0 rfl) ?_
      refine mr_get (v := .int (Fc_52 40)) E hM 40 (by decide) (index := 138) (mm_at 1 rfl) rfl rfl dX6_take_81 ?_
      refine mr_callp (av := [.int (Fc_52 40)]) (rest := []) E hA hml hM (g3_X6_isSmall l D h0 q cq (upd Fc_52 43 (Fc_52 40)) Gc_52 _ (Fc_52 40) hM.2.2.2.1 (show 0 ≤ (Fc_52 40).toInt from by omega)) (cwV 1 hts g8_X6_take_X6_isSmall_40 rfl rfl rfl (by decide +kernel) ⟨Nat.le_of_ble_eq_true rfl, Nat.le_of_ble_eq_true rfl⟩) rfl hl.1 rfl (Nat.le_of_ble_eq_true rfl) dX6_take_84 ⟨Nat.le_of_ble_eq_true rfl, Nat.le_of_ble_eq_true rfl⟩ (fun r_41 H locs p_42 hM => ?_)
      replace p_42 : (r_41.toInt = 1 ∧ ((Fc_52 40).toInt < (Fc_52 39).toInt ∧ 97 ≤ (Gc_52 0 (Int32.toNatClampNeg (Fc_52 40))).toInt ∧ (Gc_52 0 (Int32.toNatClampNeg (Fc_52 40))).toInt ≤ 122)) ∨ (r_41.toInt = 0 ∧ ¬ ((Fc_52 40).toInt < (Fc_52 39).toInt ∧ 97 ≤ (Gc_52 0 (Int32.toNatClampNeg (Fc_52 40))).toInt ∧ (Gc_52 0 (Int32.toNatClampNeg (Fc_52 40))).toInt ≤ 122)) := p_42
      refine mm_if_eq (X := r_41.toInt) (tgt := 149) hx hb dX6_take_87 (by decide) rfl (fun c_43 => ?_) (fun c_43 => ?_)
      · refine lv_aload_n hx hb dX6_take_149 rfl (lv_at hl 0 rfl) ?_
        refine lv_aload_n hx hb dX6_take_150 rfl (lv_at hl 0 rfl) ?_
        refine mr_get (v := .int (Fc_52 40)) E hM 40 (by decide) (index := 138) (mm_at 1 rfl) rfl rfl dX6_take_151 ?_
        refine mr_callp (av := [.int (Fc_52 40)]) (rest := []) E hA hml hM (g3_X6_isDigit l D h0 q cq (upd Fc_52 43 (Fc_52 40)) Gc_52 _ (Fc_52 40) hM.2.2.2.1 (show 0 ≤ (Fc_52 40).toInt from by omega)) (cwV 1 hts g8_X6_take_X6_isDigit_44 rfl rfl rfl (by decide +kernel) ⟨Nat.le_of_ble_eq_true rfl, Nat.le_of_ble_eq_true rfl⟩) rfl hl.1 rfl (Nat.le_of_ble_eq_true rfl) dX6_take_154 ⟨Nat.le_of_ble_eq_true rfl, Nat.le_of_ble_eq_true rfl⟩ (fun r_45 H locs p_46 hM => ?_)
        replace p_46 : (r_45.toInt = 1 ∧ ((Fc_52 40).toInt < (Fc_52 39).toInt ∧ 48 ≤ (Gc_52 0 (Int32.toNatClampNeg (Fc_52 40))).toInt ∧ (Gc_52 0 (Int32.toNatClampNeg (Fc_52 40))).toInt ≤ 57)) ∨ (r_45.toInt = 0 ∧ ¬ ((Fc_52 40).toInt < (Fc_52 39).toInt ∧ 48 ≤ (Gc_52 0 (Int32.toNatClampNeg (Fc_52 40))).toInt ∧ (Gc_52 0 (Int32.toNatClampNeg (Fc_52 40))).toInt ≤ 57)) := p_46
        refine mm_if_eq (X := r_45.toInt) (tgt := 234) hx hb dX6_take_157 (by decide) rfl (fun c_47 => ?_) (fun c_47 => ?_)
        · refine lv_aload_n hx hb dX6_take_234 rfl (lv_at hl 0 rfl) ?_
          refine lv_aload_n hx hb dX6_take_235 rfl (lv_at hl 0 rfl) ?_
          refine mr_get (v := .ref (q 0)) E hM 0 (by decide) (index := 7) (mm_at 8 rfl) rfl rfl dX6_take_236 ?_
          refine lv_aload_n hx hb dX6_take_239 rfl (lv_at hl 0 rfl) ?_
          refine mr_get (v := .int (Fc_52 40)) E hM 40 (by decide) (index := 138) (mm_at 1 rfl) rfl rfl dX6_take_240 ?_
          refine mr_ald (X := (Fc_52 40).toInt) E hM 1 0 rfl rfl rfl (by omega) dX6_take_243 ?_
          refine mr_put (v := (Gc_52 0 (Int32.toNatClampNeg (Fc_52 40)))) E hM 42 (by decide) (index := 155) (mm_at 9 rfl) rfl rfl (by decide +kernel) ms_42 (mm_nb rfl) (by decide) dX6_take_244 (fun H locs hM => ?_)
          refine lv_aload_n hx hb dX6_take_247 rfl (lv_at hl 0 rfl) ?_
          refine lv_dup hx hb dX6_take_248 rfl ?_
          refine mr_get (v := .int (Fc_52 40)) E hM 40 (by decide) (index := 138) (mm_at 1 rfl) rfl rfl dX6_take_249 ?_
          refine lv_iconst (v := 1) hx hb dX6_take_252 (by decide) ?_
          refine mm_iadd (X := (Fc_52 40).toInt) (Y := 1) hx hb dX6_take_253 rfl num_1 (by omega) (fun z_48 hz_48 => ?_)
          refine mr_put (v := z_48) E hM 40 (by decide) (index := 138) (mm_at 1 rfl) rfl rfl (by decide +kernel) ms_40 (mm_bd (X := z_48.toInt) (a := 0) (b := 1000) rfl rfl (by omega)) (by decide) dX6_take_254 (fun H locs hM => ?_)
          refine lv_aload_n hx hb dX6_take_257 rfl (lv_at hl 0 rfl) ?_
          refine lv_aload_n hx hb dX6_take_258 rfl (lv_at hl 0 rfl) ?_
          refine mr_get (v := .int (Gc_52 0 (Int32.toNatClampNeg (Fc_52 40)))) E hM 42 (by decide) (index := 155) (mm_at 9 rfl) rfl rfl dX6_take_259 ?_
          refine lv_bipush (v := 65) hx hb dX6_take_262 (by decide) ?_
          refine mm_icmp_lt (X := (Gc_52 0 (Int32.toNatClampNeg (Fc_52 40))).toInt) (Y := 65) (tgt := 280) hx hb dX6_take_264 (by decide) rfl num_65 (fun c_49 => ?_) (fun c_49 => ?_)
          · refine lv_aload_n hx hb dX6_take_280 rfl (lv_at hl 0 rfl) ?_
            refine mr_get (v := .int (Gc_52 0 (Int32.toNatClampNeg (Fc_52 40)))) E hM 42 (by decide) (index := 155) (mm_at 9 rfl) rfl rfl dX6_take_281 ?_
            refine lv_bipush (v := 123) hx hb dX6_take_284 (by decide) ?_
            refine mm_icmp_eq (X := (Gc_52 0 (Int32.toNatClampNeg (Fc_52 40))).toInt) (Y := 123) (tgt := 307) hx hb dX6_take_286 (by decide) rfl num_123 (fun c_50 => False.elim (by omega)) (fun c_50 => ?_)
            refine lv_aload_n hx hb dX6_take_289 rfl (lv_at hl 0 rfl) ?_
            refine mr_get (v := .int (Gc_52 0 (Int32.toNatClampNeg (Fc_52 40)))) E hM 42 (by decide) (index := 155) (mm_at 9 rfl) rfl rfl dX6_take_290 ?_
            refine lv_bipush (v := 125) hx hb dX6_take_293 (by decide) ?_
            refine mm_icmp_eq (X := (Gc_52 0 (Int32.toNatClampNeg (Fc_52 40))).toInt) (Y := 125) (tgt := 307) hx hb dX6_take_295 (by decide) rfl num_125 (fun c_51 => False.elim (by omega)) (fun c_51 => ?_)
            refine lv_aload_n hx hb dX6_take_298 rfl (lv_at hl 0 rfl) ?_
            refine mr_get (v := .int (Gc_52 0 (Int32.toNatClampNeg (Fc_52 40)))) E hM 42 (by decide) (index := 155) (mm_at 9 rfl) rfl rfl dX6_take_299 ?_
            refine lv_bipush (v := 59) hx hb dX6_take_302 (by decide) ?_
            refine mm_icmp_ne (X := (Gc_52 0 (Int32.toNatClampNeg (Fc_52 40))).toInt) (Y := 59) (tgt := 311) hx hb dX6_take_304 (by decide) rfl num_59 (fun c_52 => ?_) (fun c_52 => ?_)
            · refine lv_iconst (v := 5) hx hb dX6_take_311 (by decide) ?_
              refine mr_put (v := 5) E hM 41 (by decide) (index := 144) (mm_at 21 rfl) rfl rfl (by decide +kernel) ms_41 (mm_bd (X := 5) (a := 0) (b := 5) rfl num_5 (by omega)) (by decide) dX6_take_312 (fun H locs hM => ?_)
              exact mr_rv E hr hlk hsz hM (show z_48.toInt ≤ (F 39).toInt ∧ (F 40).toInt ≤ z_48.toInt ∧ ((5 : Int32).toInt = 0 ∨ (F 40).toInt < z_48.toInt) ∧ (¬ (5 : Int32).toInt = 2 ∨ (65 ≤ (Gc_52 0 (Int32.toNatClampNeg (Fc_52 40))).toInt ∧ (Gc_52 0 (Int32.toNatClampNeg (Fc_52 40))).toInt ≤ 72)) ∧ (Fc_52 40).toInt = (ztp kz xz : Int) ∧ z_48.toInt = (zty kz nz xz : Int) ∧ mKW kz nz xz (5 : Int32).toInt (Gc_52 0 (Int32.toNatClampNeg (Fc_52 40))).toInt from by have n9_41 := num_5; have htc := htc9; have hi9 := hi99; have n1 : ¬ zso kz nz (ztp kz xz) = 1 := (fun q => by have h1 := (mTx_sm htc).mp (zso_1.mp q).2; rw [htp] at h1; omega); have n2 : ¬ zso kz nz (ztp kz xz) = 2 := (fun q => by have h1 := (mTx_dg htc).mp (zso_2.mp q).2; rw [htp] at h1; omega); have hty := zty_s (k := kz) (n := nz) (x := xz) rfl (b := ztp kz xz + 1) (Or.inr ⟨by omega, n1, n2, rfl⟩); exact ⟨by omega, by omega, by omega, by omega, by omega, by omega, Or.inr (Or.inr (Or.inr (Or.inr (Or.inr ⟨by omega, by omega, n2, (fun i hi q => n1 (zw_sort hou hi q)), (fun q => by have h1 := (mTx_at htc (p := ztp kz xz) (c := kz (ztp kz xz)) (by omega)).mp rfl; have hg : (Gc_52 0 (ztp kz xz)).toInt = (Gc_52 0 (Fc_52 40).toInt.toNat).toInt := (by rw [htp]); omega), (fun q => by have h1 := (mTx_at htc (p := ztp kz xz) (c := kz (ztp kz xz)) (by omega)).mp rfl; have hg : (Gc_52 0 (ztp kz xz)).toInt = (Gc_52 0 (Fc_52 40).toInt.toNat).toInt := (by rw [htp]); omega)⟩))))⟩) dX6_take_315
            · refine lv_iconst (v := 4) hx hb dX6_take_307 (by decide) ?_
              refine lv_goto (tgt := 312) hx hb dX6_take_308 (by decide) ?_
              refine mr_put (v := 4) E hM 41 (by decide) (index := 144) (mm_at 21 rfl) rfl rfl (by decide +kernel) ms_41 (mm_bd (X := 4) (a := 0) (b := 5) rfl num_4 (by omega)) (by decide) dX6_take_312 (fun H locs hM => ?_)
              exact mr_rv E hr hlk hsz hM (show z_48.toInt ≤ (F 39).toInt ∧ (F 40).toInt ≤ z_48.toInt ∧ ((4 : Int32).toInt = 0 ∨ (F 40).toInt < z_48.toInt) ∧ (¬ (4 : Int32).toInt = 2 ∨ (65 ≤ (Gc_52 0 (Int32.toNatClampNeg (Fc_52 40))).toInt ∧ (Gc_52 0 (Int32.toNatClampNeg (Fc_52 40))).toInt ≤ 72)) ∧ (Fc_52 40).toInt = (ztp kz xz : Int) ∧ z_48.toInt = (zty kz nz xz : Int) ∧ mKW kz nz xz (4 : Int32).toInt (Gc_52 0 (Int32.toNatClampNeg (Fc_52 40))).toInt from by have n9_41 := num_4; have htc := htc9; have hi9 := hi99; have n1 : ¬ zso kz nz (ztp kz xz) = 1 := (fun q => by have h1 := (mTx_sm htc).mp (zso_1.mp q).2; rw [htp] at h1; omega); have n2 : ¬ zso kz nz (ztp kz xz) = 2 := (fun q => by have h1 := (mTx_dg htc).mp (zso_2.mp q).2; rw [htp] at h1; omega); have hty := zty_s (k := kz) (n := nz) (x := xz) rfl (b := ztp kz xz + 1) (Or.inr ⟨by omega, n1, n2, rfl⟩); have hk := (mTx_at htc (p := ztp kz xz) (c := (Gc_52 0 (Int32.toNatClampNeg (Fc_52 40))).toInt.toNat) (by omega)).mpr ⟨by omega, by rw [htp]; omega⟩; exact ⟨by omega, by omega, by omega, by omega, by omega, by omega, Or.inr (Or.inr (Or.inr (Or.inr (Or.inl ⟨by omega, by omega, by omega, by omega⟩))))⟩) dX6_take_315
          · refine lv_aload_n hx hb dX6_take_267 rfl (lv_at hl 0 rfl) ?_
            refine mr_get (v := .int (Gc_52 0 (Int32.toNatClampNeg (Fc_52 40)))) E hM 42 (by decide) (index := 155) (mm_at 9 rfl) rfl rfl dX6_take_268 ?_
            refine lv_bipush (v := 72) hx hb dX6_take_271 (by decide) ?_
            refine mm_icmp_gt (X := (Gc_52 0 (Int32.toNatClampNeg (Fc_52 40))).toInt) (Y := 72) (tgt := 280) hx hb dX6_take_273 (by decide) rfl num_72 (fun c_53 => ?_) (fun c_53 => ?_)
            · refine lv_aload_n hx hb dX6_take_280 rfl (lv_at hl 0 rfl) ?_
              refine mr_get (v := .int (Gc_52 0 (Int32.toNatClampNeg (Fc_52 40)))) E hM 42 (by decide) (index := 155) (mm_at 9 rfl) rfl rfl dX6_take_281 ?_
              refine lv_bipush (v := 123) hx hb dX6_take_284 (by decide) ?_
              refine mm_icmp_eq (X := (Gc_52 0 (Int32.toNatClampNeg (Fc_52 40))).toInt) (Y := 123) (tgt := 307) hx hb dX6_take_286 (by decide) rfl num_123 (fun c_54 => ?_) (fun c_54 => ?_)
              · refine lv_iconst (v := 4) hx hb dX6_take_307 (by decide) ?_
                refine lv_goto (tgt := 312) hx hb dX6_take_308 (by decide) ?_
                refine mr_put (v := 4) E hM 41 (by decide) (index := 144) (mm_at 21 rfl) rfl rfl (by decide +kernel) ms_41 (mm_bd (X := 4) (a := 0) (b := 5) rfl num_4 (by omega)) (by decide) dX6_take_312 (fun H locs hM => ?_)
                exact mr_rv E hr hlk hsz hM (show z_48.toInt ≤ (F 39).toInt ∧ (F 40).toInt ≤ z_48.toInt ∧ ((4 : Int32).toInt = 0 ∨ (F 40).toInt < z_48.toInt) ∧ (¬ (4 : Int32).toInt = 2 ∨ (65 ≤ (Gc_52 0 (Int32.toNatClampNeg (Fc_52 40))).toInt ∧ (Gc_52 0 (Int32.toNatClampNeg (Fc_52 40))).toInt ≤ 72)) ∧ (Fc_52 40).toInt = (ztp kz xz : Int) ∧ z_48.toInt = (zty kz nz xz : Int) ∧ mKW kz nz xz (4 : Int32).toInt (Gc_52 0 (Int32.toNatClampNeg (Fc_52 40))).toInt from by have n9_41 := num_4; have htc := htc9; have hi9 := hi99; have n1 : ¬ zso kz nz (ztp kz xz) = 1 := (fun q => by have h1 := (mTx_sm htc).mp (zso_1.mp q).2; rw [htp] at h1; omega); have n2 : ¬ zso kz nz (ztp kz xz) = 2 := (fun q => by have h1 := (mTx_dg htc).mp (zso_2.mp q).2; rw [htp] at h1; omega); have hty := zty_s (k := kz) (n := nz) (x := xz) rfl (b := ztp kz xz + 1) (Or.inr ⟨by omega, n1, n2, rfl⟩); have hk := (mTx_at htc (p := ztp kz xz) (c := (Gc_52 0 (Int32.toNatClampNeg (Fc_52 40))).toInt.toNat) (by omega)).mpr ⟨by omega, by rw [htp]; omega⟩; exact ⟨by omega, by omega, by omega, by omega, by omega, by omega, Or.inr (Or.inr (Or.inr (Or.inr (Or.inl ⟨by omega, by omega, by omega, by omega⟩))))⟩) dX6_take_315
              · refine lv_aload_n hx hb dX6_take_289 rfl (lv_at hl 0 rfl) ?_
                refine mr_get (v := .int (Gc_52 0 (Int32.toNatClampNeg (Fc_52 40)))) E hM 42 (by decide) (index := 155) (mm_at 9 rfl) rfl rfl dX6_take_290 ?_
                refine lv_bipush (v := 125) hx hb dX6_take_293 (by decide) ?_
                refine mm_icmp_eq (X := (Gc_52 0 (Int32.toNatClampNeg (Fc_52 40))).toInt) (Y := 125) (tgt := 307) hx hb dX6_take_295 (by decide) rfl num_125 (fun c_55 => ?_) (fun c_55 => ?_)
                · refine lv_iconst (v := 4) hx hb dX6_take_307 (by decide) ?_
                  refine lv_goto (tgt := 312) hx hb dX6_take_308 (by decide) ?_
                  refine mr_put (v := 4) E hM 41 (by decide) (index := 144) (mm_at 21 rfl) rfl rfl (by decide +kernel) ms_41 (mm_bd (X := 4) (a := 0) (b := 5) rfl num_4 (by omega)) (by decide) dX6_take_312 (fun H locs hM => ?_)
                  exact mr_rv E hr hlk hsz hM (show z_48.toInt ≤ (F 39).toInt ∧ (F 40).toInt ≤ z_48.toInt ∧ ((4 : Int32).toInt = 0 ∨ (F 40).toInt < z_48.toInt) ∧ (¬ (4 : Int32).toInt = 2 ∨ (65 ≤ (Gc_52 0 (Int32.toNatClampNeg (Fc_52 40))).toInt ∧ (Gc_52 0 (Int32.toNatClampNeg (Fc_52 40))).toInt ≤ 72)) ∧ (Fc_52 40).toInt = (ztp kz xz : Int) ∧ z_48.toInt = (zty kz nz xz : Int) ∧ mKW kz nz xz (4 : Int32).toInt (Gc_52 0 (Int32.toNatClampNeg (Fc_52 40))).toInt from by have n9_41 := num_4; have htc := htc9; have hi9 := hi99; have n1 : ¬ zso kz nz (ztp kz xz) = 1 := (fun q => by have h1 := (mTx_sm htc).mp (zso_1.mp q).2; rw [htp] at h1; omega); have n2 : ¬ zso kz nz (ztp kz xz) = 2 := (fun q => by have h1 := (mTx_dg htc).mp (zso_2.mp q).2; rw [htp] at h1; omega); have hty := zty_s (k := kz) (n := nz) (x := xz) rfl (b := ztp kz xz + 1) (Or.inr ⟨by omega, n1, n2, rfl⟩); have hk := (mTx_at htc (p := ztp kz xz) (c := (Gc_52 0 (Int32.toNatClampNeg (Fc_52 40))).toInt.toNat) (by omega)).mpr ⟨by omega, by rw [htp]; omega⟩; exact ⟨by omega, by omega, by omega, by omega, by omega, by omega, Or.inr (Or.inr (Or.inr (Or.inr (Or.inl ⟨by omega, by omega, by omega, by omega⟩))))⟩) dX6_take_315
                · refine lv_aload_n hx hb dX6_take_298 rfl (lv_at hl 0 rfl) ?_
                  refine mr_get (v := .int (Gc_52 0 (Int32.toNatClampNeg (Fc_52 40)))) E hM 42 (by decide) (index := 155) (mm_at 9 rfl) rfl rfl dX6_take_299 ?_
                  refine lv_bipush (v := 59) hx hb dX6_take_302 (by decide) ?_
                  refine mm_icmp_ne (X := (Gc_52 0 (Int32.toNatClampNeg (Fc_52 40))).toInt) (Y := 59) (tgt := 311) hx hb dX6_take_304 (by decide) rfl num_59 (fun c_56 => ?_) (fun c_56 => False.elim (by omega))
                  refine lv_iconst (v := 5) hx hb dX6_take_311 (by decide) ?_
                  refine mr_put (v := 5) E hM 41 (by decide) (index := 144) (mm_at 21 rfl) rfl rfl (by decide +kernel) ms_41 (mm_bd (X := 5) (a := 0) (b := 5) rfl num_5 (by omega)) (by decide) dX6_take_312 (fun H locs hM => ?_)
                  exact mr_rv E hr hlk hsz hM (show z_48.toInt ≤ (F 39).toInt ∧ (F 40).toInt ≤ z_48.toInt ∧ ((5 : Int32).toInt = 0 ∨ (F 40).toInt < z_48.toInt) ∧ (¬ (5 : Int32).toInt = 2 ∨ (65 ≤ (Gc_52 0 (Int32.toNatClampNeg (Fc_52 40))).toInt ∧ (Gc_52 0 (Int32.toNatClampNeg (Fc_52 40))).toInt ≤ 72)) ∧ (Fc_52 40).toInt = (ztp kz xz : Int) ∧ z_48.toInt = (zty kz nz xz : Int) ∧ mKW kz nz xz (5 : Int32).toInt (Gc_52 0 (Int32.toNatClampNeg (Fc_52 40))).toInt from by have n9_41 := num_5; have htc := htc9; have hi9 := hi99; have n1 : ¬ zso kz nz (ztp kz xz) = 1 := (fun q => by have h1 := (mTx_sm htc).mp (zso_1.mp q).2; rw [htp] at h1; omega); have n2 : ¬ zso kz nz (ztp kz xz) = 2 := (fun q => by have h1 := (mTx_dg htc).mp (zso_2.mp q).2; rw [htp] at h1; omega); have hty := zty_s (k := kz) (n := nz) (x := xz) rfl (b := ztp kz xz + 1) (Or.inr ⟨by omega, n1, n2, rfl⟩); exact ⟨by omega, by omega, by omega, by omega, by omega, by omega, Or.inr (Or.inr (Or.inr (Or.inr (Or.inr ⟨by omega, by omega, n2, (fun i hi q => n1 (zw_sort hou hi q)), (fun q => by have h1 := (mTx_at htc (p := ztp kz xz) (c := kz (ztp kz xz)) (by omega)).mp rfl; have hg : (Gc_52 0 (ztp kz xz)).toInt = (Gc_52 0 (Fc_52 40).toInt.toNat).toInt := (by rw [htp]); omega), (fun q => by have h1 := (mTx_at htc (p := ztp kz xz) (c := kz (ztp kz xz)) (by omega)).mp rfl; have hg : (Gc_52 0 (ztp kz xz)).toInt = (Gc_52 0 (Fc_52 40).toInt.toNat).toInt := (by rw [htp]); omega)⟩))))⟩) dX6_take_315
            · refine lv_iconst (v := 2) hx hb dX6_take_276 (by decide) ?_
              refine lv_goto (tgt := 312) hx hb dX6_take_277 (by decide) ?_
              refine mr_put (v := 2) E hM 41 (by decide) (index := 144) (mm_at 21 rfl) rfl rfl (by decide +kernel) ms_41 (mm_bd (X := 2) (a := 0) (b := 5) rfl num_2 (by omega)) (by decide) dX6_take_312 (fun H locs hM => ?_)
              exact mr_rv E hr hlk hsz hM (show z_48.toInt ≤ (F 39).toInt ∧ (F 40).toInt ≤ z_48.toInt ∧ ((2 : Int32).toInt = 0 ∨ (F 40).toInt < z_48.toInt) ∧ (¬ (2 : Int32).toInt = 2 ∨ (65 ≤ (Gc_52 0 (Int32.toNatClampNeg (Fc_52 40))).toInt ∧ (Gc_52 0 (Int32.toNatClampNeg (Fc_52 40))).toInt ≤ 72)) ∧ (Fc_52 40).toInt = (ztp kz xz : Int) ∧ z_48.toInt = (zty kz nz xz : Int) ∧ mKW kz nz xz (2 : Int32).toInt (Gc_52 0 (Int32.toNatClampNeg (Fc_52 40))).toInt from by have n9_41 := num_2; have htc := htc9; have hi9 := hi99; have n1 : ¬ zso kz nz (ztp kz xz) = 1 := (fun q => by have h1 := (mTx_sm htc).mp (zso_1.mp q).2; rw [htp] at h1; omega); have n2 : ¬ zso kz nz (ztp kz xz) = 2 := (fun q => by have h1 := (mTx_dg htc).mp (zso_2.mp q).2; rw [htp] at h1; omega); have hty := zty_s (k := kz) (n := nz) (x := xz) rfl (b := ztp kz xz + 1) (Or.inr ⟨by omega, n1, n2, rfl⟩); have hk := (mTx_at htc (p := ztp kz xz) (c := (Gc_52 0 (Int32.toNatClampNeg (Fc_52 40))).toInt.toNat) (by omega)).mpr ⟨by omega, by rw [htp]; omega⟩; exact ⟨by omega, by omega, by omega, by omega, by omega, by omega, Or.inr (Or.inr (Or.inr (Or.inl ⟨by omega, by omega, by omega, by omega, by omega⟩)))⟩) dX6_take_315
        · refine lv_aload_n hx hb dX6_take_160 rfl (lv_at hl 0 rfl) ?_
          refine lv_iconst (v := 3) hx hb dX6_take_161 (by decide) ?_
          refine mr_put (v := 3) E hM 41 (by decide) (index := 144) (mm_at 21 rfl) rfl rfl (by decide +kernel) ms_41 (mm_bd (X := 3) (a := 0) (b := 5) rfl num_3 (by omega)) (by decide) dX6_take_162 (fun H locs hM => ?_)
          refine lv_aload_n hx hb dX6_take_165 rfl (lv_at hl 0 rfl) ?_
          refine lv_iconst (v := 0) hx hb dX6_take_166 (by decide) ?_
          refine mr_put (v := 0) E hM 42 (by decide) (index := 155) (mm_at 9 rfl) rfl rfl (by decide +kernel) ms_42 (mm_nb rfl) (by decide) dX6_take_167 (fun H locs hM => ?_)
          exact B_170 4294967296 _ _ _ (upd (upd (upd Fc_52 43 (Fc_52 40)) 41 3) 42 0) Gc_52  (show (Fc_52 40).toInt ≤ (F 39).toInt from by have n9_41 := num_3; have n9_42 := num_0; omega) (show (F 40).toInt ≤ (Fc_52 40).toInt from by have n9_41 := num_3; have n9_42 := num_0; omega) (show (3 : Int32).toInt = 3 from by have n9_41 := num_3; have n9_42 := num_0; omega) (show (F 40).toInt < (Fc_52 40).toInt ∨ ((Fc_52 40).toInt < (F 39).toInt ∧ 48 ≤ (Gc_52 0 (Int32.toNatClampNeg (Fc_52 40))).toInt ∧ (Gc_52 0 (Int32.toNatClampNeg (Fc_52 40))).toInt ≤ 57) from by have n9_41 := num_3; have n9_42 := num_0; omega) (show (Fc_52 40).toInt = (ztp kz xz : Int) from by have n9_41 := num_3; have n9_42 := num_0; omega) (show zrun (zdg kz) (ztp kz xz) ((Fc_52 40).toInt).toNat from by have n9_41 := num_3; have n9_42 := num_0; exact ⟨by omega, fun j h1 h2 => absurd h1 (by omega)⟩) (show zdg kz (ztp kz xz) from by have n9_41 := num_3; have n9_42 := num_0; have htc := mTx_fr htx hM.fr (by decide) (by decide); have hi9 := (show (Gc_52 0 (Int32.toNatClampNeg (Fc_52 40))).toInt = (Gc_52 0 (Fc_52 40).toInt.toNat).toInt from rfl); rw [htp]; exact (mTx_dg htc).mpr ⟨by omega, by omega, by omega⟩) (show ((zval kz (ztp kz xz) (((Fc_52 40).toInt).toNat - ztp kz xz) : Int) ≤ 99999 ∧ (0 : Int32).toInt = (zval kz (ztp kz xz) (((Fc_52 40).toInt).toNat - ztp kz xz) : Int)) ∨ (99999 < (zval kz (ztp kz xz) (((Fc_52 40).toInt).toNat - ztp kz xz) : Int) ∧ 99999 < (0 : Int32).toInt) from by have n9_41 := num_3; have n9_42 := num_0; have e0 : zval kz (ztp kz xz) (((Fc_52 40).toInt).toNat - ztp kz xz) = 0 := (by rw [show ((Fc_52 40).toInt).toNat - ztp kz xz = 0 from by omega]; rfl); rw [e0]; omega) (show 0 ≤ (0 : Int32).toInt ∧ (0 : Int32).toInt ≤ 1000100 from by have n9_41 := num_3; have n9_42 := num_0; omega) (show ((F 39).toInt - (Fc_52 40).toInt) < ((4294967296 : Nat) : Int) from by have n9_41 := num_3; have n9_42 := num_0; omega) hM (lv_sub hl [0] rfl)
      · exact B_90 4294967296 _ _ _ (upd Fc_52 43 (Fc_52 40)) Gc_52  (show (Fc_52 40).toInt ≤ (F 39).toInt from by omega) (show (F 40).toInt ≤ (Fc_52 40).toInt from by omega) (show (Fc_52 40).toInt ≤ (Fc_52 40).toInt from by omega) (show (F 40).toInt < (Fc_52 40).toInt ∨ ((Fc_52 40).toInt < (F 39).toInt ∧ 97 ≤ (Gc_52 0 (Int32.toNatClampNeg (Fc_52 40))).toInt ∧ (Gc_52 0 (Int32.toNatClampNeg (Fc_52 40))).toInt ≤ 122) from by omega) (show (Fc_52 40).toInt = (ztp kz xz : Int) from by omega) (show zrun (zsm kz) (ztp kz xz) ((Fc_52 40).toInt).toNat from by exact ⟨by omega, fun j h1 h2 => absurd h1 (by omega)⟩) (show zsm kz (ztp kz xz) from by have htc := mTx_fr htx hM.fr (by decide) (by decide); have hi9 := (show (Gc_52 0 (Int32.toNatClampNeg (Fc_52 40))).toInt = (Gc_52 0 (Fc_52 40).toInt.toNat).toInt from rfl); rw [htp]; exact (mTx_sm htc).mpr ⟨by omega, by omega, by omega⟩) (show ((F 39).toInt - (Fc_52 40).toInt) < ((4294967296 : Nat) : Int) from by omega) hM (lv_sub hl [0] rfl)
    · refine lv_aload_n hx hb dX6_take_71 rfl (lv_at hl 0 rfl) ?_
      refine lv_iconst (v := 0) hx hb dX6_take_72 (by decide) ?_
      refine mr_put (v := 0) E hM 41 (by decide) (index := 144) (mm_at 21 rfl) rfl rfl (by decide +kernel) ms_41 (mm_bd (X := 0) (a := 0) (b := 5) rfl num_0 (by omega)) (by decide) dX6_take_73 (fun H locs hM => ?_)
      refine lv_goto (tgt := 315) hx hb dX6_take_76 (by decide) ?_
      exact mr_rv E hr hlk hsz hM (show (Fc_52 40).toInt ≤ (F 39).toInt ∧ (F 40).toInt ≤ (Fc_52 40).toInt ∧ ((0 : Int32).toInt = 0 ∨ (F 40).toInt < (Fc_52 40).toInt) ∧ (¬ (0 : Int32).toInt = 2 ∨ (65 ≤ (Fc_52 42).toInt ∧ (Fc_52 42).toInt ≤ 72)) ∧ (Fc_52 40).toInt = (ztp kz xz : Int) ∧ (Fc_52 40).toInt = (zty kz nz xz : Int) ∧ mKW kz nz xz (0 : Int32).toInt (Fc_52 42).toInt from by have n9_41 := num_0; have hty := zty_s (k := kz) (n := nz) htp (b := nz) (Or.inl ⟨by omega, rfl⟩); exact ⟨by omega, by omega, by omega, by omega, by omega, by omega, Or.inl ⟨by omega, by omega⟩⟩) dX6_take_315
  have B_0 : ∀ n_0 : Nat, ∀ (H : Heap) (locs : List Loc) (ls : Array Slot) (Fc_0 : Nat → Int32) (Gc_0 : Nat → Nat → Int32), (Fc_0 40).toInt ≤ (F 39).toInt → (F 40).toInt ≤ (Fc_0 40).toInt → zrun (zbl kz) xz ((Fc_0 40).toInt).toNat → ((F 39).toInt - (Fc_0 40).toInt) < (n_0 : Int) → mQ D h0 q cq (va_A (mW h0 q cq F G) sz) s.heap [40, 41, 42, 43] [] F G H locs Fc_0 Gc_0 → lv_has ls 1 [(0, .ref h0)] → W p l e ({ frames := 1, cells := 0, slots := 0, locals := 27 }) s m args below meth c H locs 0 0 (MQ below (mQv D h0 q cq F G sz [40, 41, 42, 43] [] (fun F' G' => (F' 40).toInt ≤ (F 39).toInt ∧ (F 40).toInt ≤ (F' 40).toInt ∧ ((F' 41).toInt = 0 ∨ (F 40).toInt < (F' 40).toInt) ∧ (¬ (F' 41).toInt = 2 ∨ (65 ≤ (F' 42).toInt ∧ (F' 42).toInt ≤ 72)) ∧ (F' 43).toInt = (ztp kz xz : Int) ∧ (F' 40).toInt = (zty kz nz xz : Int) ∧ mKW kz nz xz (F' 41).toInt (F' 42).toInt)) args s 0 0 (va_A (mW h0 q cq F G) sz)) (F0 m 0 ls []) := by
    intro n_0
    induction n_0 with
    | zero => intro H locs ls Fc_0 Gc_0  f0_0 f0_1 f0_2 hn hM hl; exact False.elim (by have hfr_0 := hM.fr; omega)
    | succ n_0 ih_0 =>
      intro H locs ls Fc_0 Gc_0  f0_0 f0_1 f0_2 hn hM hl
      have hfr_0 := hM.fr
      refine lv_aload_n hx hb dX6_take_0 rfl (lv_at hl 0 rfl) ?_
      have b_57 : 0 ≤ (Fc_0 40).toInt ∧ (Fc_0 40).toInt ≤ 1000 := hM.fb 40 rfl
      refine mr_get (v := .int (Fc_0 40)) E hM 40 (by decide) (index := 138) (mm_at 1 rfl) rfl rfl dX6_take_1 ?_
      refine lv_aload_n hx hb dX6_take_4 rfl (lv_at hl 0 rfl) ?_
      have b_58 : 0 ≤ (Fc_0 39).toInt ∧ (Fc_0 39).toInt ≤ 1000 := hM.fb 39 rfl
      have e_59 : (Fc_0 39).toInt = (F 39).toInt := (congrArg Int32.toInt (hfr_0.1 39 (by decide))).trans rfl
      refine mr_get (v := .int (Fc_0 39)) E hM 39 (by decide) (index := 135) (mm_at 7 rfl) rfl rfl dX6_take_5 ?_
      refine mm_icmp_ge (X := (Fc_0 40).toInt) (Y := (Fc_0 39).toInt) (tgt := 52) hx hb dX6_take_8 (by decide) rfl rfl (fun c_60 => ?_) (fun c_60 => ?_)
      · exact B_52 _ _ _ Fc_0 Gc_0  (show (Fc_0 40).toInt ≤ (F 39).toInt from by omega) (show (F 40).toInt ≤ (Fc_0 40).toInt from by omega) (show zend (zbl kz) xz ((Fc_0 40).toInt).toNat from by have htc := mTx_fr htx hM.fr (by decide) (by decide); have hi9 := (show (Gc_0 0 (Int32.toNatClampNeg (Fc_0 40))).toInt = (Gc_0 0 (Fc_0 40).toInt.toNat).toInt from rfl); exact ⟨f0_2.1, f0_2.2, fun b => by have h1 := (mTx_bl htc).mp b; omega⟩) hM (lv_sub hl [0] rfl)
      · refine lv_aload_n hx hb dX6_take_11 rfl (lv_at hl 0 rfl) ?_
        refine mr_get (v := .ref (q 0)) E hM 0 (by decide) (index := 7) (mm_at 8 rfl) rfl rfl dX6_take_12 ?_
        refine lv_aload_n hx hb dX6_take_15 rfl (lv_at hl 0 rfl) ?_
        refine mr_get (v := .int (Fc_0 40)) E hM 40 (by decide) (index := 138) (mm_at 1 rfl) rfl rfl dX6_take_16 ?_
        refine mr_ald (X := (Fc_0 40).toInt) E hM 1 0 rfl rfl rfl (by omega) dX6_take_19 ?_
        refine lv_bipush (v := 10) hx hb dX6_take_20 (by decide) ?_
        refine mm_icmp_eq (X := (Gc_0 0 (Int32.toNatClampNeg (Fc_0 40))).toInt) (Y := 10) (tgt := 39) hx hb dX6_take_22 (by decide) rfl num_10 (fun c_61 => ?_) (fun c_61 => ?_)
        · refine lv_aload_n hx hb dX6_take_39 rfl (lv_at hl 0 rfl) ?_
          refine lv_dup hx hb dX6_take_40 rfl ?_
          refine mr_get (v := .int (Fc_0 40)) E hM 40 (by decide) (index := 138) (mm_at 1 rfl) rfl rfl dX6_take_41 ?_
          refine lv_iconst (v := 1) hx hb dX6_take_44 (by decide) ?_
          refine mm_iadd (X := (Fc_0 40).toInt) (Y := 1) hx hb dX6_take_45 rfl num_1 (by omega) (fun z_62 hz_62 => ?_)
          refine mr_put (v := z_62) E hM 40 (by decide) (index := 138) (mm_at 1 rfl) rfl rfl (by decide +kernel) ms_40 (mm_bd (X := z_62.toInt) (a := 0) (b := 1000) rfl rfl (by omega)) (by decide) dX6_take_46 (fun H locs hM => ?_)
          refine lv_goto (tgt := 0) hx hb dX6_take_49 (by decide) ?_
          exact ih_0 _ _ _ (upd Fc_0 40 z_62) Gc_0  (show z_62.toInt ≤ (F 39).toInt from by omega) (show (F 40).toInt ≤ z_62.toInt from by omega) (show zrun (zbl kz) xz (z_62.toInt).toNat from by have htc := mTx_fr htx hM.fr (by decide) (by decide); have hi9 := (show (Gc_0 0 (Int32.toNatClampNeg (Fc_0 40))).toInt = (Gc_0 0 (Fc_0 40).toInt.toNat).toInt from rfl); exact ⟨by have := f0_2.1; omega, fun j h1 h2 => (Nat.lt_or_ge j (Fc_0 40).toInt.toNat).elim (fun h9 => f0_2.2 j h1 h9) (fun h9 => by rw [show j = (Fc_0 40).toInt.toNat from by omega]; exact (mTx_bl htc).mpr ⟨by omega, by omega⟩)⟩) (show ((F 39).toInt - z_62.toInt) < ((n_0 : Nat) : Int) from by omega) hM (lv_sub hl [0] rfl)
        · refine lv_aload_n hx hb dX6_take_25 rfl (lv_at hl 0 rfl) ?_
          refine mr_get (v := .ref (q 0)) E hM 0 (by decide) (index := 7) (mm_at 8 rfl) rfl rfl dX6_take_26 ?_
          refine lv_aload_n hx hb dX6_take_29 rfl (lv_at hl 0 rfl) ?_
          refine mr_get (v := .int (Fc_0 40)) E hM 40 (by decide) (index := 138) (mm_at 1 rfl) rfl rfl dX6_take_30 ?_
          refine mr_ald (X := (Fc_0 40).toInt) E hM 1 0 rfl rfl rfl (by omega) dX6_take_33 ?_
          refine lv_bipush (v := 32) hx hb dX6_take_34 (by decide) ?_
          refine mm_icmp_ne (X := (Gc_0 0 (Int32.toNatClampNeg (Fc_0 40))).toInt) (Y := 32) (tgt := 52) hx hb dX6_take_36 (by decide) rfl num_32 (fun c_63 => ?_) (fun c_63 => ?_)
          · exact B_52 _ _ _ Fc_0 Gc_0  (show (Fc_0 40).toInt ≤ (F 39).toInt from by omega) (show (F 40).toInt ≤ (Fc_0 40).toInt from by omega) (show zend (zbl kz) xz ((Fc_0 40).toInt).toNat from by have htc := mTx_fr htx hM.fr (by decide) (by decide); have hi9 := (show (Gc_0 0 (Int32.toNatClampNeg (Fc_0 40))).toInt = (Gc_0 0 (Fc_0 40).toInt.toNat).toInt from rfl); exact ⟨f0_2.1, f0_2.2, fun b => by have h1 := (mTx_bl htc).mp b; omega⟩) hM (lv_sub hl [0] rfl)
          · refine lv_aload_n hx hb dX6_take_39 rfl (lv_at hl 0 rfl) ?_
            refine lv_dup hx hb dX6_take_40 rfl ?_
            refine mr_get (v := .int (Fc_0 40)) E hM 40 (by decide) (index := 138) (mm_at 1 rfl) rfl rfl dX6_take_41 ?_
            refine lv_iconst (v := 1) hx hb dX6_take_44 (by decide) ?_
            refine mm_iadd (X := (Fc_0 40).toInt) (Y := 1) hx hb dX6_take_45 rfl num_1 (by omega) (fun z_64 hz_64 => ?_)
            refine mr_put (v := z_64) E hM 40 (by decide) (index := 138) (mm_at 1 rfl) rfl rfl (by decide +kernel) ms_40 (mm_bd (X := z_64.toInt) (a := 0) (b := 1000) rfl rfl (by omega)) (by decide) dX6_take_46 (fun H locs hM => ?_)
            refine lv_goto (tgt := 0) hx hb dX6_take_49 (by decide) ?_
            exact ih_0 _ _ _ (upd Fc_0 40 z_64) Gc_0  (show z_64.toInt ≤ (F 39).toInt from by omega) (show (F 40).toInt ≤ z_64.toInt from by omega) (show zrun (zbl kz) xz (z_64.toInt).toNat from by have htc := mTx_fr htx hM.fr (by decide) (by decide); have hi9 := (show (Gc_0 0 (Int32.toNatClampNeg (Fc_0 40))).toInt = (Gc_0 0 (Fc_0 40).toInt.toNat).toInt from rfl); exact ⟨by have := f0_2.1; omega, fun j h1 h2 => (Nat.lt_or_ge j (Fc_0 40).toInt.toNat).elim (fun h9 => f0_2.2 j h1 h9) (fun h9 => by rw [show j = (Fc_0 40).toInt.toNat from by omega]; exact (mTx_bl htc).mpr ⟨by omega, by omega⟩)⟩) (show ((F 39).toInt - z_64.toInt) < ((n_0 : Nat) : Int) from by omega) hM (lv_sub hl [0] rfl)
  have b_65 : 0 ≤ (F 40).toInt ∧ (F 40).toInt ≤ 1000 := hM.fb 40 rfl
  have b_66 : 0 ≤ (F 39).toInt ∧ (F 39).toInt ≤ 1000 := hM.fb 39 rfl
  exact B_0 4294967296 _ _ _ F G  (show (F 40).toInt ≤ (F 39).toInt from by omega) (show (F 40).toInt ≤ (F 40).toInt from by omega) (show zrun (zbl kz) xz ((F 40).toInt).toNat from by exact ⟨by omega, fun j h1 h2 => absurd h1 (by omega)⟩) (show ((F 39).toInt - (F 40).toInt) < ((4294967296 : Nat) : Int) from by omega) hM (lv_sub hl [0] rfl)
