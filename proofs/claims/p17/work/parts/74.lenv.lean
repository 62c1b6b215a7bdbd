/-- the formats of both sides say the same -/
def lFm (x0 : Nat) (L : List Nat) (K : Nat → Nat) (I : Nat → Nat → Int32) (O : Nat → Nat → Option Nat) (G : Nat → Nat → Int32) : Prop := ∃ fm rr : Nat, O x0 2 = some fm ∧ O x0 9 = some rr ∧ fm ∈ L ∧ K fm = 14 ∧ ∀ g : Nat, g < 8 → (O fm g = none ∧ (G 5 g).toInt = 0) ∨ (¬ (G 5 g).toInt = 0 ∧ ∃ a : Nat, O fm g = some a ∧ a ∈ L ∧ K a = 2 ∧ (I a 0).toInt = (g : Int) ∧ ∀ j : Nat, 1 ≤ j → j ≤ 7 → (I a j).toInt = mV G g j)
theorem lFm_same {x0 : Nat} {L L1 : List Nat} {K K1 : Nat → Nat} {I I1 : Nat → Nat → Int32} {O O1 : Nat → Nat → Option Nat} {G G1 : Nat → Nat → Int32} {WI WO : List (Nat × Nat)} (h : lFm x0 L K I O G) (mx0 : x0 ∈ L) (kx0 : K x0 = 5) (f : cFr [] WI WO L K I O L1 K1 I1 O1) (i2 : ∀ a : Nat, a ∈ L → K a = 2 → ∀ j : Nat, I1 a j = I a j) (o14 : ∀ a : Nat, a ∈ L → K a = 14 → ∀ j : Nat, O1 a j = O a j) (o2 : O1 x0 2 = O x0 2) (o9 : O1 x0 9 = O x0 9) (hs : ∀ j : Nat, j < 8 → mSame G G1 j) : lFm x0 L1 K1 I1 O1 G1 := by
  obtain ⟨fm, rr, h2, h9, hm, hk, hg⟩ := h
  obtain ⟨m2, k2, -, -⟩ := f fm hm List.not_mem_nil
  refine ⟨fm, rr, o2.trans h2, o9.trans h9, m2, k2.trans hk, fun g hg8 => ?_⟩
  have e5 := (hs g hg8).1
  have ev := (hs g hg8).v
  rw [o14 fm hm hk g, e5, ev]
  rcases hg g hg8 with a | ⟨a, x, b, mx, kx, x0_, xv⟩
  · exact Or.inl a
  · obtain ⟨m3, k3, -, -⟩ := f x mx List.not_mem_nil
    exact Or.inr ⟨a, x, b, m3, k3.trans kx, by rw [i2 x mx kx 0]; exact x0_, fun j c d => by rw [i2 x mx kx j]; exact xv j c d⟩
theorem lFm.fr {x0 : Nat} {L L1 : List Nat} {K K1 : Nat → Nat} {I I1 : Nat → Nat → Int32} {O O1 : Nat → Nat → Option Nat} {F F1 : Nat → Int32} {G G1 : Nat → Nat → Int32} {WI WO : List (Nat × Nat)} {WF WG : List Nat} (h : lFm x0 L K I O G) (mx0 : x0 ∈ L) (kx0 : K x0 = 5) (f : cFr [] WI WO L K I O L1 K1 I1 O1) (g : mFr WF WG F G F1 G1) (a : ∀ j : Nat, cin WI 2 j = false) (b : cin WO 14 0 = false) (c : cin WO 5 2 = false) (d : cin WO 5 9 = false) (e : 5 ∉ WG ∧ 6 ∉ WG ∧ 8 ∉ WG ∧ 9 ∉ WG ∧ 10 ∉ WG ∧ 11 ∉ WG ∧ 12 ∉ WG) : lFm x0 L1 K1 I1 O1 G1 := by
  obtain ⟨m1, k1, i1, o1⟩ := f x0 mx0 List.not_mem_nil
  rw [kx0] at o1
  refine lFm_same h mx0 kx0 f (fun x mx kx j => ?_) (fun x mx kx j => ?_) (o1 2 c) (o1 9 d) (fun j _ => ⟨congrFun (g.2 5 e.1) j, congrFun (g.2 6 e.2.1) j, congrFun (g.2 8 e.2.2.1) j, congrFun (g.2 9 e.2.2.2.1) j, congrFun (g.2 10 e.2.2.2.2.1) j, congrFun (g.2 11 e.2.2.2.2.2.1) j, congrFun (g.2 12 e.2.2.2.2.2.2) j⟩)
  · obtain ⟨-, -, i2, -⟩ := f x mx List.not_mem_nil
    exact i2 j (by rw [kx]; exact a j)
  · obtain ⟨-, -, -, o2⟩ := f x mx List.not_mem_nil
    exact o2 j (by rw [kx]; exact b)
theorem lFm_new {x0 fa rr : Nat} {L0 L : List Nat} {K : Nat → Nat} {I : Nat → Nat → Int32} {O : Nat → Nat → Option Nat} {G : Nat → Nat → Int32} {M N : Nat → Nat → Int} (h2 : O x0 2 = some fa) (h9 : O x0 9 = some rr) (hm : fa ∈ L) (hk : K fa = 14) (z : zRep L0 L K I O fa M) (r : mRc G N) (e : ∀ f j : Nat, 1 ≤ j → j ≤ 7 → M f j = N f j) : lFm x0 L K I O G := by
  refine ⟨fa, rr, h2, h9, hm, hk, fun g hg => ?_⟩
  have e1 := e g 1 (by omega) (by omega)
  rcases z g hg with ⟨a, b⟩ | ⟨a, x, b, mx, kx, nx, x0_, xv⟩
  · rcases r g hg with ⟨-, d⟩ | ⟨c, -⟩
    · exact Or.inl ⟨b, d⟩
    · exact absurd (e1.symm.trans a) c
  · rcases r g hg with ⟨c, -⟩ | ⟨c, d⟩
    · exact absurd (e1.trans c) a
    · have e5 : (G 5 g).toInt = N g 1 := d 1 (by omega) (by omega)
      exact Or.inr ⟨by rw [e5]; exact c, x, b, mx, kx, x0_, fun j p q => by rw [xv j p q, e g j p q]; exact (d j p q).symm⟩
/-- the two tapes say the same -/
def lTp (x0 : Nat) (L : List Nat) (K : Nat → Nat) (I : Nat → Nat → Int32) (O : Nat → Nat → Option Nat) (G : Nat → Nat → Int32) : Prop := ∃ tp fm : Nat, O x0 0 = some tp ∧ tp ∈ L ∧ K tp = 10 ∧ O x0 2 = some fm ∧ ∀ j : Nat, j < (I x0 1).toInt.toNat → zT (I tp j).toInt (G 0 j).toInt
theorem lTp.fr {x0 : Nat} {L L1 : List Nat} {K K1 : Nat → Nat} {I I1 : Nat → Nat → Int32} {O O1 : Nat → Nat → Option Nat} {F F1 : Nat → Int32} {G G1 : Nat → Nat → Int32} {WI WO : List (Nat × Nat)} {WF WG : List Nat} (h : lTp x0 L K I O G) (mx0 : x0 ∈ L) (kx0 : K x0 = 5) (f : cFr [] WI WO L K I O L1 K1 I1 O1) (g : mFr WF WG F G F1 G1) (a : cin WI 5 1 = false) (b : cin WI 10 0 = false) (c : cin WO 5 0 = false) (d : cin WO 5 2 = false) (e : 0 ∉ WG) : lTp x0 L1 K1 I1 O1 G1 := by
  obtain ⟨tp, fm, h0, hm, hk, h2, hz⟩ := h
  obtain ⟨m1, k1, i1, o1⟩ := f x0 mx0 List.not_mem_nil
  obtain ⟨m2, k2, i2, -⟩ := f tp hm List.not_mem_nil
  rw [kx0] at i1 o1
  rw [hk] at i2
  refine ⟨tp, fm, by rw [o1 0 c]; exact h0, m2, k2.trans hk, by rw [o1 2 d]; exact h2, fun j hj => ?_⟩
  rw [i1 1 a] at hj
  rw [i2 j b, g.2 0 e]
  exact hz j hj
theorem lR2s {G G1 : Nat → Nat → Int32} (h : mR2 G) (hs : ∀ j : Nat, j < 8 → mSame G G1 j) : mR2 G1 := by
  unfold mR2 mR2l at *
  intro j hj h5
  have e := hs j hj
  rw [e.1] at h5
  rw [e.2.2.2.2.2.1]
  exact h j hj h5
theorem lR2m {k : Nat → Nat} {n c : Nat} {M : Nat → Nat → Int} {G : Nat → Nat → Int32} (h : zOk k n c M) (g : mRc G M) : mR2 G := by
  unfold mR2 mR2l
  intro j hj h5
  obtain ⟨x, hq, -⟩ := h
  rcases g j hj with ⟨-, g2⟩ | ⟨g1, g2⟩
  · exact absurd g2 h5
  · have e1 := (zSeq_v _ _ _ hq j g1).2.1
    have e2 : (G 11 j).toInt - 9 = M j 6 := g2 6 (by omega) (by omega)
    unfold mHow
    omega
abbrev lA (s : State) : Nat → Prop := fun x => s.heap.size ≤ x
def lE (p : Program) (s : State) (m : MethodId) (meth : Method) (c : Code) (b LL : Nat) (xs : Nat → Int32) (D : va_G) (cA cq : Nat → ClassId) (cO : ClassId) (ad av : Nat → Nat) (sa sb : Nat) : Prop :=
  lw_At p s m meth c b LL xs ∧ LL ≤ 3072 ∧ va_K D vwCl (cT cA) s ∧ va_K D vwCl (mT cq) s ∧ va_K D vwCl [(cO, .long)] s ∧ cV ad av (lA s) s s.heap ∧ lk2 sa sb (lA s) s ∧ (Cond.castable "java/util/NoSuchElementException" "java/lang/IndexOutOfBoundsException").before #[] s = false
def lI (s : State) (D : va_G) (cA cq : Nat → ClassId) (cO : ClassId) (q : Nat → Nat) (x0 h6 qo : Nat) (L : List Nat) (K : Nat → Nat) (I : Nat → Nat → Int32) (O : Nat → Nat → Option Nat) (F : Nat → Int32) (G : Nat → Nat → Int32) (f : Nat → Int64) (H : Heap) (locs : List Loc) : Prop :=
  va_P D vwCl (cW cA L K I O ++ (mW h6 q cq F G ++ lOut qo cO f)) H ∧ va_D (lA s) (cW cA L K I O ++ (mW h6 q cq F G ++ lOut qo cO f)) ∧ va_S (lA s) s.heap H locs ∧ cI L K I O ∧ x0 ∈ L ∧ K x0 = 5 ∧ mI F G ∧ mR1 G ∧ mR2 G ∧ mR3 F G ∧ (I x0 1).toInt = (F 1).toInt ∧ (I x0 6).toInt = (F 3).toInt ∧ (I x0 8).toInt = (F 15).toInt ∧ lTp x0 L K I O G ∧ (I x0 10).toInt = (F 17).toInt ∧ lFm x0 L K I O G ∧ (I x0 3).toInt = (F 4).toInt ∧ lRc x0 L K I O F G ∧ lXt x0 L K I O F G ∧ lFb G ∧ lNa x0 L K I O F G
theorem mR1.fr {WF WG : List Nat} {F F1 : Nat → Int32} {G G1 : Nat → Nat → Int32} (h : mR1 G) (f : mFr WF WG F G F1 G1) (a : 27 ∉ WG) (b : 30 ∉ WG) : mR1 G1 := by
  unfold mR1
  rw [f.2 27 a, f.2 30 b]
  exact h
theorem mR2.fr {WF WG : List Nat} {F F1 : Nat → Int32} {G G1 : Nat → Nat → Int32} (h : mR2 G) (f : mFr WF WG F G F1 G1) (a : 5 ∉ WG) (b : 11 ∉ WG) : mR2 G1 := by
  unfold mR2 mR2l
  rw [f.2 5 a, f.2 11 b]
  exact h
theorem mR3.fr {WF WG : List Nat} {F F1 : Nat → Int32} {G G1 : Nat → Nat → Int32} (h : mR3 F G) (f : mFr WF WG F G F1 G1) (a : 17 ∉ WF) (b : 24 ∉ WG) (c : 26 ∉ WG) : mR3 F1 G1 := by
  unfold mR3
  rw [f.1 17 a, f.2 24 b, f.2 26 c]
  exact h
theorem lw_in {i v : Int32} {LL : Nat} (hi : 0 ≤ i.toInt ∧ i.toInt + 6 ≤ (LL : Int)) (hL : LL ≤ 3072) (k : Int) (hv : v.toInt = k) (hk : 0 ≤ k ∧ k ≤ 5) : vp_in (i + v) LL := by
  rw [vp_in_iff, mm_add rfl hv (by omega)]
  omega
theorem lw_nc {C T : String} {s U : State} (hW : s.WarmedH U.vm) (h : (Cond.castable C T).before #[] s = false) : (Cond.castable C T).before #[] U = false := by
  by_cases e : (Cond.castable C T).before #[] U = true
  · have h1 : (Cond.castable C T).before #[] (s.setVm U.vm) = true := va_tabs (c := .castable C T) rfl (u := U) (U := s.setVm U.vm) rfl e
    rw [Cond.castable_setVm hW.alike, h] at h1
    cases h1
  · simpa using e
theorem lw_not {w : Cond} {A A' : Array Value} {s : State} (hw : w.onTables = true) (h : (Cond.not w).before A s = true) : w.before A' s = false := by
  by_cases e : w.before A' s = true
  · have e1 : w.before A s = true := va_tabs hw rfl e
    simp only [Cond.before, Cond.holds, Cond.value, beq_iff_eq] at h e1
    rw [e1] at h
    simp at h
  · simpa using e
section LQR
variable {D : va_G} {cl : List vw_C} {X Y M Z : va_W} {H : Heap} {A : Nat → Prop}
theorem lq_dcom (h : va_D A (X ++ Y)) : va_D A (Y ++ X) := va_D.app (lq_dr h) (lq_dl h) (fun i j x y hx hy => (lq_dis h hy hx).symm)
theorem lq_rot (h : va_P D cl (X ++ (M ++ Z)) H) : va_P D cl ((X ++ Z) ++ M) H := va_P.app (va_P.app (lq_l h) (lq_r (lq_r h))) (lq_l (lq_r h))
theorem lq_drot (h : va_D A (X ++ (M ++ Z))) : va_D A ((X ++ Z) ++ M) := lq_dcom (lq_dswap h)
theorem lq_tor (h : va_P D cl ((X ++ Z) ++ M) H) : va_P D cl (X ++ (M ++ Z)) H := va_P.app (lq_l (lq_l h)) (va_P.app (lq_r h) (lq_r (lq_l h)))
theorem lq_dtor (h : va_D A ((X ++ Z) ++ M)) : va_D A (X ++ (M ++ Z)) := lq_dswap (lq_dcom h)
end LQR
def lw_tm (i : Nat) : Term := .string RX4 (cpi.getD i (0, "")).1
theorem lw_s1 : ∀ i : Nat, i < 11 → (Cond.exactly (lw_tm i) "java/lang/String") ∈ flatC (Jvm.Cond.and given_1 narrow_1) := by decide +kernel
theorem lw_s2 : ∀ i : Nat, i < 11 → (Cond.eq (.field (lw_tm i) "java/lang/String" "coder" "B") (.int 0)) ∈ flatC (Jvm.Cond.and given_1 narrow_1) := by decide +kernel
theorem lw_s3 : ∀ i : Nat, i < 11 → (Cond.arrayOf (.field (lw_tm i) "java/lang/String" "value" "[B") .byte) ∈ flatC (Jvm.Cond.and given_1 narrow_1) := by decide +kernel
theorem lw_s4 : ∀ i : Nat, i < 11 → (Cond.eq (.length (.field (lw_tm i) "java/lang/String" "value" "[B")) (.int (Int32.ofNat (cln.getD i 0)))) ∈ flatC (Jvm.Cond.and given_1 narrow_1) := by decide +kernel
theorem lw_s5 : ∀ i : Nat, i < 11 → ∀ j : Nat, j < cln.getD i 0 → (Cond.eq (.elem (.field (lw_tm i) "java/lang/String" "value" "[B") (.int (Int32.ofNat j))) (.int ((cby.getD i []).getD j 0))) ∈ flatC (Jvm.Cond.and given_1 narrow_1) := by decide +kernel
theorem lw_s6 : ∀ j : Nat, j < 11 → ∀ i : Nat, i < j → (Cond.not (Cond.eq (lw_tm i) (lw_tm j))) ∈ flatC (Jvm.Cond.and given_1 narrow_1) := by decide +kernel
theorem lw_s7 : ∀ i : Nat, i < 11 → (Cond.stringRef RX4 (cpi.getD i (0, "")).1 (cpi.getD i (0, "")).2) ∈ lw_tbl := by decide +kernel
theorem lw_s8 : ∀ i : Nat, i < 11 → cln.getD i 0 < 2 ^ 31 := by decide +kernel
theorem lw_env {p : Program} {s : State} {m : MethodId} {meth : Method} {c : Code} {b LL : Nat} {xs : Nat → Int32} (C0 : lw_At p s m meth c b LL xs) : ∃ (ad av : Nat → Nat) (sa sb : Nat), cV ad av (lA s) s s.heap ∧ lk2 sa sb (lA s) s ∧ (Cond.castable "java/util/NoSuchElementException" "java/lang/IndexOutOfBoundsException").before #[] s = false := by
  obtain ⟨hx, hb, hr, hml, hown, hts0, hX, hbl, hlocks, hgv⟩ := id C0
  have hflat := flat_of_before _ hgv
  have hA : ∀ a : Nat, a < s.heap.size → ¬ lA s a := fun a h => Nat.not_le.mpr h
  obtain ⟨ad, av, hS, hev⟩ := vk_Sof (tm := lw_tm) (N := 11) (len := cln) (byt := cby) (A := lA s) lw_s8 (fun i hi => hflat _ (lw_s1 i hi)) (fun i hi => hflat _ (lw_s2 i hi)) (fun i hi => hflat _ (lw_s3 i hi)) (fun i hi => hflat _ (lw_s4 i hi)) (fun i hi j hj => hflat _ (lw_s5 i hi j hj))
    (fun i j hi hj hn => by
      by_cases h : i < j
      · exact Or.inl (hflat _ (lw_s6 j hj i h))
      · exact Or.inr (hflat _ (lw_s6 i hi j (by omega)))) hA
  obtain ⟨sa, _, _, _, hsa, -⟩ := Cond.exactly_spec (hflat (.exactly (.string RX5 136) "java/lang/String") (by decide +kernel))
  obtain ⟨sb, _, _, _, hsb, -⟩ := Cond.exactly_spec (hflat (.exactly (.string RX5 158) "java/lang/String") (by decide +kernel))
  refine ⟨ad, av, sa, sb, ⟨⟨va_AO.of (hts0 (.arrayOver (.object RX0)) (by decide +kernel)), va_AO.of (hts0 (.arrayOver (.object RX2)) (by decide +kernel)), va_AO.of (hts0 (.arrayOver (.object RX3)) (by decide +kernel))⟩, hS, fun i y hy => ?_, va_Zof (hts0 (.laysStatic "java/lang/String" "COMPACT_STRINGS" "Z") (by decide +kernel)) (hts0 (.initialized "java/lang/String") (by decide +kernel)) (va_eqt (hflat (.eq (.static "java/lang/String" "COMPACT_STRINGS" "Z") (.int 1)) (by decide +kernel))) hA, va_Zqof (hts0 (.laysStatic "jdk/internal/util/Preconditions" "SIOOBE_FORMATTER" "Ljava/util/function/BiFunction;") (by decide +kernel)) (hts0 (.initialized "jdk/internal/util/Preconditions") (by decide +kernel)) (hflat (.isRef (.static "jdk/internal/util/Preconditions" "SIOOBE_FORMATTER" "Ljava/util/function/BiFunction;")) (by decide +kernel)) hA⟩,
    ⟨vk_R.of (hts0 (.stringRef RX5 136 "no such race") (by decide +kernel)) hsa, vk_R.of (hts0 (.stringRef RX5 158 "no such what") (by decide +kernel)) hsb, ⟨va_Nw.of rfl (hts0 (.castable "java/lang/IndexOutOfBoundsException" "java/lang/IndexOutOfBoundsException") (by decide +kernel)), va_Nw.of rfl (hts0 (.castable "java/util/NoSuchElementException" "java/util/NoSuchElementException") (by decide +kernel))⟩, va_Nw.of rfl (hts0 (.declares (Bundle.initS "java/lang/RuntimeException")) (by decide +kernel)), va_Nw.of rfl (hts0 (.declares (Bundle.initS "java/lang/Exception")) (by decide +kernel)), va_Nw.of rfl (hts0 (.declares (Bundle.initS Bundle.tN)) (by decide +kernel)), vx_Zqof (hts0 (.laysStatic Bundle.tN "UNASSIGNED_STACK" Bundle.steD) (by decide +kernel)) (hts0 (.initialized Bundle.tN) (by decide +kernel)) (hflat (.isRef (.static Bundle.tN "UNASSIGNED_STACK" Bundle.steD)) (by decide +kernel)) hA, vx_Zqof (hts0 (.laysStatic Bundle.tN "SUPPRESSED_SENTINEL" Bundle.listD) (by decide +kernel)) (hts0 (.initialized Bundle.tN) (by decide +kernel)) (hflat (.isRef (.static Bundle.tN "SUPPRESSED_SENTINEL" Bundle.listD)) (by decide +kernel)) hA⟩,
    lw_not (A := #[Value.ref b]) rfl (hflat (.not (.castable "java/util/NoSuchElementException" "java/lang/IndexOutOfBoundsException")) (by decide +kernel))⟩
  have hi : i < 11 := (List.getElem?_eq_some_iff.mp hy).1
  have e9 : cpi.getD i (0, "") = y := by rw [List.getD_eq_getElem?_getD, hy]; rfl
  rw [← e9]
  exact vk_R.of (hts0 _ (lw_s7 i hi)) (hev i hi)
section LLK
variable {p : Program} {l : Launch} {e : Env} {R : Room} {s : State} {m : MethodId} {args : Array Value} {below : List Frame} {meth : Method} {c : Code} {H : Heap} {locs : List Loc} {cells slots : Nat} {Q : State → Prop}
variable {cc : ByteArray} {pc : Nat} {ls : Array Slot} {Ts : List Cond} {D : va_G} {cA : Nat → ClassId} {own : String} {L : List Nat} {K : Nat → Nat} {I : Nat → Nat → Int32} {O : Nat → Nat → Option Nat} {ad av : Nat → Nat} {M : va_W} {sa sb qo x0 : Nat} {cO : ClassId} {f : Nat → Int64} {p0 p1 : Int32}
/-- the law's look out of the law's world -/
theorem lx_look {index nL : Nat} (hst : l.stackTraces = false) (S : CallFix p m c cc nL s args Ts own) (hK : va_K D vwCl (cT cA) s) (hKo : va_K D vwCl [(cO, .long)] s) (hV : cV ad av (lA s) s s.heap) (hE : lk2 sa sb (lA s) s) (hN : (Cond.castable "java/util/NoSuchElementException" "java/lang/IndexOutOfBoundsException").before #[] s = false) (hI : cI L K I O) (mx0 : x0 ∈ L) (kx0 : K x0 = 5) (hP : va_P D vwCl (cW cA L K I O ++ (M ++ lOut qo cO f)) H) (hD : va_D (lA s) (cW cA L K I O ++ (M ++ lOut qo cO f))) (hS : va_S (lA s) s.heap H locs)
    (cw : vx_CSW R s args own index yL_look cL_look 5 (some .int) [(0, 10, 13, 13), (0, 10, 17, 15)] w4L_look ({ frames := 7, cells := 1, slots := 6, locals := 105 }) 1 6 4) (hsz : ls.size = nL) (hdg : decode cc pc = .ok (.invokestatic index, 3)) (hf : cells + 1 ≤ R.cells ∧ slots + 6 ≤ R.slots)
    (kk : ∀ (r : Int32) (f1 : Nat → Int64) (H : Heap) (locs : List Loc), va_P D vwCl (cW cA L K I O ++ (M ++ lOut qo cO f1)) H → va_D (lA s) (cW cA L K I O ++ (M ++ lOut qo cO f1)) → va_S (lA s) s.heap H locs → W p l e R s m args below meth c H locs (cells + 1) (slots + 6) Q (F0 m (pc + 3) ls [.int r])) : W p l e R s m args below meth c H locs cells slots Q (F0 m pc ls [.ref qo, .int p1, .int p0, .ref x0]) := by
  have hP2 := lq_rot hP
  have hD2 := lq_drot hD
  have hPx := lq_l hP2
  have hFc : ∀ x, va_A (cW cA L K I O ++ lOut qo cO f) H.size x → lA s x := fun x hx => by
    rcases hx with ⟨k, e, hx⟩ | hx
    · exact (lq_dl hD2).2 k _ hx
    · exact Nat.le_trans hS.1 hx
  have hFx : ∀ x, va_A (cW cA L K I O) H.size x → lA s x := fun x hx => hFc x (by
    rcases hx with ⟨k, e, h⟩ | h
    · exact Or.inl ⟨k, e, lq_gl h⟩
    · exact Or.inr h)
  refine va_calli (vx_runSW (hh := [(0, 10, 13, 13), (0, 10, 17, 15)]) (As := [.ref x0, .int p0, .int p1, .ref qo]) (rest := []) S (h4_L_look l hst D cA ad av L K I O H.size sa sb qo cO f x0 p0 p1 hI mx0 kx0) cw ⟨fun a U g mk z => ?_, fun U hU hW => ?_⟩ rfl rfl hsz rfl (lv_room (Nat.le_of_ble_eq_true rfl)) hdg hf) hS (fun x _ h => hFc x h) hFc (fun r u t H1 locs1 ht hvm hw hB hz1 hk1 hS1 => ?_)
  · obtain ⟨z0, z1, zP, ⟨zK, zK2⟩, zD, zV, zE, zN⟩ := z
    exact ⟨z0, z1, zP, ⟨va_K.moved (u := U) (U := U.calling g mk a) (Vm.Alike.refl U.vm) zK, va_K.moved (u := U) (U := U.calling g mk a) (Vm.Alike.refl U.vm) zK2⟩, zD, zV.same rfl, lk2_call zE, zN⟩
  · exact ⟨rfl, by rw [hU], by rw [hU]; exact hPx, ⟨va_K.moved hW.alike hK, va_K.moved hW.alike hKo⟩, (lq_dl hD2).weaken (fun _ _ _ _ => trivial), by
      rw [hU]
      exact hV.to hW (fun q h1 h2 => hS.2.1 q h1 h2) hFx, lk2_at hW hU hS hFx hE, lw_nc hW hN⟩
  · obtain ⟨hP1, hD1⟩ := hB
    rw [ht] at hP1
    obtain ⟨hPj, hDj⟩ := lq_join hP2 hD2 hk1 hFc hP1 hD1
    exact kk r u H1 locs1 (lq_tor hPj) (lq_dtor hDj) hS1
end LLK
