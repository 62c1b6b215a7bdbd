def cln : List Nat := [6, 4, 5, 6, 4, 4, 3, 5, 4, 5, 5]
def cby : List (List Int32) := [[102, 111, 114, 109, 97, 116], [108, 97, 112, 115], [115, 104, 111, 111, 116], [115, 112, 97, 114, 101, 115], [109, 105, 115, 115], [108, 111, 111, 112], [97, 100, 100], [115, 116, 97, 114, 116], [109, 97, 115, 115], [99, 104, 97, 115, 101], [101, 118, 101, 114, 121]]
def cpi : List (Nat × String) := [(48, "format"), (83, "laps"), (94, "shoot"), (99, "spares"), (103, "miss"), (105, "loop"), (114, "add"), (119, "start"), (121, "mass"), (126, "chase"), (128, "every")]
def cV (ad av : Nat → Nat) (A : Nat → Prop) (U : State) (H : Heap) : Prop := (va_AO RX0 U ∧ va_AO RX2 U ∧ va_AO RX3 U) ∧ vk_S 11 cln cby ad av A U H ∧ (∀ (i : Nat) (x : Nat × String), cpi[i]? = some x → vk_R RX4 x.1 x.2 (ad i) U) ∧ (va_Z "java/lang/String" "COMPACT_STRINGS" "Z" (.int 1) A U H ∧ va_Zq "jdk/internal/util/Preconditions" "SIOOBE_FORMATTER" "Ljava/util/function/BiFunction;" A U H)
theorem cV.to {ad av : Nat → Nat} {A B : Nat → Prop} {s U : State} {H : Heap} (h : cV ad av A s s.heap) (hW : s.WarmedH U.vm) (hq : ∀ a : Nat, a < s.heap.size → ¬ A a → H[a]? = s.heap[a]?) (hAB : ∀ q, B q → A q) : cV ad av B U H :=
  ⟨⟨h.1.1.moved hW.alike, h.1.2.1.moved hW.alike, h.1.2.2.moved hW.alike⟩, ((h.2.1.moved hW.alike).kept hq).narrow hAB, fun i x hx => (h.2.2.1 i x hx).warm hW, ((h.2.2.2.1.moved hW.alike).kept hq).narrow hAB, ((h.2.2.2.2.moved hW.alike).kept hq).narrow hAB⟩
theorem cV.same {ad av : Nat → Nat} {A : Nat → Prop} {s U : State} {H : Heap} (h : cV ad av A s H) (hv : U.vm = s.vm) : cV ad av A U H :=
  ⟨⟨h.1.1.moved (by rw [hv]; exact Vm.Alike.refl _), h.1.2.1.moved (by rw [hv]; exact Vm.Alike.refl _), h.1.2.2.moved (by rw [hv]; exact Vm.Alike.refl _)⟩, h.2.1.moved (by rw [hv]; exact Vm.Alike.refl _), fun i x hx => (h.2.2.1 i x hx).same hv, h.2.2.2.1.moved (by rw [hv]; exact Vm.Alike.refl _), h.2.2.2.2.moved (by rw [hv]; exact Vm.Alike.refl _)⟩
abbrev cU : Type := List Nat × (Nat → Nat) × (Nat → Nat → Int32) × (Nat → Nat → Option Nat)
def cX (p : Program) (c : Code) (cc : ByteArray) (s : State) (m : MethodId) (args : Array Value) (Ts : List Cond) (D : va_G) (cA : Nat → ClassId) (own : String) : Prop := p.tables.exec = Jvm.exec ∧ c.code = cc ∧ (∀ w ∈ Ts, w.before args s = true) ∧ s.vm.findClass own = some m.cls ∧ va_K D vwCl (cT cA) s
def cQ (D : va_G) (cA : Nat → ClassId) (A : Nat → Prop) (H0 : Heap) (xs : List Nat) (WI WO : List (Nat × Nat)) (Li : List Nat) (Ki : Nat → Nat) (Ii : Nat → Nat → Int32) (Oi : Nat → Nat → Option Nat) (H : Heap) (locs : List Loc) (L : List Nat) (K : Nat → Nat) (I : Nat → Nat → Int32) (O : Nat → Nat → Option Nat) : Prop := va_P D vwCl (cW cA L K I O) H ∧ va_D A (cW cA L K I O) ∧ va_S A H0 H locs ∧ cI L K I O ∧ cFr xs WI WO Li Ki Ii Oi L K I O
def cPre (D : va_G) (cA : Nat → ClassId) (ad av : Nat → Nat) (L : List Nat) (K : Nat → Nat) (I : Nat → Nat → Int32) (O : Nat → Nat → Option Nat) (sz : Nat) (vs : List Value) : Array Value → State → Prop := va_Pc vs (fun U => U.heap.size = sz ∧ va_P D vwCl (cW cA L K I O) U.heap ∧ va_K D vwCl (cT cA) U ∧ va_D (fun _ => True) (cW cA L K I O) ∧ cV ad av (va_A (cW cA L K I O) sz) U U.heap)
def cB (D : va_G) (cA : Nat → ClassId) (A : Nat → Prop) (u : cU) (t : State) : Prop := va_P D vwCl (cW cA u.1 u.2.1 u.2.2.1 u.2.2.2) t.heap ∧ va_K D vwCl (cT cA) t ∧ va_D A (cW cA u.1 u.2.1 u.2.2.1 u.2.2.2)
def cG (L : List Nat) (K : Nat → Nat) (I : Nat → Nat → Int32) (O : Nat → Nat → Option Nat) (xs : List Nat) (WI WO : List (Nat × Nat)) (u : cU) : Prop := cI u.1 u.2.1 u.2.2.1 u.2.2.2 ∧ cFr xs WI WO L K I O u.1 u.2.1 u.2.2.1 u.2.2.2
def cQi (D : va_G) (cA : Nat → ClassId) (L : List Nat) (K : Nat → Nat) (I : Nat → Nat → Int32) (O : Nat → Nat → Option Nat) (sz : Nat) (xs : List Nat) (WI WO : List (Nat × Nat)) (post : Int32 → List Nat → (Nat → Nat) → (Nat → Nat → Int32) → (Nat → Nat → Option Nat) → Prop) : Array Value → State → Outcome → State → Prop := va_Qi (fun r (u : cU) => cG L K I O xs WI WO u ∧ post r u.1 u.2.1 u.2.2.1 u.2.2.2) (fun u t => cB D cA (va_A (cW cA L K I O) sz) u t) (va_A (cW cA L K I O) sz)
def cQv (D : va_G) (cA : Nat → ClassId) (L : List Nat) (K : Nat → Nat) (I : Nat → Nat → Int32) (O : Nat → Nat → Option Nat) (sz : Nat) (xs : List Nat) (WI WO : List (Nat × Nat)) (post : List Nat → (Nat → Nat) → (Nat → Nat → Int32) → (Nat → Nat → Option Nat) → Prop) : Array Value → State → Outcome → State → Prop := va_Qv (fun (u : cU) => cG L K I O xs WI WO u ∧ post u.1 u.2.1 u.2.2.1 u.2.2.2) (fun u t => cB D cA (va_A (cW cA L K I O) sz) u t) (va_A (cW cA L K I O) sz)
def cQq (D : va_G) (cA : Nat → ClassId) (L : List Nat) (K : Nat → Nat) (I : Nat → Nat → Int32) (O : Nat → Nat → Option Nat) (sz : Nat) (xs : List Nat) (WI WO : List (Nat × Nat)) (post : Option Nat → List Nat → (Nat → Nat) → (Nat → Nat → Int32) → (Nat → Nat → Option Nat) → Prop) : Array Value → State → Outcome → State → Prop := va_Qq (fun r (u : cU) => cG L K I O xs WI WO u ∧ post r u.1 u.2.1 u.2.2.1 u.2.2.2) (fun u t => cB D cA (va_A (cW cA L K I O) sz) u t) (va_A (cW cA L K I O) sz)
section CR
variable {p : Program} {l : Launch} {e : Env} {R : Room} {s : State} {m : MethodId} {args : Array Value} {below : List Frame} {meth : Method} {c : Code} {H : Heap} {locs : List Loc} {cells slots : Nat} {Q : State → Prop}
variable {cc : ByteArray} {pc : Nat} {ls : Array Slot} {rest : List Value}
variable {Ts : List Cond} {D : va_G} {cA : Nat → ClassId} {own : String} {A : Nat → Prop} {H0 : Heap} {xs : List Nat} {WI WO : List (Nat × Nat)} {Li : List Nat} {Ki : Nat → Nat} {Ii : Nat → Nat → Int32} {Oi : Nat → Nat → Option Nat} {L : List Nat} {K : Nat → Nat} {I : Nat → Nat → Int32} {O : Nat → Nat → Option Nat} {a κ : Nat} {ad av : Nat → Nat}
theorem cw_at (ha : a ∈ L) (hk : K a = κ) : ∃ j : Nat, (cW cA L K I O)[j]? = some (a, cE cA κ (I a) (O a)) := by
  obtain ⟨j, hj⟩ := va_pl_get (X := []) (f := fun a => cE cA (K a) (I a) (O a)) ha
  refine ⟨j, ?_⟩
  rw [← hk]
  exact hj
theorem cw_set {I' : Nat → Nat → Int32} {O' : Nat → Nat → Option Nat} {j : Nat} {e : va_E} (hD : va_D A (cW cA L K I O)) (ha : a ∈ L) (hk : K a = κ) (hj : (cW cA L K I O)[j]? = some (a, cE cA κ (I a) (O a))) (he : e = cE cA κ (I' a) (O' a)) (hne : ∀ x, x ≠ a → I' x = I x ∧ O' x = O x) : (cW cA L K I O).set j (a, e) = cW cA L K I' O' := by
  rw [← hk] at hj he
  have h1 := va_pl_set (X := []) (e := e) hD ha hj
  refine h1.trans (va_pl_congr fun x => ?_)
  by_cases q : x = a
  · subst q; rw [va_up_self, he]
  · rw [va_up_ne _ _ q, (hne x q).1, (hne x q).2]
theorem cw_new {q : Nat} {e : va_E} (hD : va_D A (cW cA L K I O ++ [(q, e)])) (he : e = cE cA κ (fun _ => 0) (fun _ => none)) : q ∉ L ∧ cW cA L K I O ++ [(q, e)] = cW cA (L ++ [q]) (va_up K q κ) (va_up I q (fun _ => 0)) (va_up O q (fun _ => none)) := by
  have hq : q ∉ L := va_pl_fresh2 (X := []) hD
  refine ⟨hq, (va_pl_push hq).trans (va_pl_congr fun x => ?_)⟩
  by_cases z : x = q
  · subst z; rw [va_up_self, va_up_self, va_up_self, va_up_self, he]
  · rw [va_up_ne _ _ z, va_up_ne _ _ z, va_up_ne _ _ z, va_up_ne _ _ z]
theorem cQ.ib (h : cQ D cA A H0 xs WI WO Li Ki Ii Oi H locs L K I O) (ha : a ∈ L) (hk : K a = κ) (k : Nat) {x y : Int} (hb : cib κ k = some (x, y)) : x ≤ (I a k).toInt ∧ (I a k).toInt ≤ y := (h.2.2.2.1 a ha).1 k (x, y) (by rw [hk]; exact hb)
theorem cQ.rt (h : cQ D cA A H0 xs WI WO Li Ki Ii Oi H locs L K I O) (ha : a ∈ L) (hk : K a = κ) (k : Nat) {κ' b : Nat} (hb : crt κ k = some κ') (ho : O a k = some b) : b ∈ L ∧ K b = κ' := (h.2.2.2.1 a ha).2.1 k κ' b (by rw [hk]; exact hb) ho
theorem cQ.nn (h : cQ D cA A H0 xs WI WO Li Ki Ii Oi H locs L K I O) (ha : a ∈ L) (hk : K a = κ) (k : Nat) {κ' : Nat} (hn : cnn κ k = true) (hb : crt κ k = some κ') : ∃ b, O a k = some b ∧ b ∈ L ∧ K b = κ' := by
  have h1 := (h.2.2.2.1 a ha).2.2.1 k (by rw [hk]; exact hn)
  cases ho : O a k with
  | none => exact absurd ho h1
  | some b => exact ⟨b, rfl, h.rt ha hk k hb ho⟩
theorem cQ.sp (h : cQ D cA A H0 xs WI WO Li Ki Ii Oi H locs L K I O) (ha : a ∈ L) (hk : K a = κ) : cS L κ a (I a) O := by
  have := (h.2.2.2.1 a ha).2.2.2
  rw [hk] at this
  exact this
theorem cr_get {ci k index N : Nat} {C ref : String} {T : u_T} {fs : (Nat → Int32) → (Nat → Option Nat) → List Value} (E : cX p c cc s m args Ts D cA own) (hM : cQ D cA A H0 xs WI WO Li Ki Ii Oi H locs L K I O) (ha : a ∈ L) (hk : K a = κ) (hE : ∀ i o, cE cA κ i o = .inr (ci, fs i o)) (hc : vwCl[ci]? = some (C, T, N)) (hin : ∀ w ∈ u_ws C T N, w ∈ Ts) (hkN : k < N) (hlink : Cond.fieldLink own index ref (T k).2.1 (T k).2.2.1 ∈ Ts) (hs : (T k).1 = ref) {v : Value} (hv : (fs (I a) (O a))[k]? = some v) (hdg : decode cc pc = .ok (.getfield index, 3))
    (kk : W p l e R s m args below meth c H locs cells slots Q (F0 m (pc + 3) ls (v :: rest))) : W p l e R s m args below meth c H locs cells slots Q (F0 m pc ls (.ref a :: rest)) := by
  obtain ⟨j, hj⟩ := cw_at (cA := cA) (I := I) (O := O) ha hk
  rw [hE] at hj
  exact va_get (D := D) (cl := vwCl) (ci := ci) E.1 E.2.1 E.2.2.1 hin E.2.2.2.1 E.2.2.2.2 hM.1 j hj hc k hkN (E.2.2.1 _ hlink) (fun x hx => by rw [hs] at hx; exact hx) hv hdg kk
theorem cr_puti {ci k index N : Nat} {C ref : String} {T : u_T} {fs : (Nat → Int32) → (Nat → Option Nat) → List Value} (E : cX p c cc s m args Ts D cA own) (hM : cQ D cA A H0 xs WI WO Li Ki Ii Oi H locs L K I O) (ha : a ∈ L) (hk : K a = κ) (hE : ∀ i o, cE cA κ i o = .inr (ci, fs i o)) (hc : vwCl[ci]? = some (C, T, N)) (hin : ∀ w ∈ u_ws C T N, w ∈ Ts) (ty0 : Nat → FieldType) (hty0 : ∀ k, k < N → parseFieldDescriptor (T k).2.2.1 = some (ty0 k)) (hnm : ∀ a, a < N → ∀ b, b < N → a ≠ b → (T a).2.1 ≠ (T b).2.1) (hkN : k < N) (hlink : Cond.fieldLink own index ref (T k).2.1 (T k).2.2.1 ∈ Ts) (hs : (T k).1 = ref)
    (hfin : (T k).2.2.2 = false ∨ ((T k).2.2.2 = true ∧ meth.name = "<init>" ∧ (T k).1 = own)) {ty : FieldType} {v : Int32} (hd : parseFieldDescriptor (T k).2.2.1 = some ty) (hn : narrow ty (.int v) = .int v) (hft : fits ty (.int v) = true) (hl : k < (fs (I a) (O a)).length) (hset : ∀ i o (v : Int32), (fs i o).set k (.int v) = fs (upd i k v) o) (hbd : ∀ b, cib κ k = some b → b.1 ≤ v.toInt ∧ v.toInt ≤ b.2) (hsp : cS L κ a (upd (I a) k v) O) (hW : a ∉ Li ∨ a ∈ xs ∨ cin WI κ k = true) (hdg : decode cc pc = .ok (.putfield index, 3))
    (kk : ∀ (H : Heap) (locs : List Loc) (I1 : Nat → Nat → Int32), I1 = va_up I a (upd (I a) k v) → cQ D cA A H0 xs WI WO Li Ki Ii Oi H locs L K I1 O → W p l e R s m args below meth c H locs cells slots Q (F0 m (pc + 3) ls rest)) : W p l e R s m args below meth c H locs cells slots Q (F0 m pc ls (.int v :: .ref a :: rest)) := by
  obtain ⟨j, hj⟩ := cw_at (cA := cA) (I := I) (O := O) ha hk
  obtain ⟨hP, hD, hS, hI, hF⟩ := hM
  have hset2 := cw_set (I' := va_up I a (upd (I a) k v)) (O' := O) (e := .inr (ci, (fs (I a) (O a)).set k (.int v))) hD ha hk hj (by rw [va_up_self, hE, hset]) (fun x hx => ⟨va_up_ne _ _ hx, rfl⟩)
  have hj2 := hj
  rw [hE] at hj2
  have fin : ∀ (H1 : Heap) (locs1 : List Loc), va_P D vwCl ((cW cA L K I O).set j (a, .inr (ci, (fs (I a) (O a)).set k (.int v)))) H1 → va_D A ((cW cA L K I O).set j (a, .inr (ci, (fs (I a) (O a)).set k (.int v)))) → va_S A H0 H1 locs1 → W p l e R s m args below meth c H1 locs1 cells slots Q (F0 m (pc + 3) ls rest) := fun H1 locs1 h1 h2 h3 => by
    rw [hset2] at h1 h2
    exact kk H1 locs1 _ rfl ⟨h1, h2, h3, hI.puti ha (by rw [hk]; exact hbd) (by rw [hk]; exact hsp), hF.puti (by rw [hk]; exact hW)⟩
  rcases hfin with hfin | ⟨hfin, hin2, hdecl⟩
  · exact va_put (D := D) (cl := vwCl) (ci := ci) (ty := ty) E.1 E.2.1 E.2.2.1 hin ty0 hty0 hnm E.2.2.2.1 E.2.2.2.2 hP hD hS j hj2 hc k hkN (E.2.2.1 _ hlink) (fun x hx => by rw [hs] at hx; exact hx) hfin hd hn hft hl hdg fin
  · exact va_putF (D := D) (cl := vwCl) (ci := ci) (ty := ty) E.1 E.2.1 E.2.2.1 hin ty0 hty0 hnm E.2.2.2.1 E.2.2.2.2 hP hD hS j hj2 hc k hkN (E.2.2.1 _ hlink) (fun x hx => by rw [hs] at hx; exact hx) hfin hin2 hdecl hd hn hft hl hdg fin
theorem cr_puto {ci k index N : Nat} {C ref : String} {T : u_T} {fs : (Nat → Int32) → (Nat → Option Nat) → List Value} (E : cX p c cc s m args Ts D cA own) (hM : cQ D cA A H0 xs WI WO Li Ki Ii Oi H locs L K I O) (ha : a ∈ L) (hk : K a = κ) (hE : ∀ i o, cE cA κ i o = .inr (ci, fs i o)) (hc : vwCl[ci]? = some (C, T, N)) (hin : ∀ w ∈ u_ws C T N, w ∈ Ts) (ty0 : Nat → FieldType) (hty0 : ∀ k, k < N → parseFieldDescriptor (T k).2.2.1 = some (ty0 k)) (hnm : ∀ a, a < N → ∀ b, b < N → a ≠ b → (T a).2.1 ≠ (T b).2.1) (hkN : k < N) (hlink : Cond.fieldLink own index ref (T k).2.1 (T k).2.2.1 ∈ Ts) (hs : (T k).1 = ref)
    (hfin : (T k).2.2.2 = false ∨ ((T k).2.2.2 = true ∧ meth.name = "<init>" ∧ (T k).1 = own)) {ty : FieldType} {w : Option Nat} (hd : parseFieldDescriptor (T k).2.2.1 = some ty) (hn : narrow ty (va_rf w) = va_rf w) (hft : fits ty (va_rf w) = true) (hl : k < (fs (I a) (O a)).length) (hset : ∀ i o (w : Option Nat), (fs i o).set k (va_rf w) = fs i (va_up o k w)) (hka : κ ≠ 12 ∧ κ ≠ 15) (ht : ∀ κ' b, crt κ k = some κ' → w = some b → b ∈ L ∧ K b = κ') (hnn : cnn κ k = true → w ≠ none) (hsp : cS L κ a (I a) (va_up O a (va_up (O a) k w))) (hW : a ∉ Li ∨ a ∈ xs ∨ cin WO κ k = true) (hdg : decode cc pc = .ok (.putfield index, 3))
    (kk : ∀ (H : Heap) (locs : List Loc) (O1 : Nat → Nat → Option Nat), O1 = va_up O a (va_up (O a) k w) → cQ D cA A H0 xs WI WO Li Ki Ii Oi H locs L K I O1 → W p l e R s m args below meth c H locs cells slots Q (F0 m (pc + 3) ls rest)) : W p l e R s m args below meth c H locs cells slots Q (F0 m pc ls (va_rf w :: .ref a :: rest)) := by
  obtain ⟨j, hj⟩ := cw_at (cA := cA) (I := I) (O := O) ha hk
  obtain ⟨hP, hD, hS, hI, hF⟩ := hM
  have hset2 := cw_set (I' := I) (O' := va_up O a (va_up (O a) k w)) (e := .inr (ci, (fs (I a) (O a)).set k (va_rf w))) hD ha hk hj (by rw [va_up_self, hE, hset]) (fun x hx => ⟨rfl, va_up_ne _ _ hx⟩)
  have hj2 := hj
  rw [hE] at hj2
  have fin : ∀ (H1 : Heap) (locs1 : List Loc), va_P D vwCl ((cW cA L K I O).set j (a, .inr (ci, (fs (I a) (O a)).set k (va_rf w)))) H1 → va_D A ((cW cA L K I O).set j (a, .inr (ci, (fs (I a) (O a)).set k (va_rf w)))) → va_S A H0 H1 locs1 → W p l e R s m args below meth c H1 locs1 cells slots Q (F0 m (pc + 3) ls rest) := fun H1 locs1 h1 h2 h3 => by
    rw [hset2] at h1 h2
    exact kk H1 locs1 _ rfl ⟨h1, h2, h3, hI.puto ha (by rw [hk]; exact hka) (by rw [hk]; exact ht) (by rw [hk]; exact hnn) (by rw [hk]; exact hsp), hF.puto (by rw [hk]; exact hW)⟩
  rcases hfin with hfin | ⟨hfin, hin2, hdecl⟩
  · exact va_put (D := D) (cl := vwCl) (ci := ci) (ty := ty) E.1 E.2.1 E.2.2.1 hin ty0 hty0 hnm E.2.2.2.1 E.2.2.2.2 hP hD hS j hj2 hc k hkN (E.2.2.1 _ hlink) (fun x hx => by rw [hs] at hx; exact hx) hfin hd hn hft hl hdg fin
  · exact va_putF (D := D) (cl := vwCl) (ci := ci) (ty := ty) E.1 E.2.1 E.2.2.1 hin ty0 hty0 hnm E.2.2.2.1 E.2.2.2.2 hP hD hS j hj2 hc k hkN (E.2.2.1 _ hlink) (fun x hx => by rw [hs] at hx; exact hx) hfin hin2 hdecl hd hn hft hl hdg fin
theorem cr_iald {t0 n : Nat} {cB : ClassId} (E : cX p c cc s m args Ts D cA own) (hM : cQ D cA A H0 xs WI WO Li Ki Ii Oi H locs L K I O) (ha : a ∈ L) (hk : K a = κ) (hE : ∀ i o, cE cA κ i o = .inl (cB, n, .inl i)) (ht : (cT cA)[t0]? = some (cB, .int)) {i : Int32} {X : Int} (hi : i.toInt = X) (hin : 0 ≤ X ∧ X < n) (hdg : decode cc pc = .ok (.iaload, 1))
    (kk : W p l e R s m args below meth c H locs cells slots Q (F0 m (pc + 1) ls (.int (I a i.toNatClampNeg) :: rest))) : W p l e R s m args below meth c H locs cells slots Q (F0 m pc ls (.int i :: .ref a :: rest)) := by
  obtain ⟨j, hj⟩ := cw_at (cA := cA) (I := I) (O := O) ha hk
  rw [hE] at hj
  exact va_iald E.1 E.2.1 E.2.2.2.2 hM.1 j t0 hj ht (by rw [vp_in_iff, hi]; exact hin) hdg kk
theorem cr_bald {t0 n : Nat} {cB : ClassId} (E : cX p c cc s m args Ts D cA own) (hM : cQ D cA A H0 xs WI WO Li Ki Ii Oi H locs L K I O) (ha : a ∈ L) (hk : K a = κ) (hE : ∀ i o, cE cA κ i o = .inl (cB, n, .inl i)) (ht : (cT cA)[t0]? = some (cB, .byte)) {i : Int32} {X : Int} (hi : i.toInt = X) (hin : 0 ≤ X ∧ X < n) (hdg : decode cc pc = .ok (.baload, 1))
    (kk : W p l e R s m args below meth c H locs cells slots Q (F0 m (pc + 1) ls (.int (I a i.toNatClampNeg) :: rest))) : W p l e R s m args below meth c H locs cells slots Q (F0 m pc ls (.int i :: .ref a :: rest)) := by
  obtain ⟨j, hj⟩ := cw_at (cA := cA) (I := I) (O := O) ha hk
  rw [hE] at hj
  exact va_bald E.1 E.2.1 E.2.2.2.2 hM.1 j t0 hj ht (by rw [vp_in_iff, hi]; exact hin) hdg kk
theorem cr_aald {t0 n : Nat} {cB : ClassId} {C : String} (E : cX p c cc s m args Ts D cA own) (hM : cQ D cA A H0 xs WI WO Li Ki Ii Oi H locs L K I O) (ha : a ∈ L) (hk : K a = κ) (hE : ∀ i o, cE cA κ i o = .inl (cB, n, .inr (.inr (.inr (.inr o))))) (ht : (cT cA)[t0]? = some (cB, .object C)) {i : Int32} {X : Int} (hi : i.toInt = X) (hin : 0 ≤ X ∧ X < n) (hdg : decode cc pc = .ok (.aaload, 1))
    (kk : W p l e R s m args below meth c H locs cells slots Q (F0 m (pc + 1) ls (va_rf (O a i.toNatClampNeg) :: rest))) : W p l e R s m args below meth c H locs cells slots Q (F0 m pc ls (.int i :: .ref a :: rest)) := by
  obtain ⟨j, hj⟩ := cw_at (cA := cA) (I := I) (O := O) ha hk
  rw [hE] at hj
  exact va_aldq E.1 E.2.1 E.2.2.2.2 hM.1 j t0 hj ht (by rw [vp_in_iff, hi]; exact hin) hdg kk
theorem cS.arr {i : Nat → Int32} (h : κ ≠ 1 ∧ κ ≠ 3 ∧ κ ≠ 4 ∧ κ ≠ 5) : cS L κ a i O := ⟨fun q => absurd q h.1, fun q => absurd q h.2.1, fun q => absurd q h.2.2.1, fun q => absurd q h.2.2.2⟩
theorem cr_iast {t0 n : Nat} {cB : ClassId} (E : cX p c cc s m args Ts D cA own) (hM : cQ D cA A H0 xs WI WO Li Ki Ii Oi H locs L K I O) (ha : a ∈ L) (hk : K a = κ) (hE : ∀ i o, cE cA κ i o = .inl (cB, n, .inl i)) (ht : (cT cA)[t0]? = some (cB, .int)) {i x : Int32} {X : Int} (hi : i.toInt = X) (hin : 0 ≤ X ∧ X < n) (hk2 : κ ≠ 1 ∧ κ ≠ 3 ∧ κ ≠ 4 ∧ κ ≠ 5) (hb0 : ∀ k, cib κ k = none) (hW : a ∉ Li ∨ a ∈ xs ∨ ∀ k, cin WI κ k = true) (hdg : decode cc pc = .ok (.iastore, 1))
    (kk : ∀ (H : Heap) (locs : List Loc) (I1 : Nat → Nat → Int32), I1 = va_up I a (upd (I a) i.toNatClampNeg x) → cQ D cA A H0 xs WI WO Li Ki Ii Oi H locs L K I1 O → W p l e R s m args below meth c H locs cells slots Q (F0 m (pc + 1) ls rest)) : W p l e R s m args below meth c H locs cells slots Q (F0 m pc ls (.int x :: .int i :: .ref a :: rest)) := by
  obtain ⟨j, hj⟩ := cw_at (cA := cA) (I := I) (O := O) ha hk
  obtain ⟨hP, hD, hS, hI, hF⟩ := hM
  have hset2 := cw_set (I' := va_up I a (upd (I a) i.toNatClampNeg x)) (O' := O) (e := .inl (cB, n, .inl (upd (I a) i.toNatClampNeg x))) hD ha hk hj (by rw [va_up_self, hE]) (fun x hx => ⟨va_up_ne _ _ hx, rfl⟩)
  have hj2 := hj
  rw [hE] at hj2
  refine va_iast E.1 E.2.1 E.2.2.2.2 hP hD hS j t0 hj2 ht (by rw [vp_in_iff, hi]; exact hin) hdg (fun H1 locs1 h1 h2 h3 => ?_)
  rw [hset2] at h1 h2
  exact kk H1 locs1 _ rfl ⟨h1, h2, h3, hI.puti ha (fun b hb => by rw [hk, hb0] at hb; cases hb) (by rw [hk]; exact cS.arr hk2), hF.puti (hW.imp_right (Or.imp_right (fun z => by rw [hk]; exact z _)))⟩
theorem cr_bast {t0 n : Nat} {cB : ClassId} (E : cX p c cc s m args Ts D cA own) (hM : cQ D cA A H0 xs WI WO Li Ki Ii Oi H locs L K I O) (ha : a ∈ L) (hk : K a = κ) (hE : ∀ i o, cE cA κ i o = .inl (cB, n, .inl i)) (ht : (cT cA)[t0]? = some (cB, .byte)) {i x : Int32} {X : Int} (hi : i.toInt = X) (hin : 0 ≤ X ∧ X < n) (hk2 : κ ≠ 1 ∧ κ ≠ 3 ∧ κ ≠ 4 ∧ κ ≠ 5) (hb0 : ∀ k, cib κ k = none) (hW : a ∉ Li ∨ a ∈ xs ∨ ∀ k, cin WI κ k = true) (hdg : decode cc pc = .ok (.bastore, 1))
    (kk : ∀ (H : Heap) (locs : List Loc) (I1 : Nat → Nat → Int32), I1 = va_up I a (upd (I a) i.toNatClampNeg (vp_nar .byte x)) → cQ D cA A H0 xs WI WO Li Ki Ii Oi H locs L K I1 O → W p l e R s m args below meth c H locs cells slots Q (F0 m (pc + 1) ls rest)) : W p l e R s m args below meth c H locs cells slots Q (F0 m pc ls (.int x :: .int i :: .ref a :: rest)) := by
  obtain ⟨j, hj⟩ := cw_at (cA := cA) (I := I) (O := O) ha hk
  obtain ⟨hP, hD, hS, hI, hF⟩ := hM
  have hset2 := cw_set (I' := va_up I a (upd (I a) i.toNatClampNeg (vp_nar .byte x))) (O' := O) (e := .inl (cB, n, .inl (upd (I a) i.toNatClampNeg (vp_nar .byte x)))) hD ha hk hj (by rw [va_up_self, hE]) (fun x hx => ⟨va_up_ne _ _ hx, rfl⟩)
  have hj2 := hj
  rw [hE] at hj2
  refine va_bast E.1 E.2.1 E.2.2.2.2 hP hD hS j t0 hj2 ht (by rw [vp_in_iff, hi]; exact hin) hdg (fun H1 locs1 h1 h2 h3 => ?_)
  rw [hset2] at h1 h2
  exact kk H1 locs1 _ rfl ⟨h1, h2, h3, hI.puti ha (fun b hb => by rw [hk, hb0] at hb; cases hb) (by rw [hk]; exact cS.arr hk2), hF.puti (hW.imp_right (Or.imp_right (fun z => by rw [hk]; exact z _)))⟩
theorem cr_aast {t0 n ci b κb : Nat} {cB : ClassId} {r : vw_C} {vs : List Value} (E : cX p c cc s m args Ts D cA own) (hM : cQ D cA A H0 xs WI WO Li Ki Ii Oi H locs L K I O) (ha : a ∈ L) (hk : K a = κ) (hE : ∀ i o, cE cA κ i o = .inl (cB, n, .inr (.inr (.inr (.inr o))))) (ht : (cT cA)[t0]? = some (cB, .object r.1)) (hb : b ∈ L) (hkb : K b = κb) (hEb : cE cA κb (I b) (O b) = .inr (ci, vs)) (hc : vwCl[ci]? = some r) {i : Int32} {X : Int} (hi : i.toInt = X) (hin : 0 ≤ X ∧ X < n) (hk2 : κ = 12 ∨ κ = 14 ∨ κ = 15) (hty : ∀ k, crt κ k = some κb) (hW : a ∉ Li ∨ a ∈ xs ∨ ∀ k, cin WO κ k = true) (hdg : decode cc pc = .ok (.aastore, 1))
    (kk : ∀ (H : Heap) (locs : List Loc) (O1 : Nat → Nat → Option Nat), O1 = va_up O a (va_up (O a) i.toNatClampNeg (some b)) → cQ D cA A H0 xs WI WO Li Ki Ii Oi H locs L K I O1 → W p l e R s m args below meth c H locs cells slots Q (F0 m (pc + 1) ls rest)) : W p l e R s m args below meth c H locs cells slots Q (F0 m pc ls (.ref b :: .int i :: .ref a :: rest)) := by
  obtain ⟨j, hj⟩ := cw_at (cA := cA) (I := I) (O := O) ha hk
  obtain ⟨jb, hjb⟩ := cw_at (cA := cA) (I := I) (O := O) hb hkb
  obtain ⟨hP, hD, hS, hI, hF⟩ := hM
  have hset2 := cw_set (I' := I) (O' := va_up O a (va_up (O a) i.toNatClampNeg (some b))) (e := .inl (cB, n, .inr (.inr (.inr (.inr (va_up (O a) i.toNatClampNeg (some b))))))) hD ha hk hj (by rw [va_up_self, hE]) (fun x hx => ⟨rfl, va_up_ne _ _ hx⟩)
  have hj2 := hj
  rw [hE] at hj2
  rw [hEb] at hjb
  refine va_astq (cl := vwCl) E.1 E.2.1 E.2.2.2.2 hP hD hS j t0 jb ci hj2 ht hjb hc (by rw [vp_in_iff, hi]; exact hin) hdg (fun H1 locs1 h1 h2 h3 => ?_)
  rw [hset2] at h1 h2
  exact kk H1 locs1 _ rfl ⟨h1, h2, h3, hI.aast ha (by rw [hk]; exact hk2) (fun κ' hκ => by rw [hk, hty] at hκ; cases hκ; exact ⟨hb, hkb⟩), hF.puto (hW.imp_right (Or.imp_right (fun z => by rw [hk]; exact z _)))⟩
theorem cr_new {ci index N : Nat} {C : String} {T : u_T} (E : cX p c cc s m args Ts D cA own) (hA : ∀ x, H0.size ≤ x → A x) (hM : cQ D cA A H0 xs WI WO Li Ki Ii Oi H locs L K I O) (hE : ∀ i o, cE cA κ i o = .inr (ci, cfs ci i o)) (hc : vwCl[ci]? = some (C, T, N)) (hin : ∀ w ∈ u_ws C T N, w ∈ Ts) (ty : Nat → FieldType) (hty : ∀ k, k < N → parseFieldDescriptor (T k).2.2.1 = some (ty k)) (hcl : Cond.classLink own index C ∈ Ts) (hinst : Cond.instantiable C N ∈ Ts) (hini : Cond.initialized C ∈ Ts) (hfs : ∀ j, j < N → defaultValue (ty j) = vp_V (cfs ci (fun _ => 0) (fun _ => none)) j) (hn : ∀ k, cnn κ k = false) (hk2 : κ ≠ 3 ∧ κ ≠ 5) (hcells : cells + 1 ≤ R.cells) (hslots : slots + N ≤ R.slots) (hdg : decode cc pc = .ok (.new index, 3))
    (kk : ∀ (q : Nat) (H : Heap) (L1 : List Nat) (K1 : Nat → Nat) (I1 : Nat → Nat → Int32) (O1 : Nat → Nat → Option Nat), q ∉ L → L1 = L ++ [q] → K1 = va_up K q κ → I1 = va_up I q (fun _ => 0) → O1 = va_up O q (fun _ => none) → (∀ x, x ∈ L → x ∈ L1 ∧ K1 x = K x) → q ∈ L1 → K1 q = κ → cQ D cA A H0 xs WI WO Li Ki Ii Oi H locs L1 K1 I1 O1 → W p l e R s m args below meth c H locs (cells + 1) (slots + N) Q (F0 m (pc + 3) ls (.ref q :: rest))) : W p l e R s m args below meth c H locs cells slots Q (F0 m pc ls rest) := by
  obtain ⟨hP, hD, hS, hI, hF⟩ := hM
  refine va_new (cl := vwCl) (ci := ci) (fs := cfs ci (fun _ => 0) (fun _ => none)) E.1 E.2.1 E.2.2.1 hin ty hty E.2.2.2.1 (E.2.2.1 _ hcl) (E.2.2.1 _ hinst) (E.2.2.1 _ hini) E.2.2.2.2 hP hD hS hA hc hfs hcells hslots hdg (fun q H1 h1 h2 h3 => ?_)
  obtain ⟨hq, he⟩ := cw_new (κ := κ) h2 (by rw [hE])
  rw [he] at h1 h2
  exact kk q H1 _ _ _ _ hq rfl rfl rfl rfl (fun x hx => ⟨List.mem_append_left _ hx, va_up_ne _ _ (fun z => hq (z ▸ hx))⟩) (List.mem_append_right _ (List.mem_singleton.mpr rfl)) (va_up_self _ _ _) ⟨h1, h2, h3, hI.new hq hn hk2, hF.new hq⟩
end CR
