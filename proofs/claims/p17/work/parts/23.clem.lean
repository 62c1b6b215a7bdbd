section CL
variable {p : Program} {l : Launch} {e : Env} {R : Room} {s : State} {m : MethodId} {args : Array Value} {below : List Frame} {meth : Method} {c : Code} {H : Heap} {locs : List Loc} {cells slots : Nat} {Q : State → Prop}
variable {cc : ByteArray} {pc : Nat} {ls : Array Slot} {rest : List Value}
variable {Ts : List Cond} {D : va_G} {cA : Nat → ClassId} {own : String} {A : Nat → Prop} {H0 : Heap} {xs : List Nat} {WI WO : List (Nat × Nat)} {Li : List Nat} {Ki : Nat → Nat} {Ii : Nat → Nat → Int32} {Oi : Nat → Nat → Option Nat} {L : List Nat} {K : Nat → Nat} {I : Nat → Nat → Int32} {O : Nat → Nat → Option Nat} {a κ : Nat} {ad av : Nat → Nat}
theorem cz_nb {k : Nat} {v : Int32} (h : cib κ k = none) : ∀ b, cib κ k = some b → b.1 ≤ v.toInt ∧ v.toInt ≤ b.2 := fun b hb => by rw [h] at hb; cases hb
theorem cz_bd {k : Nat} {v : Int32} {X a b : Int} (h : cib κ k = some (a, b)) (hv : v.toInt = X) (h2 : a ≤ X ∧ X ≤ b) : ∀ b, cib κ k = some b → b.1 ≤ v.toInt ∧ v.toInt ≤ b.2 := fun b hb => by rw [h] at hb; cases hb; rw [hv]; exact h2
theorem cz_nar {v : Int32} {X : Int} (hv : v.toInt = X) (h : X = 0 ∨ X = 1) : narrow .boolean (.int v) = .int v ∧ fits .boolean (.int v) = true := by
  rcases h with h | h
  · have e : v = 0 := Int32.toInt_inj.mp (by rw [hv, h]; decide)
    subst e; exact ⟨rfl, rfl⟩
  · have e : v = 1 := Int32.toInt_inj.mp (by rw [hv, h]; decide)
    subst e; exact ⟨rfl, rfl⟩
theorem cS_upd {k : Nat} {i : Nat → Int32} {v : Int32} (h : cS L κ a i O) (h1 : κ = 3 → k ≠ 4) (h2 : κ = 5 → k ≠ 10) : cS L κ a (upd i k v) O := by
  obtain ⟨s1, s2, s3, s4⟩ := h
  refine ⟨s1, fun q b hb j hj => ?_, s3, fun q b hb j hj => ?_⟩
  · have e : (4 : Nat) ≠ k := fun z => h1 q z.symm
    simp only [upd, if_neg e] at hj
    exact s2 q b hb j hj
  · have e : (10 : Nat) ≠ k := fun z => h2 q z.symm
    simp only [upd, if_neg e] at hj
    exact s4 q b hb j hj
theorem cQ.spo (h : cQ D cA A H0 xs WI WO Li Ki Ii Oi H locs L K I O) (ha : a ∈ L) (hk : K a = κ) {k : Nat} {w : Option Nat} (h1 : κ ≠ 1) (h3 : κ = 3 → k ≠ 3) (h5 : κ = 5 → k ≠ 9) : cS L κ a (I a) (va_up O a (va_up (O a) k w)) := by
  obtain ⟨s1, s2, s3, s4⟩ := h.sp ha hk
  refine ⟨fun q => absurd q h1, fun q b hb j hj => ?_, s3, fun q b hb j hj => ?_⟩
  · have e : (3 : Nat) ≠ k := fun z => h3 q z.symm
    rw [va_up_self, va_up_ne _ _ e] at hb
    have hkb := (h.rt ha hk 3 (κ' := 15) (by rw [q]; rfl) hb).2
    have e2 : b ≠ a := fun z => by rw [z, hk, q] at hkb; cases hkb
    rw [va_up_ne _ _ e2]
    exact s2 q b hb j hj
  · have e : (9 : Nat) ≠ k := fun z => h5 q z.symm
    rw [va_up_self, va_up_ne _ _ e] at hb
    have hkb := (h.rt ha hk 9 (κ' := 12) (by rw [q]; rfl) hb).2
    have e2 : b ≠ a := fun z => by rw [z, hk, q] at hkb; cases hkb
    rw [va_up_ne _ _ e2]
    exact s4 q b hb j hj
theorem cS.raw {i : Nat → Int32} (h : 20 ≤ κ) : cS L κ a i O := ⟨fun q => by omega, fun q => by omega, fun _ => trivial, fun q => by omega⟩
theorem cS.k0 {i : Nat → Int32} (h : κ ≠ 1 ∧ κ ≠ 3 ∧ κ ≠ 5) : cS L κ a i O := ⟨fun q => absurd q h.1, fun q => absurd q h.2.1, fun _ => trivial, fun q => absurd q h.2.2⟩
/-- what a store leaves -/
theorem cu_k {I I1 : Nat → Nat → Int32} {a b k j : Nat} {v : Int32} (e : I1 = va_up I a (upd (I a) k v)) (h : j ≠ k) : I1 b j = I b j := by
  rw [e]
  by_cases q : b = a
  · subst q; rw [va_up_self]; simp only [upd, if_neg h]
  · rw [va_up_ne _ _ q]
theorem cu_a {α : Type} {I I1 : Nat → α} {a b : Nat} {v : α} (e : I1 = va_up I a v) (h : b ≠ a) : I1 b = I b := by rw [e, va_up_ne _ _ h]
theorem cu_s {I I1 : Nat → Nat → Int32} {a k : Nat} {v : Int32} (e : I1 = va_up I a (upd (I a) k v)) : I1 a k = v := by rw [e, va_up_self]; simp [upd]
theorem co_k {O O1 : Nat → Nat → Option Nat} {a b k j : Nat} {w : Option Nat} (e : O1 = va_up O a (va_up (O a) k w)) (h : j ≠ k) : O1 b j = O b j := by
  rw [e]
  by_cases q : b = a
  · subst q; rw [va_up_self, va_up_ne _ _ h]
  · rw [va_up_ne _ _ q]
theorem co_s {O O1 : Nat → Nat → Option Nat} {a k : Nat} {w : Option Nat} (e : O1 = va_up O a (va_up (O a) k w)) : O1 a k = w := by rw [e, va_up_self, va_up_self]
theorem cn_s {α : Type} {I I1 : Nat → Nat → α} {a k : Nat} {v : α} (e : I1 = va_up I a (fun _ => v)) : I1 a k = v := by rw [e, va_up_self]
theorem c_ne {K : Nat → Nat} {a b x y : Nat} (ha : K a = x) (hb : K b = y) (h : x ≠ y) : a ≠ b := fun q => h (by rw [← ha, ← hb, q])
theorem cQ.ret {κr : Nat} (h : cQ D cA A H0 xs WI WO Li Ki Ii Oi H locs L K I O) (ha : a ∈ L) (hr : K a = κr) (h20 : 20 ≤ κr) (hE : ∀ i o, cE cA κ i o = cE cA κr i o) (hb : ∀ k, cib κ k = cib κr k) (hc : ∀ k, crt κ k = crt κr k) (hn : ∀ k, cnn κ k = true → O a k ≠ none) (hs : cS L κ a (I a) O) (hx : a ∉ Li ∨ a ∈ xs) : cQ D cA A H0 xs WI WO Li Ki Ii Oi H locs L (va_up K a κ) I O := by
  obtain ⟨hP, hD, hS, hI, hF⟩ := h
  have e : cW cA L (va_up K a κ) I O = cW cA L K I O := va_pl_congr fun x => by
    by_cases q : x = a
    · subst q; rw [va_up_self, hE, hr]
    · rw [va_up_ne _ _ q]
  exact ⟨by rw [e]; exact hP, by rw [e]; exact hD, hS, hI.ret ha hr h20 hb hc hn hs, hF.ret hx⟩
theorem cc_Vip {y : MethodName} {w : List Cond} {rm : Room} {bytes : ByteArray} {maxL nL n index : Nat} {ret : Option FieldType} {vs st0 : List Value} {b : Nat} {post : Int32 → Prop} (E : cX p c cc s m args Ts D cA own) (hV : cV ad av A s s.heap) (hsS : H0 = s.heap) (hA : ∀ x, H0.size ≤ x → A x) (hml : c.maxLocals = nL) (hM : cQ D cA A H0 xs WI WO Li Ki Ii Oi H locs L K I O) (hb : b ∈ L) (hkb : K b = κ) {ci N : Nat} {C : String} {T : u_T} {fs : List Value} (hEb : cE cA κ (I b) (O b) = .inr (ci, fs)) (hc : vwCl[ci]? = some (C, T, N))
    (hC : Met l y w rm (cPre D cA ad av L K I O H.size (.ref b :: vs)) (cQi D cA L K I O H.size [] [] [] (fun r L' K' I' O' => (L' = L ∧ K' = K ∧ I' = I ∧ O' = O) ∧ post r )) 0 0 (va_A (cW cA L K I O) H.size)) (cw : CallW R s args own C index y bytes maxL ret w rm 0 0 n) (hn : vs.length = n) (hsz : ls.size = nL) (hst : st0 = vs.reverse ++ .ref b :: rest) (hro : (rest.map fun v => v.category).sum ≤ 8) (hdg : decode cc pc = .ok (.invokevirtual index, 3)) (hf : cells ≤ R.cells ∧ slots ≤ R.slots)
    (kk : ∀ (r : Int32) (H : Heap) (locs : List Loc), post r  → cQ D cA A H0 xs WI WO Li Ki Ii Oi H locs L K I O → W p l e R s m args below meth c H locs cells slots Q (F0 m (pc + 3) ls (.int r :: rest))) : W p l e R s m args below meth c H locs cells slots Q (F0 m pc ls st0) := by
  refine cc_Vi E hV hsS hA hml hM hb hkb hEb hc hC cw hn hsz hst hro hdg hf (fun _ h => by cases h) (fun _ h => by cases h) (fun _ h => by cases h) (fun r L1 K1 I1 O1 H locs h1 h2 h3 => ?_)
  obtain ⟨⟨e1, e2, e3, e4⟩, h2⟩ := h2
  rw [e1, e2, e3, e4] at h3
  exact kk r H locs h2 h3
theorem cc_Vqp {y : MethodName} {w : List Cond} {rm : Room} {bytes : ByteArray} {maxL nL n index : Nat} {ret : Option FieldType} {vs st0 : List Value} {b : Nat} {post : Option Nat → Prop} (E : cX p c cc s m args Ts D cA own) (hV : cV ad av A s s.heap) (hsS : H0 = s.heap) (hA : ∀ x, H0.size ≤ x → A x) (hml : c.maxLocals = nL) (hM : cQ D cA A H0 xs WI WO Li Ki Ii Oi H locs L K I O) (hb : b ∈ L) (hkb : K b = κ) {ci N : Nat} {C : String} {T : u_T} {fs : List Value} (hEb : cE cA κ (I b) (O b) = .inr (ci, fs)) (hc : vwCl[ci]? = some (C, T, N))
    (hC : Met l y w rm (cPre D cA ad av L K I O H.size (.ref b :: vs)) (cQq D cA L K I O H.size [] [] [] (fun r L' K' I' O' => (L' = L ∧ K' = K ∧ I' = I ∧ O' = O) ∧ post r )) 0 0 (va_A (cW cA L K I O) H.size)) (cw : CallW R s args own C index y bytes maxL ret w rm 0 0 n) (hn : vs.length = n) (hsz : ls.size = nL) (hst : st0 = vs.reverse ++ .ref b :: rest) (hro : (rest.map fun v => v.category).sum ≤ 8) (hdg : decode cc pc = .ok (.invokevirtual index, 3)) (hf : cells ≤ R.cells ∧ slots ≤ R.slots)
    (kk : ∀ (r : Option Nat) (H : Heap) (locs : List Loc), post r  → cQ D cA A H0 xs WI WO Li Ki Ii Oi H locs L K I O → W p l e R s m args below meth c H locs cells slots Q (F0 m (pc + 3) ls (va_rf r :: rest))) : W p l e R s m args below meth c H locs cells slots Q (F0 m pc ls st0) := by
  refine cc_Vq E hV hsS hA hml hM hb hkb hEb hc hC cw hn hsz hst hro hdg hf (fun _ h => by cases h) (fun _ h => by cases h) (fun _ h => by cases h) (fun r L1 K1 I1 O1 H locs h1 h2 h3 => ?_)
  obtain ⟨⟨e1, e2, e3, e4⟩, h2⟩ := h2
  rw [e1, e2, e3, e4] at h3
  exact kk r H locs h2 h3
theorem cc_Sip {y : MethodName} {w : List Cond} {rm : Room} {bytes : ByteArray} {maxL nL n index : Nat} {ret : Option FieldType} {vs st0 : List Value} {post : Int32 → Prop} (E : cX p c cc s m args Ts D cA own) (hV : cV ad av A s s.heap) (hsS : H0 = s.heap) (hA : ∀ x, H0.size ≤ x → A x) (hml : c.maxLocals = nL) (hM : cQ D cA A H0 xs WI WO Li Ki Ii Oi H locs L K I O)
    (hC : Met l y w rm (cPre D cA ad av L K I O H.size (vs)) (cQi D cA L K I O H.size [] [] [] (fun r L' K' I' O' => (L' = L ∧ K' = K ∧ I' = I ∧ O' = O) ∧ post r )) 0 0 (va_A (cW cA L K I O) H.size)) (cw : CallB R s args own index y bytes maxL ret w rm 0 0 n ∧ (Cond.static y).before args s = true) (hn : vs.length = n) (hsz : ls.size = nL) (hst : st0 = vs.reverse ++ rest) (hro : (rest.map fun v => v.category).sum ≤ 8) (hdg : decode cc pc = .ok (.invokestatic index, 3)) (hf : cells ≤ R.cells ∧ slots ≤ R.slots)
    (kk : ∀ (r : Int32) (H : Heap) (locs : List Loc), post r  → cQ D cA A H0 xs WI WO Li Ki Ii Oi H locs L K I O → W p l e R s m args below meth c H locs cells slots Q (F0 m (pc + 3) ls (.int r :: rest))) : W p l e R s m args below meth c H locs cells slots Q (F0 m pc ls st0) := by
  refine cc_Si E hV hsS hA hml hM hC cw hn hsz hst hro hdg hf (fun _ h => by cases h) (fun _ h => by cases h) (fun _ h => by cases h) (fun r L1 K1 I1 O1 H locs h1 h2 h3 => ?_)
  obtain ⟨⟨e1, e2, e3, e4⟩, h2⟩ := h2
  rw [e1, e2, e3, e4] at h3
  exact kk r H locs h2 h3
theorem cc_Svp {y : MethodName} {w : List Cond} {rm : Room} {bytes : ByteArray} {maxL nL n index : Nat} {ret : Option FieldType} {vs st0 : List Value} {post : Prop} (E : cX p c cc s m args Ts D cA own) (hV : cV ad av A s s.heap) (hsS : H0 = s.heap) (hA : ∀ x, H0.size ≤ x → A x) (hml : c.maxLocals = nL) (hM : cQ D cA A H0 xs WI WO Li Ki Ii Oi H locs L K I O)
    (hC : Met l y w rm (cPre D cA ad av L K I O H.size (vs)) (cQv D cA L K I O H.size [] [] [] (fun L' K' I' O' => (L' = L ∧ K' = K ∧ I' = I ∧ O' = O) ∧ post )) 0 0 (va_A (cW cA L K I O) H.size)) (cw : CallB R s args own index y bytes maxL ret w rm 0 0 n ∧ (Cond.static y).before args s = true) (hn : vs.length = n) (hsz : ls.size = nL) (hst : st0 = vs.reverse ++ rest) (hro : (rest.map fun v => v.category).sum ≤ 8) (hdg : decode cc pc = .ok (.invokestatic index, 3)) (hf : cells ≤ R.cells ∧ slots ≤ R.slots)
    (kk : ∀ (H : Heap) (locs : List Loc), post  → cQ D cA A H0 xs WI WO Li Ki Ii Oi H locs L K I O → W p l e R s m args below meth c H locs cells slots Q (F0 m (pc + 3) ls rest)) : W p l e R s m args below meth c H locs cells slots Q (F0 m pc ls st0) := by
  refine cc_Sv E hV hsS hA hml hM hC cw hn hsz hst hro hdg hf (fun _ h => by cases h) (fun _ h => by cases h) (fun _ h => by cases h) (fun L1 K1 I1 O1 H locs h1 h2 h3 => ?_)
  obtain ⟨⟨e1, e2, e3, e4⟩, h2⟩ := h2
  rw [e1, e2, e3, e4] at h3
  exact kk H locs h2 h3
theorem cc_Ji {y : MethodName} {w : List Cond} {rm : Room} {bytes : ByteArray} {maxL nL n index mc ms : Nat} {ret : Option FieldType} {vs st0 : List Value} {b : Nat} {ys : List Nat} {WI1 WO1 : List (Nat × Nat)} {post : Int32 → List Nat → (Nat → Nat) → (Nat → Nat → Int32) → (Nat → Nat → Option Nat) → Prop} (E : cX p c cc s m args Ts D cA own) (hV : cV ad av A s s.heap) (hsS : H0 = s.heap) (hA : ∀ x, H0.size ≤ x → A x) (hml : c.maxLocals = nL) (hM : cQ D cA A H0 xs WI WO Li Ki Ii Oi H locs L K I O) {C : String} (hrecv : ∃ cell : Cell, H[b]? = some cell ∧ cell.vm.isStatics = false ∧ s.vm.findClass C = some cell.cls)
    (hC : Met l y w rm (cPre D cA ad av L K I O H.size (.ref b :: vs)) (cQi D cA L K I O H.size ys WI1 WO1 post) mc ms (va_A (cW cA L K I O) H.size)) (cw : CallW R s args own C index y bytes maxL ret w rm mc ms n) (hn : vs.length = n) (hsz : ls.size = nL) (hst : st0 = vs.reverse ++ .ref b :: rest) (hro : (rest.map fun v => v.category).sum ≤ 8) (hdg : decode cc pc = .ok (.invokevirtual index, 3)) (hf : cells + mc ≤ R.cells ∧ slots + ms ≤ R.slots) (a0 : ∀ y ∈ ys, y ∉ Li ∨ y ∈ xs) (a1 : ∀ k ∈ WI1, k ∈ WI) (a2 : ∀ k ∈ WO1, k ∈ WO)
    (kk : ∀ (r : Int32) (L1 : List Nat) (K1 : Nat → Nat) (I1 : Nat → Nat → Int32) (O1 : Nat → Nat → Option Nat) (H : Heap) (locs : List Loc), cFr ys WI1 WO1 L K I O L1 K1 I1 O1 → post r L1 K1 I1 O1 → cQ D cA A H0 xs WI WO Li Ki Ii Oi H locs L1 K1 I1 O1 → W p l e R s m args below meth c H locs (cells + mc) (slots + ms) Q (F0 m (pc + 3) ls (.int r :: rest))) : W p l e R s m args below meth c H locs cells slots Q (F0 m pc ls st0) := by
  obtain ⟨hP, hD, hS, hI, hF⟩ := hM
  have hFc : ∀ x, va_A (cW cA L K I O) H.size x → A x := fun x hx => by
    rcases hx with ⟨k, e, hx⟩ | hx
    · exact hD.2 k _ hx
    · exact hA x (Nat.le_trans hS.1 hx)
  refine va_calli (va_runV (As := vs) (rest := rest) (b := b) ⟨E.1, E.2.1, hml, E.2.2.2.1, E.2.2.1⟩ hC cw ⟨fun a U g mk z => ?_, ?_, fun U hU hW => ?_⟩ rfl hn hsz hst (lv_room hro) hdg hf) hS (fun x _ h => hFc x h) hFc (fun r u t H1 locs1 ht hvm hw hB hz1 hk1 hS1 => ?_)
  · obtain ⟨z0, z1, zP, zK, zD, zV⟩ := z
    exact ⟨z0, z1, zP, va_K.moved (u := U) (U := U.calling g mk a) (Vm.Alike.refl U.vm) zK, zD, zV.same rfl⟩
  · exact hrecv
  · exact ⟨rfl, by rw [hU], by rw [hU]; exact hP, va_K.moved hW.alike E.2.2.2.2, hD.weaken (fun _ _ _ _ => trivial), by
      rw [hU]
      exact hV.to hW (fun q h1 h2 => by rw [← hsS] at h1 ⊢; exact hS.2.1 q h1 h2) hFc⟩
  · obtain ⟨⟨hI1, hF1⟩, hp⟩ := hw
    obtain ⟨hP1, -, hD1⟩ := hB
    rw [ht] at hP1
    exact kk r u.1 u.2.1 u.2.2.1 u.2.2.2 H1 locs1 hF1 hp ⟨hP1, hD1.weaken (fun k x _ h => hFc x.1 h), hS1, hI1, hF.tr hF1 a0 a1 a2⟩
theorem cc_Jip {y : MethodName} {w : List Cond} {rm : Room} {bytes : ByteArray} {maxL nL n index : Nat} {ret : Option FieldType} {vs st0 : List Value} {b : Nat} {post : Int32 → Prop} (E : cX p c cc s m args Ts D cA own) (hV : cV ad av A s s.heap) (hsS : H0 = s.heap) (hA : ∀ x, H0.size ≤ x → A x) (hml : c.maxLocals = nL) (hM : cQ D cA A H0 xs WI WO Li Ki Ii Oi H locs L K I O) {C : String} (hrecv : ∃ cell : Cell, H[b]? = some cell ∧ cell.vm.isStatics = false ∧ s.vm.findClass C = some cell.cls)
    (hC : Met l y w rm (cPre D cA ad av L K I O H.size (.ref b :: vs)) (cQi D cA L K I O H.size [] [] [] (fun r L' K' I' O' => (L' = L ∧ K' = K ∧ I' = I ∧ O' = O) ∧ post r )) 0 0 (va_A (cW cA L K I O) H.size)) (cw : CallW R s args own C index y bytes maxL ret w rm 0 0 n) (hn : vs.length = n) (hsz : ls.size = nL) (hst : st0 = vs.reverse ++ .ref b :: rest) (hro : (rest.map fun v => v.category).sum ≤ 8) (hdg : decode cc pc = .ok (.invokevirtual index, 3)) (hf : cells ≤ R.cells ∧ slots ≤ R.slots)
    (kk : ∀ (r : Int32) (H : Heap) (locs : List Loc), post r  → cQ D cA A H0 xs WI WO Li Ki Ii Oi H locs L K I O → W p l e R s m args below meth c H locs cells slots Q (F0 m (pc + 3) ls (.int r :: rest))) : W p l e R s m args below meth c H locs cells slots Q (F0 m pc ls st0) := by
  refine cc_Ji E hV hsS hA hml hM hrecv hC cw hn hsz hst hro hdg hf (fun _ h => by cases h) (fun _ h => by cases h) (fun _ h => by cases h) (fun r L1 K1 I1 O1 H locs h1 h2 h3 => ?_)
  obtain ⟨⟨e1, e2, e3, e4⟩, h2⟩ := h2
  rw [e1, e2, e3, e4] at h3
  exact kk r H locs h2 h3
theorem mm_min (hexec : p.tables.exec = Jvm.exec) (hb : c.code = cc) (hml : c.maxLocals = ls.size) {own : String} {index : Nat} (hown : s.vm.findClass own = some m.cls) (hlink : (Cond.methodLink own index Lib.Math.min.name).before args s = true) (hstat : (Cond.static Lib.Math.min.name).before args s = true) (hini : (Cond.initialized "java/lang/Math").before args s = true) (hcode : (Cond.code Lib.Math.min.name Lib.Math.min.code 2 (some .int)).before args s = true)
    (hframes : 1 ≤ R.frames) (hlocals : (rest.map fun v => v.category).sum + 13 ≤ R.locals) (hc : cells ≤ R.cells) (hs : slots ≤ R.slots) {x y : Int32} {X Y : Int} (hx : x.toInt = X) (hy : y.toInt = Y) (hdg : decode cc pc = .ok (.invokestatic index, 3))
    (kk : ∀ z : Int32, ((z.toInt = X ∨ z.toInt = Y) ∧ z.toInt ≤ X ∧ z.toInt ≤ Y) → W p l e R s m args below meth c H locs cells slots Q (F0 m (pc + 3) ls (.int z :: rest))) : W p l e R s m args below meth c H locs cells slots Q (F0 m pc ls (.int y :: .int x :: rest)) := by
  refine va_mmin hexec hb hml hown hlink hstat hini hcode hframes hlocals hc hs hdg (kk _ ?_)
  split
  · rename_i h
    have := (mm_lt hy hx).mp h
    omega
  · rename_i h
    have hh : ¬ (Y < X) := fun q => h ((mm_lt hy hx).mpr q)
    omega
theorem mm_max (hexec : p.tables.exec = Jvm.exec) (hb : c.code = cc) (hml : c.maxLocals = ls.size) {own : String} {index : Nat} (hown : s.vm.findClass own = some m.cls) (hlink : (Cond.methodLink own index Lib.Math.max.name).before args s = true) (hstat : (Cond.static Lib.Math.max.name).before args s = true) (hini : (Cond.initialized "java/lang/Math").before args s = true) (hcode : (Cond.code Lib.Math.max.name Lib.Math.max.code 2 (some .int)).before args s = true)
    (hframes : 1 ≤ R.frames) (hlocals : (rest.map fun v => v.category).sum + 13 ≤ R.locals) (hc : cells ≤ R.cells) (hs : slots ≤ R.slots) {x y : Int32} {X Y : Int} (hx : x.toInt = X) (hy : y.toInt = Y) (hdg : decode cc pc = .ok (.invokestatic index, 3))
    (kk : ∀ z : Int32, ((z.toInt = X ∨ z.toInt = Y) ∧ X ≤ z.toInt ∧ Y ≤ z.toInt) → W p l e R s m args below meth c H locs cells slots Q (F0 m (pc + 3) ls (.int z :: rest))) : W p l e R s m args below meth c H locs cells slots Q (F0 m pc ls (.int y :: .int x :: rest)) := by
  refine va_mmax hexec hb hml hown hlink hstat hini hcode hframes hlocals hc hs hdg (kk _ ?_)
  split
  · rename_i h
    have := (mm_lt hx hy).mp h
    omega
  · rename_i h
    have hh : ¬ (X < Y) := fun q => h ((mm_lt hx hy).mpr q)
    omega
theorem cr_aalds {t0 n x : Nat} {cB : ClassId} {C : String} (E : cX p c cc s m args Ts D cA own) (hM : cQ D cA A H0 xs WI WO Li Ki Ii Oi H locs L K I O) (ha : a ∈ L) (hk : K a = κ) (hE : ∀ i o, cE cA κ i o = .inl (cB, n, .inr (.inr (.inr (.inr o))))) (ht : (cT cA)[t0]? = some (cB, .object C)) {i : Int32} {X : Int} (hi : i.toInt = X) (hin : 0 ≤ X ∧ X < n) (ho : O a i.toNatClampNeg = some x) (hdg : decode cc pc = .ok (.aaload, 1))
    (kk : W p l e R s m args below meth c H locs cells slots Q (F0 m (pc + 1) ls (.ref x :: rest))) : W p l e R s m args below meth c H locs cells slots Q (F0 m pc ls (.int i :: .ref a :: rest)) := cr_aald E hM ha hk hE ht hi hin hdg (by rw [ho]; exact kk)
theorem cr_aaldn {t0 n : Nat} {cB : ClassId} {C : String} (E : cX p c cc s m args Ts D cA own) (hM : cQ D cA A H0 xs WI WO Li Ki Ii Oi H locs L K I O) (ha : a ∈ L) (hk : K a = κ) (hE : ∀ i o, cE cA κ i o = .inl (cB, n, .inr (.inr (.inr (.inr o))))) (ht : (cT cA)[t0]? = some (cB, .object C)) {i : Int32} {X : Int} (hi : i.toInt = X) (hin : 0 ≤ X ∧ X < n) (ho : O a i.toNatClampNeg = none) (hdg : decode cc pc = .ok (.aaload, 1))
    (kk : W p l e R s m args below meth c H locs cells slots Q (F0 m (pc + 1) ls (.null :: rest))) : W p l e R s m args below meth c H locs cells slots Q (F0 m pc ls (.int i :: .ref a :: rest)) := cr_aald E hM ha hk hE ht hi hin hdg (by rw [ho]; exact kk)
theorem mm_ishr0 (hexec : p.tables.exec = Jvm.exec) (hb : c.code = cc) {x y : Int32} (hdg : decode cc pc = .ok (.ishr, 1)) (hy : y.toInt = 0)
    (k : W p l e R s m args below meth c H locs cells slots Q (F0 m (pc + 1) ls (.int x :: rest))) : W p l e R s m args below meth c H locs cells slots Q (F0 m pc ls (.int y :: .int x :: rest)) := by
  have e : y = 0 := Int32.toInt_inj.mp (by rw [hy]; decide)
  subst e
  refine lv_ishr hexec hb hdg ?_
  have e2 : ∀ z : Int32, z = x → W p l e R s m args below meth c H locs cells slots Q (F0 m (pc + 1) ls (.int z :: rest)) := fun z hz => by rw [hz]; exact k
  apply e2
  apply Int32.toBitVec_inj.mp
  simp
theorem c_len {i : Nat} (h : i < 11) : (Int32.ofNat (cln.getD i 0)).toInt = (cln.getD i 0 : Int) ∧ cln.getD i 0 ≤ 6 := by
  have all : ∀ i : Fin 11, (Int32.ofNat (cln.getD i.val 0)).toInt = (cln.getD i.val 0 : Int) ∧ cln.getD i.val 0 ≤ 6 := by decide
  exact all ⟨i, h⟩
def cmw (L : List Nat) (w : Option Nat) : Int := match w with
  | none => 0
  | some b => (crk L b : Int) + 1
theorem c_mw0 (L : List Nat) (w : Option Nat) : 0 ≤ cmw L w := by
  cases w with
  | none => exact Int.le_refl 0
  | some b => show 0 ≤ (crk L b : Int) + 1; omega
theorem c_nn {o : Option Nat} (h : o ≠ none) : ∃ x, o = some x := by
  cases o with
  | none => exact absurd rfl h
  | some x => exact ⟨x, rfl⟩
end CL
