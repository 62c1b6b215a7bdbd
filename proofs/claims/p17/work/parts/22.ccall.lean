section CC
variable {p : Program} {l : Launch} {e : Env} {R : Room} {s : State} {m : MethodId} {args : Array Value} {below : List Frame} {meth : Method} {c : Code} {H : Heap} {locs : List Loc} {cells slots : Nat} {Q : State → Prop}
variable {cc : ByteArray} {pc : Nat} {ls : Array Slot} {rest : List Value}
variable {Ts : List Cond} {D : va_G} {cA : Nat → ClassId} {own : String} {A : Nat → Prop} {H0 : Heap} {xs : List Nat} {WI WO : List (Nat × Nat)} {Li : List Nat} {Ki : Nat → Nat} {Ii : Nat → Nat → Int32} {Oi : Nat → Nat → Option Nat} {L : List Nat} {K : Nat → Nat} {I : Nat → Nat → Int32} {O : Nat → Nat → Option Nat} {a κ : Nat} {ad av : Nat → Nat}
theorem cc_Vi {y : MethodName} {w : List Cond} {rm : Room} {bytes : ByteArray} {maxL nL n index mc ms : Nat} {ret : Option FieldType} {vs st0 : List Value} {b : Nat} {ys : List Nat} {WI1 WO1 : List (Nat × Nat)} {post : Int32 → List Nat → (Nat → Nat) → (Nat → Nat → Int32) → (Nat → Nat → Option Nat) → Prop} (E : cX p c cc s m args Ts D cA own) (hV : cV ad av A s s.heap) (hsS : H0 = s.heap) (hA : ∀ x, H0.size ≤ x → A x) (hml : c.maxLocals = nL) (hM : cQ D cA A H0 xs WI WO Li Ki Ii Oi H locs L K I O) (hb : b ∈ L) (hkb : K b = κ) {ci N : Nat} {C : String} {T : u_T} {fs : List Value} (hEb : cE cA κ (I b) (O b) = .inr (ci, fs)) (hc : vwCl[ci]? = some (C, T, N))
    (hC : Met l y w rm (cPre D cA ad av L K I O H.size (.ref b :: vs)) (cQi D cA L K I O H.size ys WI1 WO1 post) mc ms (va_A (cW cA L K I O) H.size)) (cw : CallW R s args own C index y bytes maxL ret w rm mc ms n) (hn : vs.length = n) (hsz : ls.size = nL) (hst : st0 = vs.reverse ++ .ref b :: rest) (hro : (rest.map fun v => v.category).sum ≤ 8) (hdg : decode cc pc = .ok (.invokevirtual index, 3)) (hf : cells + mc ≤ R.cells ∧ slots + ms ≤ R.slots) (a0 : ∀ y ∈ ys, y ∉ Li ∨ y ∈ xs) (a1 : ∀ k ∈ WI1, k ∈ WI) (a2 : ∀ k ∈ WO1, k ∈ WO)
    (kk : ∀ (r : Int32) (L1 : List Nat) (K1 : Nat → Nat) (I1 : Nat → Nat → Int32) (O1 : Nat → Nat → Option Nat) (H : Heap) (locs : List Loc), cFr ys WI1 WO1 L K I O L1 K1 I1 O1 → post r L1 K1 I1 O1 → cQ D cA A H0 xs WI WO Li Ki Ii Oi H locs L1 K1 I1 O1 → W p l e R s m args below meth c H locs (cells + mc) (slots + ms) Q (F0 m (pc + 3) ls (.int r :: rest))) : W p l e R s m args below meth c H locs cells slots Q (F0 m pc ls st0) := by
  obtain ⟨hP, hD, hS, hI, hF⟩ := hM
  have hFc : ∀ x, va_A (cW cA L K I O) H.size x → A x := fun x hx => by
    rcases hx with ⟨k, e, hx⟩ | hx
    · exact hD.2 k _ hx
    · exact hA x (Nat.le_trans hS.1 hx)
  refine va_calli (va_runV (As := vs) (rest := rest) (b := b) ⟨E.1, E.2.1, hml, E.2.2.2.1, E.2.2.1⟩ hC cw ⟨fun a U g mk z => ?_, ?_, fun U hU hW => ?_⟩ rfl hn hsz hst (lv_room hro) hdg hf) hS (fun x _ h => hFc x h) hFc (fun r u t H1 locs1 ht hvm hw hB hz1 hk1 hS1 => ?_)
  · obtain ⟨z0, z1, zP, zK, zD, zV⟩ := z
    exact ⟨z0, z1, zP, va_K.moved (u := U) (U := U.calling g mk a) (Vm.Alike.refl U.vm) zK, zD, zV.same rfl⟩
  · obtain ⟨j, hj⟩ := cw_at (cA := cA) (I := I) (O := O) hb hkb
    rw [hEb] at hj
    exact va_recv E.2.2.2.2 hP (ci := ci) (q0 := j) hc hj
  · exact ⟨rfl, by rw [hU], by rw [hU]; exact hP, va_K.moved hW.alike E.2.2.2.2, hD.weaken (fun _ _ _ _ => trivial), by
      rw [hU]
      exact hV.to hW (fun q h1 h2 => by rw [← hsS] at h1 ⊢; exact hS.2.1 q h1 h2) hFc⟩
  · obtain ⟨⟨hI1, hF1⟩, hp⟩ := hw
    obtain ⟨hP1, -, hD1⟩ := hB
    rw [ht] at hP1
    exact kk r u.1 u.2.1 u.2.2.1 u.2.2.2 H1 locs1 hF1 hp ⟨hP1, hD1.weaken (fun k x _ h => hFc x.1 h), hS1, hI1, hF.tr hF1 a0 a1 a2⟩
theorem cc_Vv {y : MethodName} {w : List Cond} {rm : Room} {bytes : ByteArray} {maxL nL n index mc ms : Nat} {ret : Option FieldType} {vs st0 : List Value} {b : Nat} {ys : List Nat} {WI1 WO1 : List (Nat × Nat)} {post : List Nat → (Nat → Nat) → (Nat → Nat → Int32) → (Nat → Nat → Option Nat) → Prop} (E : cX p c cc s m args Ts D cA own) (hV : cV ad av A s s.heap) (hsS : H0 = s.heap) (hA : ∀ x, H0.size ≤ x → A x) (hml : c.maxLocals = nL) (hM : cQ D cA A H0 xs WI WO Li Ki Ii Oi H locs L K I O) (hb : b ∈ L) (hkb : K b = κ) {ci N : Nat} {C : String} {T : u_T} {fs : List Value} (hEb : cE cA κ (I b) (O b) = .inr (ci, fs)) (hc : vwCl[ci]? = some (C, T, N))
    (hC : Met l y w rm (cPre D cA ad av L K I O H.size (.ref b :: vs)) (cQv D cA L K I O H.size ys WI1 WO1 post) mc ms (va_A (cW cA L K I O) H.size)) (cw : CallW R s args own C index y bytes maxL ret w rm mc ms n) (hn : vs.length = n) (hsz : ls.size = nL) (hst : st0 = vs.reverse ++ .ref b :: rest) (hro : (rest.map fun v => v.category).sum ≤ 8) (hdg : decode cc pc = .ok (.invokevirtual index, 3)) (hf : cells + mc ≤ R.cells ∧ slots + ms ≤ R.slots) (a0 : ∀ y ∈ ys, y ∉ Li ∨ y ∈ xs) (a1 : ∀ k ∈ WI1, k ∈ WI) (a2 : ∀ k ∈ WO1, k ∈ WO)
    (kk : ∀ (L1 : List Nat) (K1 : Nat → Nat) (I1 : Nat → Nat → Int32) (O1 : Nat → Nat → Option Nat) (H : Heap) (locs : List Loc), cFr ys WI1 WO1 L K I O L1 K1 I1 O1 → post L1 K1 I1 O1 → cQ D cA A H0 xs WI WO Li Ki Ii Oi H locs L1 K1 I1 O1 → W p l e R s m args below meth c H locs (cells + mc) (slots + ms) Q (F0 m (pc + 3) ls rest)) : W p l e R s m args below meth c H locs cells slots Q (F0 m pc ls st0) := by
  obtain ⟨hP, hD, hS, hI, hF⟩ := hM
  have hFc : ∀ x, va_A (cW cA L K I O) H.size x → A x := fun x hx => by
    rcases hx with ⟨k, e, hx⟩ | hx
    · exact hD.2 k _ hx
    · exact hA x (Nat.le_trans hS.1 hx)
  refine va_callv (va_runV (As := vs) (rest := rest) (b := b) ⟨E.1, E.2.1, hml, E.2.2.2.1, E.2.2.1⟩ hC cw ⟨fun a U g mk z => ?_, ?_, fun U hU hW => ?_⟩ rfl hn hsz hst (lv_room hro) hdg hf) hS (fun x _ h => hFc x h) hFc (fun u t H1 locs1 ht hvm hw hB hz1 hk1 hS1 => ?_)
  · obtain ⟨z0, z1, zP, zK, zD, zV⟩ := z
    exact ⟨z0, z1, zP, va_K.moved (u := U) (U := U.calling g mk a) (Vm.Alike.refl U.vm) zK, zD, zV.same rfl⟩
  · obtain ⟨j, hj⟩ := cw_at (cA := cA) (I := I) (O := O) hb hkb
    rw [hEb] at hj
    exact va_recv E.2.2.2.2 hP (ci := ci) (q0 := j) hc hj
  · exact ⟨rfl, by rw [hU], by rw [hU]; exact hP, va_K.moved hW.alike E.2.2.2.2, hD.weaken (fun _ _ _ _ => trivial), by
      rw [hU]
      exact hV.to hW (fun q h1 h2 => by rw [← hsS] at h1 ⊢; exact hS.2.1 q h1 h2) hFc⟩
  · obtain ⟨⟨hI1, hF1⟩, hp⟩ := hw
    obtain ⟨hP1, -, hD1⟩ := hB
    rw [ht] at hP1
    exact kk u.1 u.2.1 u.2.2.1 u.2.2.2 H1 locs1 hF1 hp ⟨hP1, hD1.weaken (fun k x _ h => hFc x.1 h), hS1, hI1, hF.tr hF1 a0 a1 a2⟩
theorem cc_Vq {y : MethodName} {w : List Cond} {rm : Room} {bytes : ByteArray} {maxL nL n index mc ms : Nat} {ret : Option FieldType} {vs st0 : List Value} {b : Nat} {ys : List Nat} {WI1 WO1 : List (Nat × Nat)} {post : Option Nat → List Nat → (Nat → Nat) → (Nat → Nat → Int32) → (Nat → Nat → Option Nat) → Prop} (E : cX p c cc s m args Ts D cA own) (hV : cV ad av A s s.heap) (hsS : H0 = s.heap) (hA : ∀ x, H0.size ≤ x → A x) (hml : c.maxLocals = nL) (hM : cQ D cA A H0 xs WI WO Li Ki Ii Oi H locs L K I O) (hb : b ∈ L) (hkb : K b = κ) {ci N : Nat} {C : String} {T : u_T} {fs : List Value} (hEb : cE cA κ (I b) (O b) = .inr (ci, fs)) (hc : vwCl[ci]? = some (C, T, N))
    (hC : Met l y w rm (cPre D cA ad av L K I O H.size (.ref b :: vs)) (cQq D cA L K I O H.size ys WI1 WO1 post) mc ms (va_A (cW cA L K I O) H.size)) (cw : CallW R s args own C index y bytes maxL ret w rm mc ms n) (hn : vs.length = n) (hsz : ls.size = nL) (hst : st0 = vs.reverse ++ .ref b :: rest) (hro : (rest.map fun v => v.category).sum ≤ 8) (hdg : decode cc pc = .ok (.invokevirtual index, 3)) (hf : cells + mc ≤ R.cells ∧ slots + ms ≤ R.slots) (a0 : ∀ y ∈ ys, y ∉ Li ∨ y ∈ xs) (a1 : ∀ k ∈ WI1, k ∈ WI) (a2 : ∀ k ∈ WO1, k ∈ WO)
    (kk : ∀ (r : Option Nat) (L1 : List Nat) (K1 : Nat → Nat) (I1 : Nat → Nat → Int32) (O1 : Nat → Nat → Option Nat) (H : Heap) (locs : List Loc), cFr ys WI1 WO1 L K I O L1 K1 I1 O1 → post r L1 K1 I1 O1 → cQ D cA A H0 xs WI WO Li Ki Ii Oi H locs L1 K1 I1 O1 → W p l e R s m args below meth c H locs (cells + mc) (slots + ms) Q (F0 m (pc + 3) ls (va_rf r :: rest))) : W p l e R s m args below meth c H locs cells slots Q (F0 m pc ls st0) := by
  obtain ⟨hP, hD, hS, hI, hF⟩ := hM
  have hFc : ∀ x, va_A (cW cA L K I O) H.size x → A x := fun x hx => by
    rcases hx with ⟨k, e, hx⟩ | hx
    · exact hD.2 k _ hx
    · exact hA x (Nat.le_trans hS.1 hx)
  refine va_callq (va_runV (As := vs) (rest := rest) (b := b) ⟨E.1, E.2.1, hml, E.2.2.2.1, E.2.2.1⟩ hC cw ⟨fun a U g mk z => ?_, ?_, fun U hU hW => ?_⟩ rfl hn hsz hst (lv_room hro) hdg hf) hS (fun x _ h => hFc x h) hFc (fun r u t H1 locs1 ht hvm hw hB hz1 hk1 hS1 => ?_)
  · obtain ⟨z0, z1, zP, zK, zD, zV⟩ := z
    exact ⟨z0, z1, zP, va_K.moved (u := U) (U := U.calling g mk a) (Vm.Alike.refl U.vm) zK, zD, zV.same rfl⟩
  · obtain ⟨j, hj⟩ := cw_at (cA := cA) (I := I) (O := O) hb hkb
    rw [hEb] at hj
    exact va_recv E.2.2.2.2 hP (ci := ci) (q0 := j) hc hj
  · exact ⟨rfl, by rw [hU], by rw [hU]; exact hP, va_K.moved hW.alike E.2.2.2.2, hD.weaken (fun _ _ _ _ => trivial), by
      rw [hU]
      exact hV.to hW (fun q h1 h2 => by rw [← hsS] at h1 ⊢; exact hS.2.1 q h1 h2) hFc⟩
  · obtain ⟨⟨hI1, hF1⟩, hp⟩ := hw
    obtain ⟨hP1, -, hD1⟩ := hB
    rw [ht] at hP1
    exact kk r u.1 u.2.1 u.2.2.1 u.2.2.2 H1 locs1 hF1 hp ⟨hP1, hD1.weaken (fun k x _ h => hFc x.1 h), hS1, hI1, hF.tr hF1 a0 a1 a2⟩
theorem cc_Iv {y : MethodName} {w : List Cond} {rm : Room} {bytes : ByteArray} {maxL nL n index mc ms : Nat} {ret : Option FieldType} {vs st0 : List Value} {b : Nat} {ys : List Nat} {WI1 WO1 : List (Nat × Nat)} {post : List Nat → (Nat → Nat) → (Nat → Nat → Int32) → (Nat → Nat → Option Nat) → Prop} (E : cX p c cc s m args Ts D cA own) (hV : cV ad av A s s.heap) (hsS : H0 = s.heap) (hA : ∀ x, H0.size ≤ x → A x) (hml : c.maxLocals = nL) (hM : cQ D cA A H0 xs WI WO Li Ki Ii Oi H locs L K I O)
    (hC : Met l y w rm (cPre D cA ad av L K I O H.size (.ref b :: vs)) (cQv D cA L K I O H.size ys WI1 WO1 post) mc ms (va_A (cW cA L K I O) H.size)) (cw : CallB R s args own index y bytes maxL none w rm mc ms n ∧ y.name = "<init>" ∧ (Cond.instanceMethod y).before args s = true) (hn : vs.length = n) (hsz : ls.size = nL) (hst : st0 = vs.reverse ++ .ref b :: rest) (hro : (rest.map fun v => v.category).sum ≤ 8) (hdg : decode cc pc = .ok (.invokespecial index, 3)) (hf : cells + mc ≤ R.cells ∧ slots + ms ≤ R.slots) (a0 : ∀ y ∈ ys, y ∉ Li ∨ y ∈ xs) (a1 : ∀ k ∈ WI1, k ∈ WI) (a2 : ∀ k ∈ WO1, k ∈ WO)
    (kk : ∀ (L1 : List Nat) (K1 : Nat → Nat) (I1 : Nat → Nat → Int32) (O1 : Nat → Nat → Option Nat) (H : Heap) (locs : List Loc), cFr ys WI1 WO1 L K I O L1 K1 I1 O1 → post L1 K1 I1 O1 → cQ D cA A H0 xs WI WO Li Ki Ii Oi H locs L1 K1 I1 O1 → W p l e R s m args below meth c H locs (cells + mc) (slots + ms) Q (F0 m (pc + 3) ls rest)) : W p l e R s m args below meth c H locs cells slots Q (F0 m pc ls st0) := by
  obtain ⟨hP, hD, hS, hI, hF⟩ := hM
  have hFc : ∀ x, va_A (cW cA L K I O) H.size x → A x := fun x hx => by
    rcases hx with ⟨k, e, hx⟩ | hx
    · exact hD.2 k _ hx
    · exact hA x (Nat.le_trans hS.1 hx)
  refine va_callv (va_runI (As := vs) (rest := rest) (b := b) ⟨E.1, E.2.1, hml, E.2.2.2.1, E.2.2.1⟩ hC cw ⟨fun a U g mk z => ?_, fun U hU hW => ?_⟩ rfl hn hsz hst (lv_room hro) hdg hf) hS (fun x _ h => hFc x h) hFc (fun u t H1 locs1 ht hvm hw hB hz1 hk1 hS1 => ?_)
  · obtain ⟨z0, z1, zP, zK, zD, zV⟩ := z
    exact ⟨z0, z1, zP, va_K.moved (u := U) (U := U.calling g mk a) (Vm.Alike.refl U.vm) zK, zD, zV.same rfl⟩
  · exact ⟨rfl, by rw [hU], by rw [hU]; exact hP, va_K.moved hW.alike E.2.2.2.2, hD.weaken (fun _ _ _ _ => trivial), by
      rw [hU]
      exact hV.to hW (fun q h1 h2 => by rw [← hsS] at h1 ⊢; exact hS.2.1 q h1 h2) hFc⟩
  · obtain ⟨⟨hI1, hF1⟩, hp⟩ := hw
    obtain ⟨hP1, -, hD1⟩ := hB
    rw [ht] at hP1
    exact kk u.1 u.2.1 u.2.2.1 u.2.2.2 H1 locs1 hF1 hp ⟨hP1, hD1.weaken (fun k x _ h => hFc x.1 h), hS1, hI1, hF.tr hF1 a0 a1 a2⟩
theorem cc_Si {y : MethodName} {w : List Cond} {rm : Room} {bytes : ByteArray} {maxL nL n index mc ms : Nat} {ret : Option FieldType} {vs st0 : List Value} {ys : List Nat} {WI1 WO1 : List (Nat × Nat)} {post : Int32 → List Nat → (Nat → Nat) → (Nat → Nat → Int32) → (Nat → Nat → Option Nat) → Prop} (E : cX p c cc s m args Ts D cA own) (hV : cV ad av A s s.heap) (hsS : H0 = s.heap) (hA : ∀ x, H0.size ≤ x → A x) (hml : c.maxLocals = nL) (hM : cQ D cA A H0 xs WI WO Li Ki Ii Oi H locs L K I O)
    (hC : Met l y w rm (cPre D cA ad av L K I O H.size (vs)) (cQi D cA L K I O H.size ys WI1 WO1 post) mc ms (va_A (cW cA L K I O) H.size)) (cw : CallB R s args own index y bytes maxL ret w rm mc ms n ∧ (Cond.static y).before args s = true) (hn : vs.length = n) (hsz : ls.size = nL) (hst : st0 = vs.reverse ++ rest) (hro : (rest.map fun v => v.category).sum ≤ 8) (hdg : decode cc pc = .ok (.invokestatic index, 3)) (hf : cells + mc ≤ R.cells ∧ slots + ms ≤ R.slots) (a0 : ∀ y ∈ ys, y ∉ Li ∨ y ∈ xs) (a1 : ∀ k ∈ WI1, k ∈ WI) (a2 : ∀ k ∈ WO1, k ∈ WO)
    (kk : ∀ (r : Int32) (L1 : List Nat) (K1 : Nat → Nat) (I1 : Nat → Nat → Int32) (O1 : Nat → Nat → Option Nat) (H : Heap) (locs : List Loc), cFr ys WI1 WO1 L K I O L1 K1 I1 O1 → post r L1 K1 I1 O1 → cQ D cA A H0 xs WI WO Li Ki Ii Oi H locs L1 K1 I1 O1 → W p l e R s m args below meth c H locs (cells + mc) (slots + ms) Q (F0 m (pc + 3) ls (.int r :: rest))) : W p l e R s m args below meth c H locs cells slots Q (F0 m pc ls st0) := by
  obtain ⟨hP, hD, hS, hI, hF⟩ := hM
  have hFc : ∀ x, va_A (cW cA L K I O) H.size x → A x := fun x hx => by
    rcases hx with ⟨k, e, hx⟩ | hx
    · exact hD.2 k _ hx
    · exact hA x (Nat.le_trans hS.1 hx)
  refine va_calli (va_runS (As := vs) (rest := rest) ⟨E.1, E.2.1, hml, E.2.2.2.1, E.2.2.1⟩ hC cw ⟨fun a U g mk z => ?_, fun U hU hW => ?_⟩ rfl hn hsz hst (lv_room hro) hdg hf) hS (fun x _ h => hFc x h) hFc (fun r u t H1 locs1 ht hvm hw hB hz1 hk1 hS1 => ?_)
  · obtain ⟨z0, z1, zP, zK, zD, zV⟩ := z
    exact ⟨z0, z1, zP, va_K.moved (u := U) (U := U.calling g mk a) (Vm.Alike.refl U.vm) zK, zD, zV.same rfl⟩
  · exact ⟨rfl, by rw [hU], by rw [hU]; exact hP, va_K.moved hW.alike E.2.2.2.2, hD.weaken (fun _ _ _ _ => trivial), by
      rw [hU]
      exact hV.to hW (fun q h1 h2 => by rw [← hsS] at h1 ⊢; exact hS.2.1 q h1 h2) hFc⟩
  · obtain ⟨⟨hI1, hF1⟩, hp⟩ := hw
    obtain ⟨hP1, -, hD1⟩ := hB
    rw [ht] at hP1
    exact kk r u.1 u.2.1 u.2.2.1 u.2.2.2 H1 locs1 hF1 hp ⟨hP1, hD1.weaken (fun k x _ h => hFc x.1 h), hS1, hI1, hF.tr hF1 a0 a1 a2⟩
theorem cc_Sv {y : MethodName} {w : List Cond} {rm : Room} {bytes : ByteArray} {maxL nL n index mc ms : Nat} {ret : Option FieldType} {vs st0 : List Value} {ys : List Nat} {WI1 WO1 : List (Nat × Nat)} {post : List Nat → (Nat → Nat) → (Nat → Nat → Int32) → (Nat → Nat → Option Nat) → Prop} (E : cX p c cc s m args Ts D cA own) (hV : cV ad av A s s.heap) (hsS : H0 = s.heap) (hA : ∀ x, H0.size ≤ x → A x) (hml : c.maxLocals = nL) (hM : cQ D cA A H0 xs WI WO Li Ki Ii Oi H locs L K I O)
    (hC : Met l y w rm (cPre D cA ad av L K I O H.size (vs)) (cQv D cA L K I O H.size ys WI1 WO1 post) mc ms (va_A (cW cA L K I O) H.size)) (cw : CallB R s args own index y bytes maxL ret w rm mc ms n ∧ (Cond.static y).before args s = true) (hn : vs.length = n) (hsz : ls.size = nL) (hst : st0 = vs.reverse ++ rest) (hro : (rest.map fun v => v.category).sum ≤ 8) (hdg : decode cc pc = .ok (.invokestatic index, 3)) (hf : cells + mc ≤ R.cells ∧ slots + ms ≤ R.slots) (a0 : ∀ y ∈ ys, y ∉ Li ∨ y ∈ xs) (a1 : ∀ k ∈ WI1, k ∈ WI) (a2 : ∀ k ∈ WO1, k ∈ WO)
    (kk : ∀ (L1 : List Nat) (K1 : Nat → Nat) (I1 : Nat → Nat → Int32) (O1 : Nat → Nat → Option Nat) (H : Heap) (locs : List Loc), cFr ys WI1 WO1 L K I O L1 K1 I1 O1 → post L1 K1 I1 O1 → cQ D cA A H0 xs WI WO Li Ki Ii Oi H locs L1 K1 I1 O1 → W p l e R s m args below meth c H locs (cells + mc) (slots + ms) Q (F0 m (pc + 3) ls rest)) : W p l e R s m args below meth c H locs cells slots Q (F0 m pc ls st0) := by
  obtain ⟨hP, hD, hS, hI, hF⟩ := hM
  have hFc : ∀ x, va_A (cW cA L K I O) H.size x → A x := fun x hx => by
    rcases hx with ⟨k, e, hx⟩ | hx
    · exact hD.2 k _ hx
    · exact hA x (Nat.le_trans hS.1 hx)
  refine va_callv (va_runS (As := vs) (rest := rest) ⟨E.1, E.2.1, hml, E.2.2.2.1, E.2.2.1⟩ hC cw ⟨fun a U g mk z => ?_, fun U hU hW => ?_⟩ rfl hn hsz hst (lv_room hro) hdg hf) hS (fun x _ h => hFc x h) hFc (fun u t H1 locs1 ht hvm hw hB hz1 hk1 hS1 => ?_)
  · obtain ⟨z0, z1, zP, zK, zD, zV⟩ := z
    exact ⟨z0, z1, zP, va_K.moved (u := U) (U := U.calling g mk a) (Vm.Alike.refl U.vm) zK, zD, zV.same rfl⟩
  · exact ⟨rfl, by rw [hU], by rw [hU]; exact hP, va_K.moved hW.alike E.2.2.2.2, hD.weaken (fun _ _ _ _ => trivial), by
      rw [hU]
      exact hV.to hW (fun q h1 h2 => by rw [← hsS] at h1 ⊢; exact hS.2.1 q h1 h2) hFc⟩
  · obtain ⟨⟨hI1, hF1⟩, hp⟩ := hw
    obtain ⟨hP1, -, hD1⟩ := hB
    rw [ht] at hP1
    exact kk u.1 u.2.1 u.2.2.1 u.2.2.2 H1 locs1 hF1 hp ⟨hP1, hD1.weaken (fun k x _ h => hFc x.1 h), hS1, hI1, hF.tr hF1 a0 a1 a2⟩
theorem cr_ri {post : Int32 → List Nat → (Nat → Nat) → (Nat → Nat → Int32) → (Nat → Nat → Option Nat) → Prop} {sz : Nat} {v : Int32} (E : cX p c cc s m args Ts D cA own) (hr : meth.sig.returnType = some .int) (hlocks : meth.locks = false) (hsz : s.heap.size = sz) (hM : cQ D cA (va_A (cW cA Li Ki Ii Oi) sz) s.heap xs WI WO Li Ki Ii Oi H locs L K I O) {mc ms : Nat} (hmc : cells ≤ mc ∧ slots ≤ ms) (hp : post v L K I O) (hdg : decode cc pc = .ok (.ireturn, 1)) : W p l e R s m args below meth c H locs cells slots (MQ below (cQi D cA Li Ki Ii Oi sz xs WI WO post) args s mc ms (va_A (cW cA Li Ki Ii Oi) sz)) (F0 m pc ls [.int v]) := by
  obtain ⟨hP, hD, hS, hI, hF⟩ := hM
  refine W.widen (k := mc) (n := ms) hmc.1 hmc.2 ?_
  exact W.iret (v := v) E.1 E.2.1 hr (fun t ht hW => ⟨⟨v, (L, K, I, O), rfl, ⟨⟨hI, hF⟩, hp⟩, by rw [ht]; exact hP, va_K.moved hW.alike E.2.2.2.2, hD⟩, hS.F ht⟩) hS.2.2 hdg
theorem cr_rz {post : Int32 → List Nat → (Nat → Nat) → (Nat → Nat → Int32) → (Nat → Nat → Option Nat) → Prop} {sz : Nat} {v : Int32} {X : Int} (E : cX p c cc s m args Ts D cA own) (hr : meth.sig.returnType = some .boolean) (hlocks : meth.locks = false) (hsz : s.heap.size = sz) (hM : cQ D cA (va_A (cW cA Li Ki Ii Oi) sz) s.heap xs WI WO Li Ki Ii Oi H locs L K I O) {mc ms : Nat} (hmc : cells ≤ mc ∧ slots ≤ ms) (hv : v.toInt = X) (hv2 : X = 0 ∨ X = 1) (hp : post v L K I O) (hdg : decode cc pc = .ok (.ireturn, 1)) : W p l e R s m args below meth c H locs cells slots (MQ below (cQi D cA Li Ki Ii Oi sz xs WI WO post) args s mc ms (va_A (cW cA Li Ki Ii Oi) sz)) (F0 m pc ls [.int v]) := by
  obtain ⟨hP, hD, hS, hI, hF⟩ := hM
  refine W.widen (k := mc) (n := ms) hmc.1 hmc.2 ?_
  have hn : narrow .boolean (.int v) = .int v := by
    rcases hv2 with h | h
    · have e : v = 0 := Int32.toInt_inj.mp (by rw [hv, h]; decide)
      subst e; rfl
    · have e : v = 1 := Int32.toInt_inj.mp (by rw [hv, h]; decide)
      subst e; rfl
  exact W.zret (v := v) (ty := .boolean) E.1 E.2.1 hr hn (fun t ht hW => ⟨⟨v, (L, K, I, O), rfl, ⟨⟨hI, hF⟩, hp⟩, by rw [ht]; exact hP, va_K.moved hW.alike E.2.2.2.2, hD⟩, hS.F ht⟩) hS.2.2 hdg
theorem cr_rv {post : List Nat → (Nat → Nat) → (Nat → Nat → Int32) → (Nat → Nat → Option Nat) → Prop} {sz : Nat} (E : cX p c cc s m args Ts D cA own) (hr : meth.sig.returnType = none) (hlocks : meth.locks = false) (hsz : s.heap.size = sz) (hM : cQ D cA (va_A (cW cA Li Ki Ii Oi) sz) s.heap xs WI WO Li Ki Ii Oi H locs L K I O) {mc ms : Nat} (hmc : cells ≤ mc ∧ slots ≤ ms) (hp : post L K I O) (hdg : decode cc pc = .ok (.return_, 1)) : W p l e R s m args below meth c H locs cells slots (MQ below (cQv D cA Li Ki Ii Oi sz xs WI WO post) args s mc ms (va_A (cW cA Li Ki Ii Oi) sz)) (F0 m pc ls []) := by
  obtain ⟨hP, hD, hS, hI, hF⟩ := hM
  refine W.widen (k := mc) (n := ms) hmc.1 hmc.2 ?_
  exact W.vret E.1 E.2.1 hr (fun t ht hW => ⟨⟨(L, K, I, O), rfl, ⟨⟨hI, hF⟩, hp⟩, by rw [ht]; exact hP, va_K.moved hW.alike E.2.2.2.2, hD⟩, hS.F ht⟩) hS.2.2 hdg
theorem cr_rq {post : Option Nat → List Nat → (Nat → Nat) → (Nat → Nat → Int32) → (Nat → Nat → Option Nat) → Prop} {sz : Nat} {v : Option Nat} {rt : FieldType} (E : cX p c cc s m args Ts D cA own) (hr : meth.sig.returnType = some rt) (hlocks : meth.locks = false) (hsz : s.heap.size = sz) (hM : cQ D cA (va_A (cW cA Li Ki Ii Oi) sz) s.heap xs WI WO Li Ki Ii Oi H locs L K I O) {mc ms : Nat} (hmc : cells ≤ mc ∧ slots ≤ ms) (hrt : (∃ n, rt = .object n) ∨ ∃ t, rt = .array t) (hp : post v L K I O) (hdg : decode cc pc = .ok (.areturn, 1)) : W p l e R s m args below meth c H locs cells slots (MQ below (cQq D cA Li Ki Ii Oi sz xs WI WO post) args s mc ms (va_A (cW cA Li Ki Ii Oi) sz)) (F0 m pc ls [va_rf v]) := by
  obtain ⟨hP, hD, hS, hI, hF⟩ := hM
  refine W.widen (k := mc) (n := ms) hmc.1 hmc.2 ?_
  exact W.aret (v := va_rf v) E.1 E.2.1 hr hrt (va_rf_or _) (fun t ht hW => ⟨⟨v, (L, K, I, O), rfl, ⟨⟨hI, hF⟩, hp⟩, by rw [ht]; exact hP, va_K.moved hW.alike E.2.2.2.2, hD⟩, hS.F ht⟩) hS.2.2 hdg
theorem cr_rn {post : Int32 → List Nat → (Nat → Nat) → (Nat → Nat → Int32) → (Nat → Nat → Option Nat) → Prop} {sz : Nat} {v : Int32} {ty : FieldType} (E : cX p c cc s m args Ts D cA own) (hr : meth.sig.returnType = some ty) (hlocks : meth.locks = false) (hsz : s.heap.size = sz) (hM : cQ D cA (va_A (cW cA Li Ki Ii Oi) sz) s.heap xs WI WO Li Ki Ii Oi H locs L K I O) {mc ms : Nat} (hmc : cells ≤ mc ∧ slots ≤ ms) (hn : narrow ty (.int v) = .int v) (hp : post v L K I O) (hdg : decode cc pc = .ok (.ireturn, 1)) : W p l e R s m args below meth c H locs cells slots (MQ below (cQi D cA Li Ki Ii Oi sz xs WI WO post) args s mc ms (va_A (cW cA Li Ki Ii Oi) sz)) (F0 m pc ls [.int v]) := by
  obtain ⟨hP, hD, hS, hI, hF⟩ := hM
  refine W.widen (k := mc) (n := ms) hmc.1 hmc.2 ?_
  exact W.zret (v := v) (ty := ty) E.1 E.2.1 hr hn (fun t ht hW => ⟨⟨v, (L, K, I, O), rfl, ⟨⟨hI, hF⟩, hp⟩, by rw [ht]; exact hP, va_K.moved hW.alike E.2.2.2.2, hD⟩, hS.F ht⟩) hS.2.2 hdg
theorem cr_newq {C : String} {index N t0 : Nat} (E : cX p c cc s m args Ts D cA own) (hover : va_AO C s) (hA : ∀ x, H0.size ≤ x → A x) (hM : cQ D cA A H0 xs WI WO Li Ki Ii Oi H locs L K I O) (hE : ∀ o, cE cA κ (fun _ => 0) o = .inl (cA κ, N, .inr (.inr (.inr (.inr o))))) (ht : (cT cA)[t0]? = some (cA κ, .object C)) (hcl : Cond.classLink own index C ∈ Ts) (hn : ∀ k, cnn κ k = false) (hk2 : κ ≠ 3 ∧ κ ≠ 5) {n : Int32} (hn0 : ¬ n < 0) (hN : n.toNatClampNeg = N) (hby : N * 4 ≤ 536870912) (hcells : cells + 1 ≤ R.cells) (hslots : slots + N ≤ R.slots) (hdg : decode cc pc = .ok (.anewarray index, 3))
    (kk : ∀ (q : Nat) (H : Heap) (L1 : List Nat) (K1 : Nat → Nat) (I1 : Nat → Nat → Int32) (O1 : Nat → Nat → Option Nat), q ∉ L → L1 = L ++ [q] → K1 = va_up K q κ → I1 = va_up I q (fun _ => 0) → O1 = va_up O q (fun _ => none) → (∀ x, x ∈ L → x ∈ L1 ∧ K1 x = K x) → q ∈ L1 → K1 q = κ → cQ D cA A H0 xs WI WO Li Ki Ii Oi H locs L1 K1 I1 O1 → W p l e R s m args below meth c H locs (cells + 1) (slots + N) Q (F0 m (pc + 3) ls (.ref q :: rest))) : W p l e R s m args below meth c H locs cells slots Q (F0 m pc ls (.int n :: rest)) := by
  obtain ⟨hP, hD, hS, hI, hF⟩ := hM
  refine va_newq (cl := vwCl) (N' := N) E.1 E.2.1 E.2.2.2.1 (E.2.2.1 _ hcl) hover E.2.2.2.2 hP hD hS hA hn0 hN hby hcells hslots hdg (fun q cB H1 hK1 h1 h2 h3 => ?_)
  have e1 : cB = cA κ := by
    have g1 := (hK1.2 (cT cA).length (cB, .object C) (by simp)).2
    have g2 := (E.2.2.2.2.2 t0 _ ht).2
    obtain ⟨_, _, _, _, _, f1⟩ := g1
    obtain ⟨_, _, _, _, _, f2⟩ := g2
    exact Option.some.inj (f1.symm.trans f2)
  subst e1
  obtain ⟨hq, he⟩ := cw_new (κ := κ) h2 (by rw [hE])
  rw [he] at h1 h2
  exact kk q H1 _ _ _ _ hq rfl rfl rfl rfl (fun x hx => ⟨List.mem_append_left _ hx, va_up_ne _ _ (fun z => hq (z ▸ hx))⟩) (List.mem_append_right _ (List.mem_singleton.mpr rfl)) (va_up_self _ _ _) ⟨h1, h2, h3, hI.new hq hn hk2, hF.new hq⟩
theorem cr_alen {t0 n : Nat} {cB : ClassId} {ty : FieldType} {z : vp_A} (E : cX p c cc s m args Ts D cA own) (hM : cQ D cA A H0 xs WI WO Li Ki Ii Oi H locs L K I O) (ha : a ∈ L) (hk : K a = κ) (hE : cE cA κ (I a) (O a) = .inl (cB, n, z.2)) (ht : (cT cA)[t0]? = some (cB, ty)) {v : Int32} (hv : Int32.ofNat n = v) (hz : z.2.isLeft = true) (hdg : decode cc pc = .ok (.arraylength, 1))
    (kk : W p l e R s m args below meth c H locs cells slots Q (F0 m (pc + 1) ls (.int v :: rest))) : W p l e R s m args below meth c H locs cells slots Q (F0 m pc ls (.ref a :: rest)) := by
  obtain ⟨j, hj⟩ := cw_at (cA := cA) (I := I) (O := O) ha hk
  rw [hE] at hj
  exact va_alen (v := v) E.1 E.2.1 E.2.2.2.2 hM.1 j t0 hj ht hv hdg kk
/-- a method of the class from its start -/
theorem cr_met {y : MethodName} {w w' : List Cond} {rm : Room} {maxL sz mc ms : Nat} {ret : Option FieldType} {vs : List Value} {Qc : Array Value → State → Outcome → State → Prop} (hy : plainName y.cls = true) (hw : w = Cond.code y cc maxL ret :: w') (hc : y.cls = own) (hlen : (lg_sl vs).length ≤ maxL) (hI : cI L K I O)
    (body : ∀ (p : Program) (e : Env) (s : State) (m : MethodId) (args : Array Value) (below : List Frame) (meth : Method) (c : Code) (ls : Array Slot), cX p c cc s m args w D cA own → cV ad av (va_A (cW cA L K I O) sz) s s.heap → c.maxLocals = maxL → meth.sig.returnType = ret → meth.locks = false → meth.name = y.name → s.heap.size = sz → (∀ x, s.heap.size ≤ x → va_A (cW cA L K I O) sz x) → cQ D cA (va_A (cW cA L K I O) sz) s.heap xs WI WO L K I O s.heap [] L K I O → lv_has ls maxL (lv_args 0 vs) → W p l e rm s m args below meth c s.heap [] 0 0 (MQ below Qc args s mc ms (va_A (cW cA L K I O) sz)) (F0 m 0 ls [])) :
    Met l y w rm (cPre D cA ad av L K I O sz vs) Qc mc ms (va_A (cW cA L K I O) sz) := by
  refine Met.ofW (cc := cc) (maxL := maxL) (ret := ret) hy hw ?_
  intro p e s m args below meth c s₁ B hml hv
  obtain ⟨rfl, hsz, hP, hK, hD0, hV⟩ := hv
  have hown : s.vm.findClass own = some m.cls := by rw [← hc]; exact findClass_of_methodNamed B.named
  have hl := lv_entry vs (n := maxL) hlen
  rw [lg_entry_eq]
  exact body p e s m _ below meth c _ ⟨B.exec, B.bytes, atoms_spec (ws := w) B.pre, hown, hK⟩ hV hml B.returns B.notSynchronized (name_of_methodNamed B.named B.method).1 hsz (fun x hx => Or.inr (by rw [← hsz]; exact hx)) ⟨hP, hD0.self, va_S.rf, hI, cFr.rf⟩ hl
end CC
