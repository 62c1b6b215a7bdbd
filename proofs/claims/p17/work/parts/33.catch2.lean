/-! a throw that passes the first row of the method's own table and is taken by the second -/
section CatchSecond
variable {p : Program} {l : Launch} {e : Env} {R : Room} {s : State} {m : MethodId} {args : Array Value} {below : List Frame} {meth : Method} {c : Code} {H : Heap} {locs : List Loc} {cells slots : Nat} {Q : State → Prop} {pc : Nat} {ls : Array Slot} {rest : List Value}
theorem ct_catch2 {own name1 name2 E : String} {ce : Cell} {q : Addr} (hown : s.vm.findClass own = some m.cls) (x y : ExceptionTableEntry) (suf : List ExceptionTableEntry) (hsplit : c.exceptionTable.toList = x :: y :: suf) (hx : covers x pc = true) (hy : covers y pc = true) (h0 : x.catchType ≠ 0) (h1 : y.catchType ≠ 0)
    (hlink1 : (Cond.classLink own x.catchType name1).before args s = true) (hlink2 : (Cond.classLink own y.catchType name2).before args s = true) (hnot : (Cond.castable E name1).before args s = false) (hcast : (Cond.castable E name2).before args s = true) (hcell : H[q]? = some ce) (hv : ce.vm = .none) (hcl : s.vm.findClass E = some ce.cls)
    (kk : W p l e R s m args below meth c H locs cells slots Q (F0 m y.handlerPc ls [.ref q])) : vx_W p l e R s m args below meth c H locs cells slots Q (F0 m pc ls rest) q := by
  intro T hT X
  have hpl : e.platform.magicAccessors = ({} : Platform).magicAccessors := by rw [X.admits.platform]
  obtain ⟨c3, c4, hc3, hc4, hasg⟩ := Cond.castable_spec hcast
  cases Option.some.inj (hc3.symm.trans hcl)
  obtain ⟨c6, hc6, hlk1⟩ := Cond.classLink_spec hown hlink1 e.platform hpl
  obtain ⟨c5, hc5, hlk2⟩ := Cond.classLink_spec hown hlink2 e.platform hpl
  cases Option.some.inj (hc4.symm.trans hc5)
  obtain ⟨k9, hk9, -⟩ := Vm.findClass_spec hcl
  obtain ⟨dk1, _, _, kt1, hd1, _, _, _, _, hkt1, _, hopen1⟩ := hlk1.here
  obtain ⟨dk, _, _, kt, hd, _, _, _, _, hkt, _, hopen⟩ := hlk2.here
  have hna : s.vm.assignable ce.cls c6 = false := by
    cases h : s.vm.assignable ce.cls c6 with
    | false => rfl
    | true =>
      exfalso
      have : (Cond.castable E name1).before args s = true := by
        simp [Cond.before, Cond.holds, Cond.value, hcl, hc6, h]
      rw [this] at hnot
      cases hnot
  have hW1 : s.WarmedH (T.vm.noted m.cls x.catchType (.cls c6)) := X.warmed.noted hd1 hopen1 (State.rightAt_cls hlk1)
  have hW' : s.WarmedH ((T.vm.noted m.cls x.catchType (.cls c6)).noted m.cls y.catchType (.cls c4)) := hW1.noted hd hopen (State.rightAt_cls hlk2)
  obtain ⟨t, a1, b1⟩ := kk (T.setVm ((T.vm.noted m.cls x.catchType (.cls c6)).noted m.cls y.catchType (.cls c4))) hT (X.noted hW')
  refine ⟨t, ?_, b1⟩
  have hal := X.warmed.alike
  have hal1 : T.vm.Alike (T.vm.noted m.cls x.catchType (.cls c6)) := (Vm.Alike.refl T.vm).noted _ _ _
  have hal2 : T.vm.Alike ((T.vm.noted m.cls x.catchType (.cls c6)).noted m.cls y.catchType (.cls c4)) := hal1.noted _ _ _
  have hfind : ∀ (Z : Handler → Pre) (Y : CtlPost) (d : Bool) (acts : List Action), wp (findHandler (F0 m pc ls rest) q) Z Y e d acts ((T.setTop (F0 m pc ls rest)).pushFrame (.throwing q)) ↔ Z (.found y.handlerPc) d acts (((T.setTop (F0 m pc ls rest)).pushFrame (.throwing q)).setVm ((T.vm.noted m.cls x.catchType (.cls c6)).noted m.cls y.catchType (.cls c4))) := by
    intro Z Y d acts
    rw [W.findHandler_eq (f := F0 m pc ls rest) (s := (T.setTop (F0 m pc ls rest)).pushFrame (.throwing q)) X.method' X.code, hsplit]
    have hx' := hx
    have hy' := hy
    simp only [covers] at hx' hy'
    obtain ⟨ha, hb⟩ := (resolveClass_links e.toSetting (X.warmed.classLinks hlk1)).op (op := VmOp.resolveClass m.cls x.catchType) rfl
    obtain ⟨ha2, hb2⟩ := (resolveClass_links e.toSetting (hW1.classLinks hlk2)).op (op := VmOp.resolveClass m.cls y.catchType) rfl
    obtain ⟨k1, hk1, -⟩ := hal.2.2 _ _ hk9
    obtain ⟨k2, hk2, -⟩ := hal.2.2 _ _ hkt1
    obtain ⟨k3, hk3, -⟩ := hal.2.2 _ _ hkt
    obtain ⟨k1', hk1', -⟩ := hal1.2.2 _ _ hk1
    obtain ⟨k2', hk2', -⟩ := hal1.2.2 _ _ hk2
    obtain ⟨k1'', hk1'', -⟩ := hal2.2.2 _ _ hk1
    obtain ⟨k3'', hk3'', -⟩ := hal2.2.2 _ _ hk3
    have hfit1 : (T.vm.noted m.cls x.catchType (.cls c6)).assignable ce.cls c6 = false := by rw [hal1.assignable, hal.assignable]; exact hna
    have hfit2 : ((T.vm.noted m.cls x.catchType (.cls c6)).noted m.cls y.catchType (.cls c4)).assignable ce.cls c4 = true := by rw [hal2.assignable, hal.assignable]; exact hasg
    have hcell' : ((T.setTop (F0 m pc ls rest)).pushFrame (.throwing q)).heap[q]? = some ce := by
      show T.heap[q]? = some ce
      rw [hT]; exact hcell
    have hobj : ∀ k, ce.vm ≠ .statics k := fun k h => by rw [hv] at h; cases h
    have hvm' : ((T.setTop (F0 m pc ls rest)).pushFrame (.throwing q)).vm = T.vm := rfl
    simp [findHandler.go, hx', hy', h0, h1, ha, hb, ha2, hb2, hcell', hobj, hk1', hk2', hk1'', hk3'', hfit1, hfit2, VmOp.dirties, VmOp.acts, hvm']
    exact Iff.rfl
  have hthr : (stepThrowing e ((T.setTop (F0 m pc ls rest)).pushFrame (.throwing q)) q (.java (F0 m pc ls rest) :: T.frames.tail)).Is ((((T.setTop (F0 m pc ls rest)).pushFrame (.throwing q)).setVm ((T.vm.noted m.cls x.catchType (.cls c6)).noted m.cls y.catchType (.cls c4))).setFrames (.java { F0 m pc ls rest with pc := y.handlerPc, stack := [.ref q] } :: T.frames.tail)) [] := by
    simp only [stepThrowing, searchFrame, vmDo]
    generalize hr : Sem.go _ e false [] _ = res
    obtain ⟨as, rfl, ha⟩ := Sem.eq_ok_of hr (a := Handler.found y.handlerPc) (s' := ((T.setTop (F0 m pc ls rest)).pushFrame (.throwing q)).setVm ((T.vm.noted m.cls x.catchType (.cls c6)).noted m.cls y.catchType (.cls c4))) (acts' := []) (by simp [hfind _ _ _ _])
    exact ⟨rfl, ha⟩
  obtain ⟨hgo, hw⟩ := X.here.throwing (g := F0 m pc ls rest) q
  refine Steps.head hgo hw ?_
  rw [stepThread_throwing (frames_entered X.here.top _), hthr.1]
  obtain ⟨g₀, hfr⟩ := X.frames_eq
  have hfr' : (T.setVm ((T.vm.noted m.cls x.catchType (.cls c6)).noted m.cls y.catchType (.cls c4))).frames = .java g₀ :: below := hfr
  rw [State.setTop_of_frames _ hfr'] at a1
  have e1 : ∀ (u : State) (v : Vm) (F G : List Frame), ((u.setFrames F).setVm v).setFrames G = (u.setVm v).setFrames G := fun u v F G => by
    have h1 : (u.setFrames F).setVm v = (u.setVm v).setFrames F := rfl
    rw [h1, State.setFrames_setFrames]
  rw [hfr, List.tail_cons, State.pushFrame, State.setTop_of_frames _ hfr, e1, e1]
  exact a1
end CatchSecond
