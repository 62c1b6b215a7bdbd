/-- what a throw of the class asks of the launch: the text's constant, the exception's own words, the statics that Throwable reads -/
def lkE (sa : Nat) (A : Nat → Prop) (U : State) : Prop := vk_R RX5 136 "no such race" sa U ∧ va_Nw (.castable "java/lang/IndexOutOfBoundsException" "java/lang/IndexOutOfBoundsException") U ∧ va_Nw (.declares (Bundle.initS "java/lang/RuntimeException")) U ∧ va_Nw (.declares (Bundle.initS "java/lang/Exception")) U ∧ va_Nw (.declares (Bundle.initS Bundle.tN)) U ∧ vx_Zq Bundle.tN "UNASSIGNED_STACK" Bundle.steD A U U.heap ∧ vx_Zq Bundle.tN "SUPPRESSED_SENTINEL" Bundle.listD A U U.heap
theorem lkE_call {sa : Nat} {A : Nat → Prop} {U : State} {g : JFrame} {mk : MethodId} {a : Array Value} (h : lkE sa A U) : lkE sa A (U.calling g mk a) := ⟨vk_R.same (u := U) rfl h.1, va_Nw.same (u := U) rfl rfl h.2.1, va_Nw.same (u := U) rfl rfl h.2.2.1, va_Nw.same (u := U) rfl rfl h.2.2.2.1, va_Nw.same (u := U) rfl rfl h.2.2.2.2.1, vx_Zq.moved (u := U) (U := U.calling g mk a) (Vm.Alike.refl U.vm) h.2.2.2.2.2.1, vx_Zq.moved (u := U) (U := U.calling g mk a) (Vm.Alike.refl U.vm) h.2.2.2.2.2.2⟩
theorem lkE_at {sa : Nat} {A0 A1 : Nat → Prop} {s U : State} {H : Heap} {locs : List Loc} (hW : s.WarmedH U.vm) (hU : U.heap = H) (hS : va_S A0 s.heap H locs) (hn : ∀ q, A1 q → A0 q) (h : lkE sa A0 s) : lkE sa A1 U := ⟨vk_R.warm hW h.1, va_Nw.warmC hW h.2.1, va_Nw.warmD hW h.2.2.1, va_Nw.warmD hW h.2.2.2.1, va_Nw.warmD hW h.2.2.2.2.1, by rw [hU]; exact vx_Zq.moved hW.alike ((h.2.2.2.2.2.1.kept (fun a h1 h2 => hS.2.1 a h1 h2)).narrow hn), by rw [hU]; exact vx_Zq.moved hW.alike ((h.2.2.2.2.2.2.kept (fun a h1 h2 => hS.2.1 a h1 h2)).narrow hn)⟩
def wX5_look : List Cond := .code yX5_look cX5_look 4 (some .int) :: ([.classLink RX5 134 "java/lang/IndexOutOfBoundsException", .initialized "java/lang/IndexOutOfBoundsException", .methodLink RX5 83 yX5_raceAt, .instanceMethod yX5_raceAt, .selects RX5 yX5_raceAt yX5_raceAt, .initialized RX5, .code yX5_raceAt cX5_raceAt 2 (some (.object "SkiShots$Race")), .fieldLink RX5 80 "SkiShots" "raceCount" "I"] ++ (vx_atS RX5 138 "java/lang/IndexOutOfBoundsException" ["java/lang/RuntimeException", "java/lang/Exception"]).filter goodWord ++ wsX50)
set_option maxRecDepth 20000 in
theorem gX5_look_c_X5_raceAt_2 : GoodIn wX5_look (wsV RX5 83 RX5 yX5_raceAt wX5_raceAt) := goodIn_p _ [7] rfl (by decide +kernel)
set_option maxHeartbeats 4000000 in
set_option maxRecDepth 100000 in
theorem c_X5_look (l : Launch) (hst : l.stackTraces = false) (dC : Nat → ClassId) (dI : Nat → Nat → Nat) (h0 qT qF qN qR qC sa : Nat) (p0 p1 : Int32) (sz : Nat) : vx_Met l yX5_look wX5_look ({ frames := 6, cells := 1, slots := 6, locals := 82 }) (va_Pc [.ref h0, .int p0, .int p1] (fun U => U.heap.size = sz ∧ va_P (dC, dI) vwCl [(h0, .inr (5, [.ref qT, .int 0, .ref qF, .int 0, .int 0, .int ((-1)), .int 0, .ref qN, .int 0, .ref qR, .int 0, .int 0, .ref qC]))] U.heap ∧ va_K (dC, dI) vwCl [] U ∧ va_D (fun _ => True) [(h0, .inr (5, [.ref qT, .int 0, .ref qF, .int 0, .int 0, .int ((-1)), .int 0, .ref qN, .int 0, .ref qR, .int 0, .int 0, .ref qC]))] ∧ lkE sa (va_A [(h0, .inr (5, [.ref qT, .int 0, .ref qF, .int 0, .int 0, .int ((-1)), .int 0, .ref qN, .int 0, .ref qR, .int 0, .int 0, .ref qC]))] sz) U)) (va_Qi (fun (_ : Int32) (_ : Unit) => False) (fun _ _ => True) (va_A [(h0, .inr (5, [.ref qT, .int 0, .ref qF, .int 0, .int 0, .int ((-1)), .int 0, .ref qN, .int 0, .ref qR, .int 0, .int 0, .ref qC]))] sz)) (vx_X (fun (_ : Unit) => True) (fun E _ _ => E = "java/lang/IndexOutOfBoundsException") (va_A [(h0, .inr (5, [.ref qT, .int 0, .ref qF, .int 0, .int 0, .int ((-1)), .int 0, .ref qN, .int 0, .ref qR, .int 0, .int 0, .ref qC]))] sz)) 1 6 (va_A [(h0, .inr (5, [.ref qT, .int 0, .ref qF, .int 0, .int 0, .int ((-1)), .int 0, .ref qN, .int 0, .ref qR, .int 0, .int 0, .ref qC]))] sz) := by
  refine vx_ofW (cc := cX5_look) (maxL := 4) (ret := (some .int)) (by decide) rfl ?_
  intro p e s m args below meth c s₁ B hml hnt hv
  obtain ⟨rfl, hsz, hP, hK, hD0, hE⟩ := hv
  have hx := B.exec
  have hb := B.bytes
  have hr := B.returns
  have hts := atoms_spec (ws := wX5_look) B.pre
  have hown : s.vm.findClass RX5 = some m.cls := findClass_of_methodNamed B.named
  have hlocks := B.notSynchronized
  have hin5 : ∀ w ∈ wsX50, w ∈ wX5_look := fun w h => List.mem_cons_of_mem _ (List.mem_append_right _ h)
  subst hsz
  have hD := hD0.self (sz := s.heap.size)
  generalize hAe : va_A [(h0, .inr (5, [.ref qT, .int 0, .ref qF, .int 0, .int 0, .int ((-1)), .int 0, .ref qN, .int 0, .ref qR, .int 0, .int 0, .ref qC]))] s.heap.size = A at hD hE ⊢
  have hA : ∀ q : Nat, s.heap.size ≤ q → A q := fun q h => by rw [← hAe]; exact Or.inr h
  have hS : va_S A s.heap s.heap [] := va_S.rf
  have hP : va_P (dC, dI) vwCl [(h0, .inr (5, [.ref qT, .int 0, .ref qF, .int 0, .int 0, .int ((-1)), .int 0, .ref qN, .int 0, .ref qR, .int 0, .int 0, .ref qC]))] s.heap := hP
  have hl := lv_entry ([.ref h0, .int p0, .int p1]) (n := 4) (Nat.le_of_ble_eq_true rfl)
  rw [lg_entry_eq]
  generalize (lg_sl ([.ref h0, .int p0, .int p1]) ++ List.replicate (4 - (lg_sl ([.ref h0, .int p0, .int p1])).length) Slot.unset).toArray = ls at hl ⊢
  have hl : lv_has ls 4 [(0, .ref h0), (1, .int p0), (2, .int p1)] := hl
  refine lv_aload_n hx hb dX5_look_0 rfl (lv_at hl 0 rfl) ?_
  refine lv_iload_n hx hb dX5_look_1 rfl (lv_at hl 1 rfl) ?_
  have hPc := hP.sub (ws' := [(h0, .inr (5, [.ref qT, .int 0, .ref qF, .int 0, .int 0, .int ((-1)), .int 0, .ref qN, .int 0, .ref qR, .int 0, .int 0, .ref qC]))]) [0] rfl
  have hDc := hD.sub (ws' := [(h0, .inr (5, [.ref qT, .int 0, .ref qF, .int 0, .int 0, .int ((-1)), .int 0, .ref qN, .int 0, .ref qR, .int 0, .int 0, .ref qC]))]) [0] (by decide) rfl
  have hKc := hK.sub (tys' := []) [] rfl
  have hFc := va_free (wc := [(h0, .inr (5, [.ref qT, .int 0, .ref qF, .int 0, .int 0, .int ((-1)), .int 0, .ref qN, .int 0, .ref qR, .int 0, .int 0, .ref qC]))]) hD hS hA [0] rfl
  refine va_callq (va_runV (As := [.int p0]) (rest := []) ⟨hx, hb, hml, hown, hts⟩ (c_X5_raceAt l dC dI h0 qT qF qN qR qC p0 s.heap.size) (cwV 1 hts gX5_look_c_X5_raceAt_2 rfl rfl rfl (by decide +kernel) ⟨Nat.le_of_ble_eq_true rfl, Nat.le_of_ble_eq_true rfl⟩) ⟨fun a U g mk q => by obtain ⟨q0, q1, qP, qK, qD⟩ := q; exact ⟨q0, q1, qP, va_K.moved (u := U) (U := U.calling g mk a) (Vm.Alike.refl U.vm) qK, qD⟩, va_recv hKc hPc (ci := 5) (q0 := 0) rfl rfl, fun U hU hW => ⟨rfl, by rw [hU], by rw [hU]; exact hPc, va_K.moved hW.alike hKc, hDc.weaken (fun _ _ _ _ => trivial)⟩⟩ rfl rfl hl.1 rfl (lv_room (Nat.le_of_ble_eq_true rfl)) dX5_look_2 ⟨show (0 + 0 : Nat) ≤ 1 from by omega, show (0 + 0 : Nat) ≤ 6 from by omega⟩) hS (fun q _ h => hFc q h) hFc (fun r_1 u t H1 locs ht hvm hw hB hz1 hk1 hS => ?_)
  obtain ⟨hP1, hK1, hD1⟩ := hB
  rw [ht] at hP1
  have hK1 := va_K.moved hvm.symm hK1
  try dsimp only at hw
  obtain ⟨hP, hD⟩ := va_join (wr := []) (w1 := [(h0, .inr (5, [.ref qT, .int 0, .ref qF, .int 0, .int 0, .int ((-1)), .int 0, .ref qN, .int 0, .ref qR, .int 0, .int 0, .ref qC]))]) hP hD [0] [] rfl rfl (by decide) (by decide) hk1 hFc hP1 hD1
  generalize H1 = H at hP hS ⊢
  have hP : va_P (dC, dI) vwCl [(h0, .inr (5, [.ref qT, .int 0, .ref qF, .int 0, .int 0, .int ((-1)), .int 0, .ref qN, .int 0, .ref qR, .int 0, .int 0, .ref qC]))] H := hP
  have hD : va_D A [(h0, .inr (5, [.ref qT, .int 0, .ref qF, .int 0, .int 0, .int ((-1)), .int 0, .ref qN, .int 0, .ref qR, .int 0, .int 0, .ref qC]))] := hD
  have hw_3 := hw
  subst hw_3
  show W _ _ _ _ _ _ _ _ _ _ _ _ _ _ _ (F0 m 5 ls [.null])
  refine lv_astore_nN (lv' := [(3, .null), (0, .ref h0), (1, .int p0), (2, .int p1)]) hx hb dX5_look_5 rfl hl (by decide) rfl (fun ls hl => ?_)
  refine lv_aload_nN hx hb dX5_look_6 rfl (lv_at hl 0 rfl) ?_
  refine lv_ifnonnullN hx hb dX5_look_7 ?_
  have hat : ∀ w ∈ vx_atS RX5 138 "java/lang/IndexOutOfBoundsException" ["java/lang/RuntimeException", "java/lang/Exception"], w.before #[.ref h0, .int p0, .int p1] s = true := vx_hat (B := [.castable "java/lang/IndexOutOfBoundsException" "java/lang/IndexOutOfBoundsException", .declares (Bundle.initS "java/lang/RuntimeException"), .declares (Bundle.initS "java/lang/Exception"), .declares (Bundle.initS Bundle.tN)]) (fun w h => hts w (List.mem_cons_of_mem _ (List.mem_append_left _ (List.mem_append_right _ h)))) (by decide +kernel) (vx_c (va_Nw.use rfl hE.2.1) (vx_c (va_Nw.use rfl hE.2.2.1) (vx_c (va_Nw.use rfl hE.2.2.2.1) (vx_c (va_Nw.use rfl hE.2.2.2.2.1) vx_n))))
  refine vx_throwS (own := RX5) (cls := "java/lang/IndexOutOfBoundsException") (text := "no such race") (names := ["java/lang/RuntimeException", "java/lang/Exception"]) (ik := 134) (is := 136) (ic := 138) (sa := sa) (A := A) hx hb hst hown (by decide +kernel) (by decide +kernel) (hts (.classLink RX5 134 "java/lang/IndexOutOfBoundsException") (by decide +kernel)) (hts (.initialized "java/lang/IndexOutOfBoundsException") (by decide +kernel)) hE.1 hat (by decide +kernel) hE.2.2.2.2.2.1 hE.2.2.2.2.2.2 hS (hl.1.trans hml.symm) dX5_look_10 dX5_look_13 dX5_look_14 dX5_look_16 dX5_look_19 (fun x hx9 => (hnt x hx9).elim) (Nat.le_of_ble_eq_true rfl) (Nat.le_of_ble_eq_true rfl) (Nat.le_of_ble_eq_true rfl) (Nat.le_of_ble_eq_true rfl) hlocks (fun t ha hsz hk => ?_) hS.2.2 (Nat.le_of_ble_eq_true rfl) (Nat.le_of_ble_eq_true rfl)
  exact ⟨(), trivial, rfl, Nat.le_trans hS.1 hsz, fun q h1 h2 => (hk q (Nat.lt_of_lt_of_le h1 hS.1)).trans (hS.2.1 q h1 h2)⟩
theorem gi_filter {big L : List Cond} (h : ∀ w ∈ L.filter goodWord, w ∈ big) : GoodIn big (L.filter goodWord) := fun w hw => ⟨h w hw, good_of_word (List.mem_filter.mp hw).2⟩
theorem ct_ofWH {l : Launch} {y : MethodName} {ws ws' : List Cond} {rm : Room} {Pc : Array Value → State → Prop} {Qc : Array Value → State → Outcome → State → Prop} {mc ms : Nat} {free : Addr → Prop} {cc : ByteArray} {maxL : Nat} {ret : Option FieldType} {hh : List (Nat × Nat × Nat × Nat)}
    (hy : plainName y.cls = true) (hw : ws = Cond.codeWith y cc maxL ret hh :: ws')
    (body : ∀ p e s m args below meth c s₁, BodyLoose p l y (headSpec ws rm) cc maxL ret e s m args below meth c s₁ → c.maxLocals = maxL → Pc args s →
      W p l e (headSpec ws rm).room s m args below meth c s.heap [] 0 0 (MQ below Qc args s mc ms free) (entryFrame m args maxL)) : Met l y ws rm Pc Qc mc ms free := by
  refine MetFree.of_bodyS (code := cc) (maxLocals := maxL) (ret := ret) hy ?_ ?_
  · intro args s m h hn
    obtain ⟨m9, meth, c, hn9, h1, h2, h3, h4, -, h5, h6, -⟩ := Cond.codeWith_spec (atoms_spec (ws := ws) h _ (by rw [hw]; exact List.mem_cons_self))
    cases hn.symm.trans hn9
    exact ⟨meth, c, h1, h2, h3, h4, h5, h6⟩
  · intro p e s m args below meth c s₁ B hml hP _
    have hh0 : s₁.heap = s.heap := by rw [B.state]; rfl
    obtain ⟨t, a1, o, b1, b2, b3⟩ := body p e s m args below meth c s₁ B hml hP s₁ hh0 (Stand.of_body B)
    exact ⟨t, o, a1, b1, b2, ⟨b3.1, b3.2⟩⟩
def wL_look : List Cond := .codeWith yL_look cL_look 5 (some .int) [(0, 10, 13, 13), (0, 10, 17, 15)] :: ([.code yX5_look cX5_look 4 (some .int), .code yX5_raceAt cX5_raceAt 2 (some (.object "SkiShots$Race")), .methodLink RL 7 yX5_look, .instanceMethod yX5_look, .selects RX5 yX5_look yX5_look, .initialized RX5, .classLink RL 13 "java/lang/IndexOutOfBoundsException", .classLink RX5 134 "java/lang/IndexOutOfBoundsException", .initialized "java/lang/IndexOutOfBoundsException", .methodLink RX5 83 yX5_raceAt, .instanceMethod yX5_raceAt, .selects RX5 yX5_raceAt yX5_raceAt, .fieldLink RX5 80 "SkiShots" "raceCount" "I"] ++ (vx_atS RX5 138 "java/lang/IndexOutOfBoundsException" ["java/lang/RuntimeException", "java/lang/Exception"]).filter goodWord ++ wsX50)
set_option maxRecDepth 20000 in
theorem gL_look_X5_look : GoodIn wL_look (wsV RL 7 RX5 yX5_look wX5_look) := by
  have e : wsV RL 7 RX5 yX5_look wX5_look = (([.methodLink RL 7 yX5_look, .instanceMethod yX5_look, .selects RX5 yX5_look yX5_look, .initialized RX5, .code yX5_look cX5_look 4 (some .int)] : List Cond) ++ [.classLink RX5 134 "java/lang/IndexOutOfBoundsException", .initialized "java/lang/IndexOutOfBoundsException", .methodLink RX5 83 yX5_raceAt, .instanceMethod yX5_raceAt, .selects RX5 yX5_raceAt yX5_raceAt, .initialized RX5, .code yX5_raceAt cX5_raceAt 2 (some (.object "SkiShots$Race")), .fieldLink RX5 80 "SkiShots" "raceCount" "I"]) ++ (vx_atS RX5 138 "java/lang/IndexOutOfBoundsException" ["java/lang/RuntimeException", "java/lang/Exception"]).filter goodWord ++ wsX50 := rfl
  rw [e]
  exact goodIn_app (goodIn_app (goodIn_p _ [1, 2] rfl (by decide +kernel)) (gi_filter (fun w h => List.mem_cons_of_mem _ (List.mem_append_left _ (List.mem_append_right _ h))))) (goodIn_sub (fun w h => List.mem_cons_of_mem _ (List.mem_append_right _ h)) (by decide +kernel))
set_option maxHeartbeats 4000000 in
set_option maxRecDepth 100000 in
theorem c_L_look (l : Launch) (hst : l.stackTraces = false) (dC : Nat → ClassId) (dI : Nat → Nat → Nat) (h0 qT qF qN qR qC sa : Nat) (p0 p1 : Int32) (qo : Nat) (sz : Nat) : Met l yL_look wL_look ({ frames := 7, cells := 1, slots := 6, locals := 105 }) (va_Pc [.ref h0, .int p0, .int p1, .ref qo] (fun U => U.heap.size = sz ∧ va_P (dC, dI) vwCl [(h0, .inr (5, [.ref qT, .int 0, .ref qF, .int 0, .int 0, .int ((-1)), .int 0, .ref qN, .int 0, .ref qR, .int 0, .int 0, .ref qC]))] U.heap ∧ va_K (dC, dI) vwCl [] U ∧ va_D (fun _ => True) [(h0, .inr (5, [.ref qT, .int 0, .ref qF, .int 0, .int 0, .int ((-1)), .int 0, .ref qN, .int 0, .ref qR, .int 0, .int 0, .ref qC]))] ∧ lkE sa (va_A [(h0, .inr (5, [.ref qT, .int 0, .ref qF, .int 0, .int 0, .int ((-1)), .int 0, .ref qN, .int 0, .ref qR, .int 0, .int 0, .ref qC]))] sz) U)) (va_Qi (fun (r : Int32) (_ : Unit) => r = 1) (fun _ _ => True) (va_A [(h0, .inr (5, [.ref qT, .int 0, .ref qF, .int 0, .int 0, .int ((-1)), .int 0, .ref qN, .int 0, .ref qR, .int 0, .int 0, .ref qC]))] sz)) 1 6 (va_A [(h0, .inr (5, [.ref qT, .int 0, .ref qF, .int 0, .int 0, .int ((-1)), .int 0, .ref qN, .int 0, .ref qR, .int 0, .int 0, .ref qC]))] sz) := by
  refine ct_ofWH (cc := cL_look) (maxL := 5) (ret := (some .int)) (hh := [(0, 10, 13, 13), (0, 10, 17, 15)]) (by decide) rfl ?_
  intro p e s m args below meth c s₁ B hml hv
  obtain ⟨rfl, hsz, hP, hK, hD0, hE⟩ := hv
  have hx := B.exec
  have hb := B.bytes
  have hr := B.returns
  have hts := atoms_spec (ws := wL_look) B.pre
  have hown : s.vm.findClass RL = some m.cls := findClass_of_methodNamed B.named
  have hlocks := B.notSynchronized
  have htab : c.exceptionTable.toList = tableOf [(0, 10, 13, 13), (0, 10, 17, 15)] := vx_table (x := yL_look) B (hts _ List.mem_cons_self)
  subst hsz
  have hD := hD0.self (sz := s.heap.size)
  have hFc : ∀ q, va_A [(h0, .inr (5, [.ref qT, .int 0, .ref qF, .int 0, .int 0, .int ((-1)), .int 0, .ref qN, .int 0, .ref qR, .int 0, .int 0, .ref qC]))] s.heap.size q → va_A [(h0, .inr (5, [.ref qT, .int 0, .ref qF, .int 0, .int 0, .int ((-1)), .int 0, .ref qN, .int 0, .ref qR, .int 0, .int 0, .ref qC]))] s.heap.size q := fun _ h => h
  have hS : va_S (va_A [(h0, .inr (5, [.ref qT, .int 0, .ref qF, .int 0, .int 0, .int ((-1)), .int 0, .ref qN, .int 0, .ref qR, .int 0, .int 0, .ref qC]))] s.heap.size) s.heap s.heap [] := va_S.rf
  have hl := lv_entry ([.ref h0, .int p0, .int p1, .ref qo]) (n := 5) (Nat.le_of_ble_eq_true rfl)
  rw [lg_entry_eq]
  generalize (lg_sl ([.ref h0, .int p0, .int p1, .ref qo]) ++ List.replicate (5 - (lg_sl ([.ref h0, .int p0, .int p1, .ref qo])).length) Slot.unset).toArray = ls at hl ⊢
  have hl : lv_has ls 5 [(0, .ref h0), (1, .int p0), (2, .int p1), (3, .ref qo)] := hl
  refine lv_aload_n hx hb dL_look_0 rfl (lv_at hl 3 rfl) ?_
  refine lv_iconst (v := 0) hx hb dL_look_1 (by decide) ?_
  refine lv_aload_n hx hb dL_look_2 rfl (lv_at hl 0 rfl) ?_
  refine lv_iload_n hx hb dL_look_3 rfl (lv_at hl 1 rfl) ?_
  refine lv_iload_n hx hb dL_look_4 rfl (lv_at hl 2 rfl) ?_
  refine vx_calli (vx_runV (As := [.int p0, .int p1]) (rest := [.int 0, .ref qo]) ⟨hx, hb, hml, hown, hts⟩ (c_X5_look l hst dC dI h0 qT qF qN qR qC sa p0 p1 s.heap.size) (cwV 2 hts gL_look_X5_look rfl rfl rfl (by decide +kernel) ⟨Nat.le_of_ble_eq_true rfl, Nat.le_of_ble_eq_true rfl⟩) ⟨fun a U g mk q => by obtain ⟨q0, q1, qP, qK, qD, qE⟩ := q; exact ⟨q0, q1, qP, va_K.moved (u := U) (U := U.calling g mk a) (Vm.Alike.refl U.vm) qK, qD, lkE_call qE⟩, va_recv hK hP (ci := 5) (q0 := 0) rfl rfl, fun U hU hW => ⟨rfl, by rw [hU], by rw [hU]; exact hP, va_K.moved hW.alike hK, hD0, lkE_at hW hU va_S.rf (fun _ h => h) hE⟩⟩ rfl rfl hl.1 rfl (lv_room (Nat.le_of_ble_eq_true rfl)) dL_look_5 ⟨Nat.le_of_ble_eq_true rfl, Nat.le_of_ble_eq_true rfl⟩) hS (fun q _ h => hFc q h) hFc (fun q _ h => hFc q h) (fun E ce q9 u t H1 locs ht hvm hpx hB hz1 hk1 hS hce hcv hcl => ?_) (fun r u t H1 locs ht hvm hw hB hz1 hk1 hS => hw.elim)
  subst hB
  refine ct_catch hown ⟨0, 10, 13, 13⟩ [⟨0, 10, 17, 15⟩] htab (by decide) (by decide) (hts (.classLink RL 13 "java/lang/IndexOutOfBoundsException") (by decide +kernel)) (va_Nw.use rfl hE.2.1) hce hcv hcl ?_
  refine W.eq (g2 := F0 m 13 ls [.ref q9]) rfl ?_
  refine lv_astore (lv' := [(4, .ref q9), (0, .ref h0), (1, .int p0), (2, .int p1), (3, .ref qo)]) hx hb dL_look_13 hl (by decide) rfl (fun ls hl => ?_)
  refine lv_iconst (v := 1) hx hb dL_look_15 (by decide) ?_
  exact W.iret (v := 1) hx hb hr (fun t ht hW => ⟨⟨1, (), rfl, rfl, trivial⟩, hS.F ht⟩) hS.2.2 dL_look_16
