theorem dL_look_0 : decode cL_look 0 = .ok (.aload_n 3, 1) := by decide +kernel
theorem dL_look_1 : decode cL_look 1 = .ok (.iconst 0, 1) := by decide +kernel
theorem dL_look_2 : decode cL_look 2 = .ok (.aload_n 0, 1) := by decide +kernel
theorem dL_look_3 : decode cL_look 3 = .ok (.iload_n 1, 1) := by decide +kernel
theorem dL_look_4 : decode cL_look 4 = .ok (.iload_n 2, 1) := by decide +kernel
theorem dL_look_5 : decode cL_look 5 = .ok (.invokevirtual 7, 3) := by decide +kernel
theorem dL_look_8 : decode cL_look 8 = .ok (.i2l, 1) := by decide +kernel
theorem dL_look_9 : decode cL_look 9 = .ok (.lastore, 1) := by decide +kernel
theorem dL_look_10 : decode cL_look 10 = .ok (.goto 11, 3) := by decide +kernel
theorem dL_look_13 : decode cL_look 13 = .ok (.astore 4, 2) := by decide +kernel
theorem dL_look_15 : decode cL_look 15 = .ok (.iconst 1, 1) := by decide +kernel
theorem dL_look_16 : decode cL_look 16 = .ok (.ireturn, 1) := by decide +kernel
theorem dL_look_17 : decode cL_look 17 = .ok (.astore 4, 2) := by decide +kernel
theorem dL_look_19 : decode cL_look 19 = .ok (.iconst 2, 1) := by decide +kernel
theorem dL_look_20 : decode cL_look 20 = .ok (.ireturn, 1) := by decide +kernel
theorem dL_look_21 : decode cL_look 21 = .ok (.iconst 0, 1) := by decide +kernel
theorem dL_look_22 : decode cL_look 22 = .ok (.ireturn, 1) := by decide +kernel
theorem gi_f {big L : List Cond} (h : ∀ w ∈ L.filter goodWord, w ∈ big) : GoodIn big (L.filter goodWord) := fun w hw => ⟨h w hw, good_of_word (List.mem_filter.mp hw).2⟩
theorem ct_ofWH {l : Launch} {y : MethodName} {ws ws' : List Cond} {rm : Room} {Pc : Array Value → State → Prop} {Qc : Array Value → State → Outcome → State → Prop} {mc ms : Nat} {free : Addr → Prop} {cc : ByteArray} {maxL : Nat} {ret : Option FieldType} {hh : List (Nat × Nat × Nat × Nat)}
    (hy : plainName y.cls = true) (hw : ws = Cond.codeWith y cc maxL ret hh :: ws')
    (body : ∀ p e s m args below meth c s₁, BodyLoose p l y (headSpec ws rm) cc maxL ret e s m args below meth c s₁ → c.maxLocals = maxL → Pc args s →
      W p l e (headSpec ws rm).room s m args below meth c s.heap [] 0 0 (MQ below Qc args s mc ms free) (entryFrame m args maxL)) : Met l y ws rm Pc Qc mc ms free := by
  refine MetFree.of_bodyS (code := cc) (maxLocals := maxL) (ret := ret) hy ?_ ?_
  · intro args s m h hn
    obtain ⟨m9, meth, c, hn9, h1, h2, h3, h4, -, h5, h6, -⟩ := Cond.codeWith_spec (atoms_spec (ws := ws) h _ (by rw [hw]; exact List.mem_cons_self))
    cases hn.symm.trans hn9
    exact ⟨meth, c, h1, h2, h3, h4, h5, h6⟩
  · intro p e s m args below meth c s₁ B hml hP _
    have hh0 : s₁.heap = s.heap := by rw [B.state]; rfl
    obtain ⟨t, a1, o, b1, b2, b3⟩ := body p e s m args below meth c s₁ B hml hP s₁ hh0 (Stand.of_body B)
    exact ⟨t, o, a1, b1, b2, ⟨b3.1, b3.2⟩⟩
def w4L_look : List Cond := .codeWith yL_look cL_look 5 (some .int) [(0, 10, 13, 13), (0, 10, 17, 15)] :: (([.methodLink RL 7 yX5_look, .instanceMethod yX5_look, .selects RX5 yX5_look yX5_look, .initialized RX5, .code yX5_look cX5_look 4 (some .int), .methodLink RX5 83 yX5_raceAt, .instanceMethod yX5_raceAt, .selects RX5 yX5_raceAt yX5_raceAt, .initialized RX5, .code yX5_raceAt cX5_raceAt 2 (some (.object "SkiShots$Race")), .fieldLink RX5 80 "SkiShots" "raceCount" "I", .fieldLink RX5 29 "SkiShots" "races" "[LSkiShots$Race;", .classLink RX5 134 "java/lang/IndexOutOfBoundsException", .initialized "java/lang/IndexOutOfBoundsException", .fieldLink RX5 112 "SkiShots$Race" "format" "LSkiShots$Format;", .fieldLink RX5 141 "SkiShots$Format" "name" "I", .fieldLink RX5 144 "SkiShots$Format" "laps" "I", .fieldLink RX5 147 "SkiShots$Format" "shootings" "I", .fieldLink RX5 150 "SkiShots$Format" "spares" "I", .fieldLink RX5 153 "SkiShots$Race" "byNumber" "I", .fieldLink RX5 106 "SkiShots$Race" "entryCount" "I", .fieldLink RX5 96 "SkiShots$Race" "told" "I", .classLink RX5 156 "java/util/NoSuchElementException", .initialized "java/util/NoSuchElementException", .classLink RL 13 "java/lang/IndexOutOfBoundsException", .classLink RL 15 "java/util/NoSuchElementException"] ++ (vx_atS RX5 138 "java/lang/IndexOutOfBoundsException" ["java/lang/RuntimeException", "java/lang/Exception"]).filter goodWord) ++ ((cq_at RX5 160 "java/util/NoSuchElementException" "java/lang/RuntimeException" 13 cNS ["java/lang/Exception"]).filter goodWord ++ (wsX20 ++ wsX30 ++ wsX50)))
set_option maxRecDepth 20000 in
theorem gk_L_look : GoodIn w4L_look (wsV RL 7 RX5 yX5_look w4X5_look) := by
  have e : wsV RL 7 RX5 yX5_look w4X5_look = (([.methodLink RL 7 yX5_look, .instanceMethod yX5_look, .selects RX5 yX5_look yX5_look, .initialized RX5, .code yX5_look cX5_look 4 (some .int), .methodLink RX5 83 yX5_raceAt, .instanceMethod yX5_raceAt, .selects RX5 yX5_raceAt yX5_raceAt, .initialized RX5, .code yX5_raceAt cX5_raceAt 2 (some (.object "SkiShots$Race")), .fieldLink RX5 80 "SkiShots" "raceCount" "I", .fieldLink RX5 29 "SkiShots" "races" "[LSkiShots$Race;", .classLink RX5 134 "java/lang/IndexOutOfBoundsException", .initialized "java/lang/IndexOutOfBoundsException", .fieldLink RX5 112 "SkiShots$Race" "format" "LSkiShots$Format;", .fieldLink RX5 141 "SkiShots$Format" "name" "I", .fieldLink RX5 144 "SkiShots$Format" "laps" "I", .fieldLink RX5 147 "SkiShots$Format" "shootings" "I", .fieldLink RX5 150 "SkiShots$Format" "spares" "I", .fieldLink RX5 153 "SkiShots$Race" "byNumber" "I", .fieldLink RX5 106 "SkiShots$Race" "entryCount" "I", .fieldLink RX5 96 "SkiShots$Race" "told" "I", .classLink RX5 156 "java/util/NoSuchElementException", .initialized "java/util/NoSuchElementException"] : List Cond) ++ (vx_atS RX5 138 "java/lang/IndexOutOfBoundsException" ["java/lang/RuntimeException", "java/lang/Exception"]).filter goodWord) ++ ((cq_at RX5 160 "java/util/NoSuchElementException" "java/lang/RuntimeException" 13 cNS ["java/lang/Exception"]).filter goodWord ++ (wsX20 ++ wsX30 ++ wsX50)) := rfl
  rw [e]
  exact goodIn_app (goodIn_app (goodIn_p _ [5, 10] rfl (by decide +kernel)) (gi_f (fun w h => List.mem_cons_of_mem _ (List.mem_append_left _ (List.mem_append_right _ h))))) (goodIn_app (gi_f (fun w h => List.mem_cons_of_mem _ (List.mem_append_right _ (List.mem_append_left _ h)))) (goodIn_sub (fun w h => List.mem_cons_of_mem _ (List.mem_append_right _ (List.mem_append_right _ h))) (by decide +kernel)))
def lOut (qo : Nat) (cO : ClassId) (f : Nat → Int64) : va_W := [(qo, .inl (cO, 1, .inr (.inl f)))]
set_option maxHeartbeats 4000000 in
set_option maxRecDepth 100000 in
theorem h4_L_look (l : Launch) (hst : l.stackTraces = false) (D : va_G) (cA : Nat → ClassId) (ad av : Nat → Nat) (L : List Nat) (K : Nat → Nat) (I : Nat → Nat → Int32) (O : Nat → Nat → Option Nat) (sz sa sb qo : Nat) (cO : ClassId) (f : Nat → Int64) (x0 : Nat) (p0 p1 : Int32) (hI : cI L K I O) (mx0 : x0 ∈ L) (kx0 : K x0 = 5) :
    Met l yL_look w4L_look ({ frames := 7, cells := 1, slots := 6, locals := 105 }) (va_Pc [.ref x0, .int p0, .int p1, .ref qo] (fun U => U.heap.size = sz ∧ va_P D vwCl (cW cA L K I O ++ lOut qo cO f) U.heap ∧ (va_K D vwCl (cT cA) U ∧ va_K D vwCl [(cO, .long)] U) ∧ va_D (fun _ => True) (cW cA L K I O ++ lOut qo cO f) ∧ cV ad av (va_A (cW cA L K I O) sz) U U.heap ∧ lk2 sa sb (va_A (cW cA L K I O) sz) U ∧ (Cond.castable "java/util/NoSuchElementException" "java/lang/IndexOutOfBoundsException").before #[] U = false))
      (va_Qi (fun (_ : Int32) (_ : Nat → Int64) => True) (fun u t => va_P D vwCl (cW cA L K I O ++ lOut qo cO u) t.heap ∧ va_D (va_A (cW cA L K I O ++ lOut qo cO f) sz) (cW cA L K I O ++ lOut qo cO u)) (va_A (cW cA L K I O ++ lOut qo cO f) sz)) 1 6 (va_A (cW cA L K I O ++ lOut qo cO f) sz) := by
  refine ct_ofWH (cc := cL_look) (maxL := 5) (ret := (some .int)) (hh := [(0, 10, 13, 13), (0, 10, 17, 15)]) (by decide) rfl ?_
  intro p e s m args below meth c s₁ B hml hv
  obtain ⟨rfl, hsz, hP, ⟨hK, hKo⟩, hD0, hV, hE, hN⟩ := hv
  have hx := B.exec
  have hb := B.bytes
  have hr := B.returns
  have hts := atoms_spec (ws := w4L_look) B.pre
  have hown : s.vm.findClass RL = some m.cls := findClass_of_methodNamed B.named
  have hlocks := B.notSynchronized
  have htab : c.exceptionTable.toList = tableOf [(0, 10, 13, 13), (0, 10, 17, 15)] := vx_table (x := yL_look) B (hts _ List.mem_cons_self)
  subst hsz
  have hD := hD0.self (sz := s.heap.size)
  generalize hAe : va_A (cW cA L K I O ++ lOut qo cO f) s.heap.size = A at hD ⊢
  have hFc : ∀ q, va_A (cW cA L K I O) s.heap.size q → A q := fun q h => by
    rw [← hAe]
    rcases h with ⟨k, e, h⟩ | h
    · exact Or.inl ⟨k, e, lq_gl h⟩
    · exact Or.inr h
  have hS : va_S A s.heap s.heap [] := va_S.rf
  have hPx := lq_l hP
  have hl := lv_entry ([.ref x0, .int p0, .int p1, .ref qo]) (n := 5) (Nat.le_of_ble_eq_true rfl)
  rw [lg_entry_eq]
  generalize (lg_sl ([.ref x0, .int p0, .int p1, .ref qo]) ++ List.replicate (5 - (lg_sl ([.ref x0, .int p0, .int p1, .ref qo])).length) Slot.unset).toArray = ls at hl ⊢
  have hl : lv_has ls 5 [(0, .ref x0), (1, .int p0), (2, .int p1), (3, .ref qo)] := hl
  refine lv_aload_n hx hb dL_look_0 rfl (lv_at hl 3 rfl) ?_
  refine lv_iconst (v := 0) hx hb dL_look_1 (by decide) ?_
  refine lv_aload_n hx hb dL_look_2 rfl (lv_at hl 0 rfl) ?_
  refine lv_iload_n hx hb dL_look_3 rfl (lv_at hl 1 rfl) ?_
  refine lv_iload_n hx hb dL_look_4 rfl (lv_at hl 2 rfl) ?_
  obtain ⟨j, hj⟩ := cw_at (cA := cA) (I := I) (O := O) mx0 kx0
  refine vx_calli (vx_runV (As := [.int p0, .int p1]) (rest := [.int 0, .ref qo]) (b := x0) ⟨hx, hb, hml, hown, hts⟩ (h4_X5_look l hst D cA ad av L K I O s.heap.size sa sb x0 p0 p1 hI mx0 kx0) (cwV 2 hts gk_L_look rfl rfl rfl (by decide +kernel) ⟨Nat.le_of_ble_eq_true rfl, Nat.le_of_ble_eq_true rfl⟩) ⟨fun a U g mk q => by obtain ⟨q0, q1, qP, qK, qD, qV, qE⟩ := q; exact ⟨q0, q1, qP, va_K.moved (u := U) (U := U.calling g mk a) (Vm.Alike.refl U.vm) qK, qD, qV.same rfl, lk2_call qE⟩, va_recv hK hPx (ci := 5) (q0 := j) rfl hj, fun U hU hW => ⟨rfl, by rw [hU], by rw [hU]; exact hPx, va_K.moved hW.alike hK, lq_dl hD0, by rw [hU]; exact hV.to hW (fun _ _ _ => rfl) (fun _ h => h), lk2_at hW hU va_S.rf (fun _ h => h) hE⟩⟩ rfl rfl hl.1 rfl (lv_room (Nat.le_of_ble_eq_true rfl)) dL_look_5 ⟨Nat.le_of_ble_eq_true rfl, Nat.le_of_ble_eq_true rfl⟩) hS (fun q _ h => hFc q h) hFc (fun q _ h => hFc q h) (fun E ce q9 u t H1 locs ht hvm hpx hB hz1 hk1 hS hce hcv hcl => ?_) (fun r u t H1 locs ht hvm hw hB hz1 hk1 hS => ?_)
  · obtain ⟨hE2, hP1⟩ := hB
    rw [ht] at hP1
    obtain ⟨hPj, hDj⟩ := lq_join hP hD hk1 hFc hP1 (lq_dl hD0).self
    rcases hE2 with hE2 | hE2
    · subst hE2
      refine ct_catch hown ⟨0, 10, 13, 13⟩ [⟨0, 10, 17, 15⟩] htab (by decide) (by decide) (hts (.classLink RL 13 "java/lang/IndexOutOfBoundsException") (by decide +kernel)) (va_Nw.use rfl hE.2.2.1.1) hce hcv hcl ?_
      refine W.eq (g2 := F0 m 13 ls [.ref q9]) rfl ?_
      refine lv_astore (lv' := [(4, .ref q9), (0, .ref x0), (1, .int p0), (2, .int p1), (3, .ref qo)]) hx hb dL_look_13 hl (by decide) rfl (fun ls hl => ?_)
      refine lv_iconst (v := 1) hx hb dL_look_15 (by decide) ?_
      exact W.iret (v := 1) hx hb hr (fun t ht hW => ⟨⟨1, f, rfl, trivial, by rw [ht]; exact hPj, hDj⟩, hS.F ht⟩) hS.2.2 dL_look_16
    · subst hE2
      refine ct_catch2 hown ⟨0, 10, 13, 13⟩ ⟨0, 10, 17, 15⟩ [] htab (by decide) (by decide) (by decide) (by decide) (hts (.classLink RL 13 "java/lang/IndexOutOfBoundsException") (by decide +kernel)) (hts (.classLink RL 15 "java/util/NoSuchElementException") (by decide +kernel)) (show (Cond.castable "java/util/NoSuchElementException" "java/lang/IndexOutOfBoundsException").before _ s = false from hN) (va_Nw.use rfl hE.2.2.1.2) hce hcv hcl ?_
      refine W.eq (g2 := F0 m 17 ls [.ref q9]) rfl ?_
      refine lv_astore (lv' := [(4, .ref q9), (0, .ref x0), (1, .int p0), (2, .int p1), (3, .ref qo)]) hx hb dL_look_17 hl (by decide) rfl (fun ls hl => ?_)
      refine lv_iconst (v := 2) hx hb dL_look_19 (by decide) ?_
      exact W.iret (v := 2) hx hb hr (fun t ht hW => ⟨⟨2, f, rfl, trivial, by rw [ht]; exact hPj, hDj⟩, hS.F ht⟩) hS.2.2 dL_look_20
  · obtain ⟨hG, ⟨e1, e2, e3, e4⟩, -⟩ := hw
    obtain ⟨hP1, -, hD1⟩ := hB
    rw [ht, e1, e2, e3, e4] at hP1
    rw [e1, e2, e3, e4] at hD1
    obtain ⟨hPj, hDj⟩ := lq_join hP hD hk1 hFc hP1 hD1
    refine lv_i2l hx hb dL_look_8 rfl ?_
    have ho : (cW cA L K I O ++ lOut qo cO f)[(cW cA L K I O).length + 0]? = some (qo, .inl (cO, 1, .inr (.inl f))) := lq_gr rfl
    refine va_last hx hb hKo hPj hDj hS _ 0 ho rfl (by unfold vp_in; decide) dL_look_9 (fun H2 locs2 hP2 hD2 hS2 => ?_)
    refine lv_goto (tgt := 21) hx hb dL_look_10 (by decide) ?_
    refine lv_iconst (v := 0) hx hb dL_look_21 (by decide) ?_
    have es : ∀ g : Nat → Int64, (cW cA L K I O ++ lOut qo cO f).set ((cW cA L K I O).length + 0) (qo, .inl (cO, 1, .inr (.inl g))) = cW cA L K I O ++ lOut qo cO g := fun g => by
      rw [List.set_append_right _ _ (by omega), Nat.add_sub_cancel_left]; rfl
    rw [es] at hP2 hD2
    exact W.iret (v := 0) hx hb hr (fun t ht hW => ⟨⟨0, _, rfl, trivial, by rw [ht]; exact hP2, hD2⟩, hS2.F ht⟩) hS2.2.2 dL_look_22
