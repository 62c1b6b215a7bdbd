def wX6_cup : List Cond := .code yX6_cup cX6_cup 6 none :: ([.fieldLink RX6 200 "SkiShotsModel" "races" "I", .fieldLink RX6 123 "SkiShotsModel" "sums" "[I", .methodLink RX6 244 yX6_workAll, .instanceMethod yX6_workAll, .selects RX6 yX6_workAll yX6_workAll, .initialized RX6, .code yX6_workAll cX6_workAll 5 none] ++ wsX60)
set_option maxRecDepth 20000 in
theorem gX6_cup_c_X6_workAll_2 : GoodIn wX6_cup (wsV RX6 244 RX6 yX6_workAll wX6_workAll) := goodIn_p _ [7] rfl (by decide +kernel)
set_option maxHeartbeats 4000000 in
set_option maxRecDepth 100000 in
theorem c_X6_cup (l : Launch) (dC : Nat → ClassId) (dI : Nat → Nat → Nat) (h0 : Nat) (q : Nat → Nat) (cq : Nat → ClassId) (p0 : Int32) (sz : Nat) : Met l yX6_cup wX6_cup ({ frames := 1, cells := 0, slots := 0, locals := 24 }) (va_Pc [.ref h0, .int p0] (fun U => U.heap.size = sz ∧ va_P (dC, dI) vwCl [(h0, .inr (6, [.ref ((q 0)), .int 0, .int 0, .int 0, .int 0, .ref ((q 5)), .ref ((q 6)), .ref ((q 7)), .ref ((q 8)), .ref ((q 9)), .ref ((q 10)), .ref ((q 11)), .ref ((q 12)), .int 0, .int ((-1)), .int 0, .ref ((q 16)), .int 0, .ref ((q 18)), .ref ((q 19)), .ref ((q 20)), .ref ((q 21)), .ref ((q 22)), .ref ((q 23)), .ref ((q 24)), .ref ((q 25)), .ref ((q 26)), .ref ((q 27)), .ref ((q 28)), .ref ((q 29)), .ref ((q 30)), .int 0, .ref ((q 32)), .ref ((q 33)), .ref ((q 34)), .ref ((q 35)), .ref ((q 36)), .ref ((q 37)), .ref ((q 38)), .int 0, .int 0, .int 0, .int 0, .int 0, .int 0, .ref ((q 45)), .ref ((q 46)), .ref ((q 47)), .ref ((q 48)), .ref ((q 49)), .ref ((q 50)), .ref ((q 51))])), ((q 51), .inl ((cq 51), 16, .inl (fun _ => 0)))] U.heap ∧ va_K (dC, dI) vwCl [((cq 51), .int)] U ∧ va_D (fun _ => True) [(h0, .inr (6, [.ref ((q 0)), .int 0, .int 0, .int 0, .int 0, .ref ((q 5)), .ref ((q 6)), .ref ((q 7)), .ref ((q 8)), .ref ((q 9)), .ref ((q 10)), .ref ((q 11)), .ref ((q 12)), .int 0, .int ((-1)), .int 0, .ref ((q 16)), .int 0, .ref ((q 18)), .ref ((q 19)), .ref ((q 20)), .ref ((q 21)), .ref ((q 22)), .ref ((q 23)), .ref ((q 24)), .ref ((q 25)), .ref ((q 26)), .ref ((q 27)), .ref ((q 28)), .ref ((q 29)), .ref ((q 30)), .int 0, .ref ((q 32)), .ref ((q 33)), .ref ((q 34)), .ref ((q 35)), .ref ((q 36)), .ref ((q 37)), .ref ((q 38)), .int 0, .int 0, .int 0, .int 0, .int 0, .int 0, .ref ((q 45)), .ref ((q 46)), .ref ((q 47)), .ref ((q 48)), .ref ((q 49)), .ref ((q 50)), .ref ((q 51))])), ((q 51), .inl ((cq 51), 16, .inl (fun _ => 0)))])) (va_Qv (fun (_ : Unit) => True) (fun _ t => ∃ (f : Nat → Int32), va_P (dC, dI) vwCl [(h0, .inr (6, [.ref ((q 0)), .int 0, .int 0, .int 0, .int 0, .ref ((q 5)), .ref ((q 6)), .ref ((q 7)), .ref ((q 8)), .ref ((q 9)), .ref ((q 10)), .ref ((q 11)), .ref ((q 12)), .int 0, .int ((-1)), .int 0, .ref ((q 16)), .int 0, .ref ((q 18)), .ref ((q 19)), .ref ((q 20)), .ref ((q 21)), .ref ((q 22)), .ref ((q 23)), .ref ((q 24)), .ref ((q 25)), .ref ((q 26)), .ref ((q 27)), .ref ((q 28)), .ref ((q 29)), .ref ((q 30)), .int 0, .ref ((q 32)), .ref ((q 33)), .ref ((q 34)), .ref ((q 35)), .ref ((q 36)), .ref ((q 37)), .ref ((q 38)), .int 0, .int 0, .int 0, .int 0, .int 0, .int 0, .ref ((q 45)), .ref ((q 46)), .ref ((q 47)), .ref ((q 48)), .ref ((q 49)), .ref ((q 50)), .ref ((q 51))])), ((q 51), .inl ((cq 51), 16, .inl (f)))] t.heap ∧ va_K (dC, dI) vwCl [((cq 51), .int)] t ∧ va_D (va_A [(h0, .inr (6, [.ref ((q 0)), .int 0, .int 0, .int 0, .int 0, .ref ((q 5)), .ref ((q 6)), .ref ((q 7)), .ref ((q 8)), .ref ((q 9)), .ref ((q 10)), .ref ((q 11)), .ref ((q 12)), .int 0, .int ((-1)), .int 0, .ref ((q 16)), .int 0, .ref ((q 18)), .ref ((q 19)), .ref ((q 20)), .ref ((q 21)), .ref ((q 22)), .ref ((q 23)), .ref ((q 24)), .ref ((q 25)), .ref ((q 26)), .ref ((q 27)), .ref ((q 28)), .ref ((q 29)), .ref ((q 30)), .int 0, .ref ((q 32)), .ref ((q 33)), .ref ((q 34)), .ref ((q 35)), .ref ((q 36)), .ref ((q 37)), .ref ((q 38)), .int 0, .int 0, .int 0, .int 0, .int 0, .int 0, .ref ((q 45)), .ref ((q 46)), .ref ((q 47)), .ref ((q 48)), .ref ((q 49)), .ref ((q 50)), .ref ((q 51))])), ((q 51), .inl ((cq 51), 16, .inl (fun _ => 0)))] sz) [(h0, .inr (6, [.ref ((q 0)), .int 0, .int 0, .int 0, .int 0, .ref ((q 5)), .ref ((q 6)), .ref ((q 7)), .ref ((q 8)), .ref ((q 9)), .ref ((q 10)), .ref ((q 11)), .ref ((q 12)), .int 0, .int ((-1)), .int 0, .ref ((q 16)), .int 0, .ref ((q 18)), .ref ((q 19)), .ref ((q 20)), .ref ((q 21)), .ref ((q 22)), .ref ((q 23)), .ref ((q 24)), .ref ((q 25)), .ref ((q 26)), .ref ((q 27)), .ref ((q 28)), .ref ((q 29)), .ref ((q 30)), .int 0, .ref ((q 32)), .ref ((q 33)), .ref ((q 34)), .ref ((q 35)), .ref ((q 36)), .ref ((q 37)), .ref ((q 38)), .int 0, .int 0, .int 0, .int 0, .int 0, .int 0, .ref ((q 45)), .ref ((q 46)), .ref ((q 47)), .ref ((q 48)), .ref ((q 49)), .ref ((q 50)), .ref ((q 51))])), ((q 51), .inl ((cq 51), 16, .inl (f)))]) (va_A [(h0, .inr (6, [.ref ((q 0)), .int 0, .int 0, .int 0, .int 0, .ref ((q 5)), .ref ((q 6)), .ref ((q 7)), .ref ((q 8)), .ref ((q 9)), .ref ((q 10)), .ref ((q 11)), .ref ((q 12)), .int 0, .int ((-1)), .int 0, .ref ((q 16)), .int 0, .ref ((q 18)), .ref ((q 19)), .ref ((q 20)), .ref ((q 21)), .ref ((q 22)), .ref ((q 23)), .ref ((q 24)), .ref ((q 25)), .ref ((q 26)), .ref ((q 27)), .ref ((q 28)), .ref ((q 29)), .ref ((q 30)), .int 0, .ref ((q 32)), .ref ((q 33)), .ref ((q 34)), .ref ((q 35)), .ref ((q 36)), .ref ((q 37)), .ref ((q 38)), .int 0, .int 0, .int 0, .int 0, .int 0, .int 0, .ref ((q 45)), .ref ((q 46)), .ref ((q 47)), .ref ((q 48)), .ref ((q 49)), .ref ((q 50)), .ref ((q 51))])), ((q 51), .inl ((cq 51), 16, .inl (fun _ => 0)))] sz)) 0 0 (va_A [(h0, .inr (6, [.ref ((q 0)), .int 0, .int 0, .int 0, .int 0, .ref ((q 5)), .ref ((q 6)), .ref ((q 7)), .ref ((q 8)), .ref ((q 9)), .ref ((q 10)), .ref ((q 11)), .ref ((q 12)), .int 0, .int ((-1)), .int 0, .ref ((q 16)), .int 0, .ref ((q 18)), .ref ((q 19)), .ref ((q 20)), .ref ((q 21)), .ref ((q 22)), .ref ((q 23)), .ref ((q 24)), .ref ((q 25)), .ref ((q 26)), .ref ((q 27)), .ref ((q 28)), .ref ((q 29)), .ref ((q 30)), .int 0, .ref ((q 32)), .ref ((q 33)), .ref ((q 34)), .ref ((q 35)), .ref ((q 36)), .ref ((q 37)), .ref ((q 38)), .int 0, .int 0, .int 0, .int 0, .int 0, .int 0, .ref ((q 45)), .ref ((q 46)), .ref ((q 47)), .ref ((q 48)), .ref ((q 49)), .ref ((q 50)), .ref ((q 51))])), ((q 51), .inl ((cq 51), 16, .inl (fun _ => 0)))] sz) := by
  refine Met.ofW (cc := cX6_cup) (maxL := 6) (ret := none) (by decide) rfl ?_
  intro p e s m args below meth c s₁ B hml hv
  obtain ⟨rfl, hsz, hP, hK, hD0⟩ := hv
  have hx := B.exec
  have hb := B.bytes
  have hr := B.returns
  have hts := atoms_spec (ws := wX6_cup) B.pre
  have hown : s.vm.findClass RX6 = some m.cls := findClass_of_methodNamed B.named
  have hlocks := B.notSynchronized
  have hin6 : ∀ w ∈ wsX60, w ∈ wX6_cup := by decide +kernel
  subst hsz
  have hD := hD0.self (sz := s.heap.size)
  generalize hAe : va_A [(h0, .inr (6, [.ref ((q 0)), .int 0, .int 0, .int 0, .int 0, .ref ((q 5)), .ref ((q 6)), .ref ((q 7)), .ref ((q 8)), .ref ((q 9)), .ref ((q 10)), .ref ((q 11)), .ref ((q 12)), .int 0, .int ((-1)), .int 0, .ref ((q 16)), .int 0, .ref ((q 18)), .ref ((q 19)), .ref ((q 20)), .ref ((q 21)), .ref ((q 22)), .ref ((q 23)), .ref ((q 24)), .ref ((q 25)), .ref ((q 26)), .ref ((q 27)), .ref ((q 28)), .ref ((q 29)), .ref ((q 30)), .int 0, .ref ((q 32)), .ref ((q 33)), .ref ((q 34)), .ref ((q 35)), .ref ((q 36)), .ref ((q 37)), .ref ((q 38)), .int 0, .int 0, .int 0, .int 0, .int 0, .int 0, .ref ((q 45)), .ref ((q 46)), .ref ((q 47)), .ref ((q 48)), .ref ((q 49)), .ref ((q 50)), .ref ((q 51))])), ((q 51), .inl ((cq 51), 16, .inl (fun _ => 0)))] s.heap.size = A at hD ⊢
  have hA : ∀ q : Nat, s.heap.size ≤ q → A q := fun q h => by rw [← hAe]; exact Or.inr h
  have hS : va_S A s.heap s.heap [] := va_S.rf
  have hP : va_P (dC, dI) vwCl [(h0, .inr (6, [.ref ((q 0)), .int 0, .int 0, .int 0, .int 0, .ref ((q 5)), .ref ((q 6)), .ref ((q 7)), .ref ((q 8)), .ref ((q 9)), .ref ((q 10)), .ref ((q 11)), .ref ((q 12)), .int 0, .int ((-1)), .int 0, .ref ((q 16)), .int 0, .ref ((q 18)), .ref ((q 19)), .ref ((q 20)), .ref ((q 21)), .ref ((q 22)), .ref ((q 23)), .ref ((q 24)), .ref ((q 25)), .ref ((q 26)), .ref ((q 27)), .ref ((q 28)), .ref ((q 29)), .ref ((q 30)), .int 0, .ref ((q 32)), .ref ((q 33)), .ref ((q 34)), .ref ((q 35)), .ref ((q 36)), .ref ((q 37)), .ref ((q 38)), .int 0, .int 0, .int 0, .int 0, .int 0, .int 0, .ref ((q 45)), .ref ((q 46)), .ref ((q 47)), .ref ((q 48)), .ref ((q 49)), .ref ((q 50)), .ref ((q 51))])), ((q 51), .inl ((cq 51), 16, .inl (fun _ => 0)))] s.heap := hP
  have hl := lv_entry ([.ref h0, .int p0]) (n := 6) (Nat.le_of_ble_eq_true rfl)
  rw [lg_entry_eq]
  generalize (lg_sl ([.ref h0, .int p0]) ++ List.replicate (6 - (lg_sl ([.ref h0, .int p0])).length) Slot.unset).toArray = ls at hl ⊢
  have hl : lv_has ls 6 [(0, .ref h0), (1, .int p0)] := hl
  refine lv_aload_n hx hb dX6_cup_0 rfl (lv_at hl 0 rfl) ?_
  refine lv_aload_n hx hb dX6_cup_1 rfl (lv_at hl 0 rfl) ?_
  refine va_get (D := (dC, dI)) (ci := 6) (v := .int 0) (C := RX6) (T := TX6) (N := 52) hx hb hts hin6 hown hK hP 0 rfl rfl 17 (by decide) (hts (.fieldLink RX6 200 "SkiShotsModel" "races" "I") (by decide +kernel)) (fun _ h9 => h9) rfl dX6_cup_2 ?_
  refine lv_iconst (v := 1) hx hb dX6_cup_5 (by decide) ?_
  refine lv_isub hx hb dX6_cup_6 ?_
  rw [show (0 - 1 : Int32) = (-1) from by decide]
  refine lv_iload_n hx hb dX6_cup_7 rfl (lv_at hl 1 rfl) ?_
  have hPc := hP.sub (ws' := [(h0, .inr (6, [.ref ((q 0)), .int 0, .int 0, .int 0, .int 0, .ref ((q 5)), .ref ((q 6)), .ref ((q 7)), .ref ((q 8)), .ref ((q 9)), .ref ((q 10)), .ref ((q 11)), .ref ((q 12)), .int 0, .int ((-1)), .int 0, .ref ((q 16)), .int 0, .ref ((q 18)), .ref ((q 19)), .ref ((q 20)), .ref ((q 21)), .ref ((q 22)), .ref ((q 23)), .ref ((q 24)), .ref ((q 25)), .ref ((q 26)), .ref ((q 27)), .ref ((q 28)), .ref ((q 29)), .ref ((q 30)), .int 0, .ref ((q 32)), .ref ((q 33)), .ref ((q 34)), .ref ((q 35)), .ref ((q 36)), .ref ((q 37)), .ref ((q 38)), .int 0, .int 0, .int 0, .int 0, .int 0, .int 0, .ref ((q 45)), .ref ((q 46)), .ref ((q 47)), .ref ((q 48)), .ref ((q 49)), .ref ((q 50)), .ref ((q 51))]))]) [0] rfl
  have hDc := hD.sub (ws' := [(h0, .inr (6, [.ref ((q 0)), .int 0, .int 0, .int 0, .int 0, .ref ((q 5)), .ref ((q 6)), .ref ((q 7)), .ref ((q 8)), .ref ((q 9)), .ref ((q 10)), .ref ((q 11)), .ref ((q 12)), .int 0, .int ((-1)), .int 0, .ref ((q 16)), .int 0, .ref ((q 18)), .ref ((q 19)), .ref ((q 20)), .ref ((q 21)), .ref ((q 22)), .ref ((q 23)), .ref ((q 24)), .ref ((q 25)), .ref ((q 26)), .ref ((q 27)), .ref ((q 28)), .ref ((q 29)), .ref ((q 30)), .int 0, .ref ((q 32)), .ref ((q 33)), .ref ((q 34)), .ref ((q 35)), .ref ((q 36)), .ref ((q 37)), .ref ((q 38)), .int 0, .int 0, .int 0, .int 0, .int 0, .int 0, .ref ((q 45)), .ref ((q 46)), .ref ((q 47)), .ref ((q 48)), .ref ((q 49)), .ref ((q 50)), .ref ((q 51))]))]) [0] (by decide) rfl
  have hKc := hK.sub (tys' := []) [] rfl
  have hFc := va_free (wc := [(h0, .inr (6, [.ref ((q 0)), .int 0, .int 0, .int 0, .int 0, .ref ((q 5)), .ref ((q 6)), .ref ((q 7)), .ref ((q 8)), .ref ((q 9)), .ref ((q 10)), .ref ((q 11)), .ref ((q 12)), .int 0, .int ((-1)), .int 0, .ref ((q 16)), .int 0, .ref ((q 18)), .ref ((q 19)), .ref ((q 20)), .ref ((q 21)), .ref ((q 22)), .ref ((q 23)), .ref ((q 24)), .ref ((q 25)), .ref ((q 26)), .ref ((q 27)), .ref ((q 28)), .ref ((q 29)), .ref ((q 30)), .int 0, .ref ((q 32)), .ref ((q 33)), .ref ((q 34)), .ref ((q 35)), .ref ((q 36)), .ref ((q 37)), .ref ((q 38)), .int 0, .int 0, .int 0, .int 0, .int 0, .int 0, .ref ((q 45)), .ref ((q 46)), .ref ((q 47)), .ref ((q 48)), .ref ((q 49)), .ref ((q 50)), .ref ((q 51))]))]) hD hS hA [0] rfl
  refine va_callv (va_runV (As := [.int ((-1)), .int p0]) (rest := []) ⟨hx, hb, hml, hown, hts⟩ (c_X6_workAll l dC dI h0 q p0 s.heap.size) (cwV 2 hts gX6_cup_c_X6_workAll_2 rfl rfl rfl (by decide +kernel) ⟨Nat.le_of_ble_eq_true rfl, Nat.le_of_ble_eq_true rfl⟩) ⟨fun a U g mk q => by obtain ⟨q0, q1, qP, qK, qD⟩ := q; exact ⟨q0, q1, qP, va_K.moved (u := U) (U := U.calling g mk a) (Vm.Alike.refl U.vm) qK, qD⟩, va_recv hKc hPc (ci := 6) (q0 := 0) rfl rfl, fun U hU hW => ⟨rfl, by rw [hU], by rw [hU]; exact hPc, va_K.moved hW.alike hKc, hDc.weaken (fun _ _ _ _ => trivial)⟩⟩ rfl rfl hl.1 rfl (lv_room (Nat.le_of_ble_eq_true rfl)) dX6_cup_8 ⟨show (0 + 0 : Nat) ≤ 0 from by omega, show (0 + 0 : Nat) ≤ 0 from by omega⟩) hS (fun q _ h => hFc q h) hFc (fun u t H1 locs ht hvm hw hB hz1 hk1 hS => ?_)
  obtain ⟨hP1, hK1, hD1⟩ := hB
  rw [ht] at hP1
  have hK1 := va_K.moved hvm.symm hK1
  try dsimp only at hw
  obtain ⟨hP, hD⟩ := va_join (wr := [((q 51), .inl ((cq 51), 16, .inl (fun _ => 0)))]) (w1 := [(h0, .inr (6, [.ref ((q 0)), .int 0, .int 0, .int 0, .int 0, .ref ((q 5)), .ref ((q 6)), .ref ((q 7)), .ref ((q 8)), .ref ((q 9)), .ref ((q 10)), .ref ((q 11)), .ref ((q 12)), .int 0, .int ((-1)), .int 0, .ref ((q 16)), .int 0, .ref ((q 18)), .ref ((q 19)), .ref ((q 20)), .ref ((q 21)), .ref ((q 22)), .ref ((q 23)), .ref ((q 24)), .ref ((q 25)), .ref ((q 26)), .ref ((q 27)), .ref ((q 28)), .ref ((q 29)), .ref ((q 30)), .int 0, .ref ((q 32)), .ref ((q 33)), .ref ((q 34)), .ref ((q 35)), .ref ((q 36)), .ref ((q 37)), .ref ((q 38)), .int 0, .int 0, .int 0, .int 0, .int 0, .int 0, .ref ((q 45)), .ref ((q 46)), .ref ((q 47)), .ref ((q 48)), .ref ((q 49)), .ref ((q 50)), .ref ((q 51))]))]) hP hD [0] [1] rfl rfl (by decide) (by decide) hk1 hFc hP1 hD1
  generalize H1 = H at hP hS ⊢
  have hP : va_P (dC, dI) vwCl [((q 51), .inl ((cq 51), 16, .inl (fun _ => 0))), (h0, .inr (6, [.ref ((q 0)), .int 0, .int 0, .int 0, .int 0, .ref ((q 5)), .ref ((q 6)), .ref ((q 7)), .ref ((q 8)), .ref ((q 9)), .ref ((q 10)), .ref ((q 11)), .ref ((q 12)), .int 0, .int ((-1)), .int 0, .ref ((q 16)), .int 0, .ref ((q 18)), .ref ((q 19)), .ref ((q 20)), .ref ((q 21)), .ref ((q 22)), .ref ((q 23)), .ref ((q 24)), .ref ((q 25)), .ref ((q 26)), .ref ((q 27)), .ref ((q 28)), .ref ((q 29)), .ref ((q 30)), .int 0, .ref ((q 32)), .ref ((q 33)), .ref ((q 34)), .ref ((q 35)), .ref ((q 36)), .ref ((q 37)), .ref ((q 38)), .int 0, .int 0, .int 0, .int 0, .int 0, .int 0, .ref ((q 45)), .ref ((q 46)), .ref ((q 47)), .ref ((q 48)), .ref ((q 49)), .ref ((q 50)), .ref ((q 51))]))] H := hP
  have hD : va_D A [((q 51), .inl ((cq 51), 16, .inl (fun _ => 0))), (h0, .inr (6, [.ref ((q 0)), .int 0, .int 0, .int 0, .int 0, .ref ((q 5)), .ref ((q 6)), .ref ((q 7)), .ref ((q 8)), .ref ((q 9)), .ref ((q 10)), .ref ((q 11)), .ref ((q 12)), .int 0, .int ((-1)), .int 0, .ref ((q 16)), .int 0, .ref ((q 18)), .ref ((q 19)), .ref ((q 20)), .ref ((q 21)), .ref ((q 22)), .ref ((q 23)), .ref ((q 24)), .ref ((q 25)), .ref ((q 26)), .ref ((q 27)), .ref ((q 28)), .ref ((q 29)), .ref ((q 30)), .int 0, .ref ((q 32)), .ref ((q 33)), .ref ((q 34)), .ref ((q 35)), .ref ((q 36)), .ref ((q 37)), .ref ((q 38)), .int 0, .int 0, .int 0, .int 0, .int 0, .int 0, .ref ((q 45)), .ref ((q 46)), .ref ((q 47)), .ref ((q 48)), .ref ((q 49)), .ref ((q 50)), .ref ((q 51))]))] := hD
  have hw_3 := hw
  refine lv_iconst (v := 0) hx hb dX6_cup_11 (by decide) ?_
  refine lv_istore_n (lv' := [(2, .int 0), (0, .ref h0), (1, .int p0)]) hx hb dX6_cup_12 rfl hl (by decide) rfl (fun ls hl => ?_)
  refine lv_iload_n hx hb dX6_cup_13 rfl (lv_at hl 0 rfl) ?_
  refine lv_bipush (v := 16) hx hb dX6_cup_14 (by decide) ?_
  refine lv_icmp_ge (tgt := 32) hx hb dX6_cup_16 (by decide) (fun c_4 => absurd c_4 (by decide)) (fun c_4 => ?_)
  refine lv_aload_n hx hb dX6_cup_19 rfl (lv_at hl 1 rfl) ?_
  refine va_get (D := (dC, dI)) (ci := 6) (v := .ref ((q 51))) (C := RX6) (T := TX6) (N := 52) hx hb hts hin6 hown hK hP 1 rfl rfl 51 (by decide) (hts (.fieldLink RX6 123 "SkiShotsModel" "sums" "[I") (by decide +kernel)) (fun _ h9 => h9) rfl dX6_cup_20 ?_
  refine lv_iload_n hx hb dX6_cup_23 rfl (lv_at hl 0 rfl) ?_
  refine lv_iconst (v := 0) hx hb dX6_cup_24 (by decide) ?_
  refine va_iast hx hb hK hP hD hS 0 0 rfl rfl (by unfold vp_in; decide) dX6_cup_25 (fun H locs hP hD hS => ?_)
  obtain ⟨f_5, ef_5⟩ : ∃ g : Nat → Int32, g = upd (fun _ => 0) (Int32.toNatClampNeg 0) (0) := ⟨_, rfl⟩
  have hP : va_P (dC, dI) vwCl [((q 51), .inl ((cq 51), 16, .inl (f_5))), (h0, .inr (6, [.ref ((q 0)), .int 0, .int 0, .int 0, .int 0, .ref ((q 5)), .ref ((q 6)), .ref ((q 7)), .ref ((q 8)), .ref ((q 9)), .ref ((q 10)), .ref ((q 11)), .ref ((q 12)), .int 0, .int ((-1)), .int 0, .ref ((q 16)), .int 0, .ref ((q 18)), .ref ((q 19)), .ref ((q 20)), .ref ((q 21)), .ref ((q 22)), .ref ((q 23)), .ref ((q 24)), .ref ((q 25)), .ref ((q 26)), .ref ((q 27)), .ref ((q 28)), .ref ((q 29)), .ref ((q 30)), .int 0, .ref ((q 32)), .ref ((q 33)), .ref ((q 34)), .ref ((q 35)), .ref ((q 36)), .ref ((q 37)), .ref ((q 38)), .int 0, .int 0, .int 0, .int 0, .int 0, .int 0, .ref ((q 45)), .ref ((q 46)), .ref ((q 47)), .ref ((q 48)), .ref ((q 49)), .ref ((q 50)), .ref ((q 51))]))] H := by rw [ef_5]; exact hP
  have hD : va_D A [((q 51), .inl ((cq 51), 16, .inl (f_5))), (h0, .inr (6, [.ref ((q 0)), .int 0, .int 0, .int 0, .int 0, .ref ((q 5)), .ref ((q 6)), .ref ((q 7)), .ref ((q 8)), .ref ((q 9)), .ref ((q 10)), .ref ((q 11)), .ref ((q 12)), .int 0, .int ((-1)), .int 0, .ref ((q 16)), .int 0, .ref ((q 18)), .ref ((q 19)), .ref ((q 20)), .ref ((q 21)), .ref ((q 22)), .ref ((q 23)), .ref ((q 24)), .ref ((q 25)), .ref ((q 26)), .ref ((q 27)), .ref ((q 28)), .ref ((q 29)), .ref ((q 30)), .int 0, .ref ((q 32)), .ref ((q 33)), .ref ((q 34)), .ref ((q 35)), .ref ((q 36)), .ref ((q 37)), .ref ((q 38)), .int 0, .int 0, .int 0, .int 0, .int 0, .int 0, .ref ((q 45)), .ref ((q 46)), .ref ((q 47)), .ref ((q 48)), .ref ((q 49)), .ref ((q 50)), .ref ((q 51))]))] := by rw [ef_5]; exact hD
  refine lv_iinc (v := 1) (lv' := [(2, .int 1), (0, .ref h0), (1, .int p0)]) hx hb dX6_cup_26 hl (k := 0) rfl (by decide) (by decide) rfl (fun ls hl => ?_)
  refine lv_goto (tgt := 13) hx hb dX6_cup_29 (by decide) ?_
  refine lv_iload_n hx hb dX6_cup_13 rfl (lv_at hl 0 rfl) ?_
  refine lv_bipush (v := 16) hx hb dX6_cup_14 (by decide) ?_
  refine lv_icmp_ge (tgt := 32) hx hb dX6_cup_16 (by decide) (fun c_6 => absurd c_6 (by decide)) (fun c_6 => ?_)
  refine lv_aload_n hx hb dX6_cup_19 rfl (lv_at hl 1 rfl) ?_
  refine va_get (D := (dC, dI)) (ci := 6) (v := .ref ((q 51))) (C := RX6) (T := TX6) (N := 52) hx hb hts hin6 hown hK hP 1 rfl rfl 51 (by decide) (hts (.fieldLink RX6 123 "SkiShotsModel" "sums" "[I") (by decide +kernel)) (fun _ h9 => h9) rfl dX6_cup_20 ?_
  refine lv_iload_n hx hb dX6_cup_23 rfl (lv_at hl 0 rfl) ?_
  refine lv_iconst (v := 0) hx hb dX6_cup_24 (by decide) ?_
  refine va_iast hx hb hK hP hD hS 0 0 rfl rfl (by unfold vp_in; decide) dX6_cup_25 (fun H locs hP hD hS => ?_)
  obtain ⟨f_7, ef_7⟩ : ∃ g : Nat → Int32, g = upd (f_5) (Int32.toNatClampNeg 1) (0) := ⟨_, rfl⟩
  have hP : va_P (dC, dI) vwCl [((q 51), .inl ((cq 51), 16, .inl (f_7))), (h0, .inr (6, [.ref ((q 0)), .int 0, .int 0, .int 0, .int 0, .ref ((q 5)), .ref ((q 6)), .ref ((q 7)), .ref ((q 8)), .ref ((q 9)), .ref ((q 10)), .ref ((q 11)), .ref ((q 12)), .int 0, .int ((-1)), .int 0, .ref ((q 16)), .int 0, .ref ((q 18)), .ref ((q 19)), .ref ((q 20)), .ref ((q 21)), .ref ((q 22)), .ref ((q 23)), .ref ((q 24)), .ref ((q 25)), .ref ((q 26)), .ref ((q 27)), .ref ((q 28)), .ref ((q 29)), .ref ((q 30)), .int 0, .ref ((q 32)), .ref ((q 33)), .ref ((q 34)), .ref ((q 35)), .ref ((q 36)), .ref ((q 37)), .ref ((q 38)), .int 0, .int 0, .int 0, .int 0, .int 0, .int 0, .ref ((q 45)), .ref ((q 46)), .ref ((q 47)), .ref ((q 48)), .ref ((q 49)), .ref ((q 50)), .ref ((q 51))]))] H := by rw [ef_7]; exact hP
  have hD : va_D A [((q 51), .inl ((cq 51), 16, .inl (f_7))), (h0, .inr (6, [.ref ((q 0)), .int 0, .int 0, .int 0, .int 0, .ref ((q 5)), .ref ((q 6)), .ref ((q 7)), .ref ((q 8)), .ref ((q 9)), .ref ((q 10)), .ref ((q 11)), .ref ((q 12)), .int 0, .int ((-1)), .int 0, .ref ((q 16)), .int 0, .ref ((q 18)), .ref ((q 19)), .ref ((q 20)), .ref ((q 21)), .ref ((q 22)), .ref ((q 23)), .ref ((q 24)), .ref ((q 25)), .ref ((q 26)), .ref ((q 27)), .ref ((q 28)), .ref ((q 29)), .ref ((q 30)), .int 0, .ref ((q 32)), .ref ((q 33)), .ref ((q 34)), .ref ((q 35)), .ref ((q 36)), .ref ((q 37)), .ref ((q 38)), .int 0, .int 0, .int 0, .int 0, .int 0, .int 0, .ref ((q 45)), .ref ((q 46)), .ref ((q 47)), .ref ((q 48)), .ref ((q 49)), .ref ((q 50)), .ref ((q 51))]))] := by rw [ef_7]; exact hD
  refine lv_iinc (v := 2) (lv' := [(2, .int 2), (0, .ref h0), (1, .int p0)]) hx hb dX6_cup_26 hl (k := 0) rfl (by decide) (by decide) rfl (fun ls hl => ?_)
  refine lv_goto (tgt := 13) hx hb dX6_cup_29 (by decide) ?_
  refine lv_iload_n hx hb dX6_cup_13 rfl (lv_at hl 0 rfl) ?_
  refine lv_bipush (v := 16) hx hb dX6_cup_14 (by decide) ?_
  refine lv_icmp_ge (tgt := 32) hx hb dX6_cup_16 (by decide) (fun c_8 => absurd c_8 (by decide)) (fun c_8 => ?_)
  refine lv_aload_n hx hb dX6_cup_19 rfl (lv_at hl 1 rfl) ?_
  refine va_get (D := (dC, dI)) (ci := 6) (v := .ref ((q 51))) (C := RX6) (T := TX6) (N := 52) hx hb hts hin6 hown hK hP 1 rfl rfl 51 (by decide) (hts (.fieldLink RX6 123 "SkiShotsModel" "sums" "[I") (by decide +kernel)) (fun _ h9 => h9) rfl dX6_cup_20 ?_
  refine lv_iload_n hx hb dX6_cup_23 rfl (lv_at hl 0 rfl) ?_
  refine lv_iconst (v := 0) hx hb dX6_cup_24 (by decide) ?_
  refine va_iast hx hb hK hP hD hS 0 0 rfl rfl (by unfold vp_in; decide) dX6_cup_25 (fun H locs hP hD hS => ?_)
  obtain ⟨f_9, ef_9⟩ : ∃ g : Nat → Int32, g = upd (f_7) (Int32.toNatClampNeg 2) (0) := ⟨_, rfl⟩
  have hP : va_P (dC, dI) vwCl [((q 51), .inl ((cq 51), 16, .inl (f_9))), (h0, .inr (6, [.ref ((q 0)), .int 0, .int 0, .int 0, .int 0, .ref ((q 5)), .ref ((q 6)), .ref ((q 7)), .ref ((q 8)), .ref ((q 9)), .ref ((q 10)), .ref ((q 11)), .ref ((q 12)), .int 0, .int ((-1)), .int 0, .ref ((q 16)), .int 0, .ref ((q 18)), .ref ((q 19)), .ref ((q 20)), .ref ((q 21)), .ref ((q 22)), .ref ((q 23)), .ref ((q 24)), .ref ((q 25)), .ref ((q 26)), .ref ((q 27)), .ref ((q 28)), .ref ((q 29)), .ref ((q 30)), .int 0, .ref ((q 32)), .ref ((q 33)), .ref ((q 34)), .ref ((q 35)), .ref ((q 36)), .ref ((q 37)), .ref ((q 38)), .int 0, .int 0, .int 0, .int 0, .int 0, .int 0, .ref ((q 45)), .ref ((q 46)), .ref ((q 47)), .ref ((q 48)), .ref ((q 49)), .ref ((q 50)), .ref ((q 51))]))] H := by rw [ef_9]; exact hP
  have hD : va_D A [((q 51), .inl ((cq 51), 16, .inl (f_9))), (h0, .inr (6, [.ref ((q 0)), .int 0, .int 0, .int 0, .int 0, .ref ((q 5)), .ref ((q 6)), .ref ((q 7)), .ref ((q 8)), .ref ((q 9)), .ref ((q 10)), .ref ((q 11)), .ref ((q 12)), .int 0, .int ((-1)), .int 0, .ref ((q 16)), .int 0, .ref ((q 18)), .ref ((q 19)), .ref ((q 20)), .ref ((q 21)), .ref ((q 22)), .ref ((q 23)), .ref ((q 24)), .ref ((q 25)), .ref ((q 26)), .ref ((q 27)), .ref ((q 28)), .ref ((q 29)), .ref ((q 30)), .int 0, .ref ((q 32)), .ref ((q 33)), .ref ((q 34)), .ref ((q 35)), .ref ((q 36)), .ref ((q 37)), .ref ((q 38)), .int 0, .int 0, .int 0, .int 0, .int 0, .int 0, .ref ((q 45)), .ref ((q 46)), .ref ((q 47)), .ref ((q 48)), .ref ((q 49)), .ref ((q 50)), .ref ((q 51))]))] := by rw [ef_9]; exact hD
  refine lv_iinc (v := 3) (lv' := [(2, .int 3), (0, .ref h0), (1, .int p0)]) hx hb dX6_cup_26 hl (k := 0) rfl (by decide) (by decide) rfl (fun ls hl => ?_)
  refine lv_goto (tgt := 13) hx hb dX6_cup_29 (by decide) ?_
  refine lv_iload_n hx hb dX6_cup_13 rfl (lv_at hl 0 rfl) ?_
  refine lv_bipush (v := 16) hx hb dX6_cup_14 (by decide) ?_
  refine lv_icmp_ge (tgt := 32) hx hb dX6_cup_16 (by decide) (fun c_10 => absurd c_10 (by decide)) (fun c_10 => ?_)
  refine lv_aload_n hx hb dX6_cup_19 rfl (lv_at hl 1 rfl) ?_
  refine va_get (D := (dC, dI)) (ci := 6) (v := .ref ((q 51))) (C := RX6) (T := TX6) (N := 52) hx hb hts hin6 hown hK hP 1 rfl rfl 51 (by decide) (hts (.fieldLink RX6 123 "SkiShotsModel" "sums" "[I") (by decide +kernel)) (fun _ h9 => h9) rfl dX6_cup_20 ?_
  refine lv_iload_n hx hb dX6_cup_23 rfl (lv_at hl 0 rfl) ?_
  refine lv_iconst (v := 0) hx hb dX6_cup_24 (by decide) ?_
  refine va_iast hx hb hK hP hD hS 0 0 rfl rfl (by unfold vp_in; decide) dX6_cup_25 (fun H locs hP hD hS => ?_)
  obtain ⟨f_11, ef_11⟩ : ∃ g : Nat → Int32, g = upd (f_9) (Int32.toNatClampNeg 3) (0) := ⟨_, rfl⟩
  have hP : va_P (dC, dI) vwCl [((q 51), .inl ((cq 51), 16, .inl (f_11))), (h0, .inr (6, [.ref ((q 0)), .int 0, .int 0, .int 0, .int 0, .ref ((q 5)), .ref ((q 6)), .ref ((q 7)), .ref ((q 8)), .ref ((q 9)), .ref ((q 10)), .ref ((q 11)), .ref ((q 12)), .int 0, .int ((-1)), .int 0, .ref ((q 16)), .int 0, .ref ((q 18)), .ref ((q 19)), .ref ((q 20)), .ref ((q 21)), .ref ((q 22)), .ref ((q 23)), .ref ((q 24)), .ref ((q 25)), .ref ((q 26)), .ref ((q 27)), .ref ((q 28)), .ref ((q 29)), .ref ((q 30)), .int 0, .ref ((q 32)), .ref ((q 33)), .ref ((q 34)), .ref ((q 35)), .ref ((q 36)), .ref ((q 37)), .ref ((q 38)), .int 0, .int 0, .int 0, .int 0, .int 0, .int 0, .ref ((q 45)), .ref ((q 46)), .ref ((q 47)), .ref ((q 48)), .ref ((q 49)), .ref ((q 50)), .ref ((q 51))]))] H := by rw [ef_11]; exact hP
  have hD : va_D A [((q 51), .inl ((cq 51), 16, .inl (f_11))), (h0, .inr (6, [.ref ((q 0)), .int 0, .int 0, .int 0, .int 0, .ref ((q 5)), .ref ((q 6)), .ref ((q 7)), .ref ((q 8)), .ref ((q 9)), .ref ((q 10)), .ref ((q 11)), .ref ((q 12)), .int 0, .int ((-1)), .int 0, .ref ((q 16)), .int 0, .ref ((q 18)), .ref ((q 19)), .ref ((q 20)), .ref ((q 21)), .ref ((q 22)), .ref ((q 23)), .ref ((q 24)), .ref ((q 25)), .ref ((q 26)), .ref ((q 27)), .ref ((q 28)), .ref ((q 29)), .ref ((q 30)), .int 0, .ref ((q 32)), .ref ((q 33)), .ref ((q 34)), .ref ((q 35)), .ref ((q 36)), .ref ((q 37)), .ref ((q 38)), .int 0, .int 0, .int 0, .int 0, .int 0, .int 0, .ref ((q 45)), .ref ((q 46)), .ref ((q 47)), .ref ((q 48)), .ref ((q 49)), .ref ((q 50)), .ref ((q 51))]))] := by rw [ef_11]; exact hD
  refine lv_iinc (v := 4) (lv' := [(2, .int 4), (0, .ref h0), (1, .int p0)]) hx hb dX6_cup_26 hl (k := 0) rfl (by decide) (by decide) rfl (fun ls hl => ?_)
  refine lv_goto (tgt := 13) hx hb dX6_cup_29 (by decide) ?_
  refine lv_iload_n hx hb dX6_cup_13 rfl (lv_at hl 0 rfl) ?_
  refine lv_bipush (v := 16) hx hb dX6_cup_14 (by decide) ?_
  refine lv_icmp_ge (tgt := 32) hx hb dX6_cup_16 (by decide) (fun c_12 => absurd c_12 (by decide)) (fun c_12 => ?_)
  refine lv_aload_n hx hb dX6_cup_19 rfl (lv_at hl 1 rfl) ?_
  refine va_get (D := (dC, dI)) (ci := 6) (v := .ref ((q 51))) (C := RX6) (T := TX6) (N := 52) hx hb hts hin6 hown hK hP 1 rfl rfl 51 (by decide) (hts (.fieldLink RX6 123 "SkiShotsModel" "sums" "[I") (by decide +kernel)) (fun _ h9 => h9) rfl dX6_cup_20 ?_
  refine lv_iload_n hx hb dX6_cup_23 rfl (lv_at hl 0 rfl) ?_
  refine lv_iconst (v := 0) hx hb dX6_cup_24 (by decide) ?_
  refine va_iast hx hb hK hP hD hS 0 0 rfl rfl (by unfold vp_in; decide) dX6_cup_25 (fun H locs hP hD hS => ?_)
  obtain ⟨f_13, ef_13⟩ : ∃ g : Nat → Int32, g = upd (f_11) (Int32.toNatClampNeg 4) (0) := ⟨_, rfl⟩
  have hP : va_P (dC, dI) vwCl [((q 51), .inl ((cq 51), 16, .inl (f_13))), (h0, .inr (6, [.ref ((q 0)), .int 0, .int 0, .int 0, .int 0, .ref ((q 5)), .ref ((q 6)), .ref ((q 7)), .ref ((q 8)), .ref ((q 9)), .ref ((q 10)), .ref ((q 11)), .ref ((q 12)), .int 0, .int ((-1)), .int 0, .ref ((q 16)), .int 0, .ref ((q 18)), .ref ((q 19)), .ref ((q 20)), .ref ((q 21)), .ref ((q 22)), .ref ((q 23)), .ref ((q 24)), .ref ((q 25)), .ref ((q 26)), .ref ((q 27)), .ref ((q 28)), .ref ((q 29)), .ref ((q 30)), .int 0, .ref ((q 32)), .ref ((q 33)), .ref ((q 34)), .ref ((q 35)), .ref ((q 36)), .ref ((q 37)), .ref ((q 38)), .int 0, .int 0, .int 0, .int 0, .int 0, .int 0, .ref ((q 45)), .ref ((q 46)), .ref ((q 47)), .ref ((q 48)), .ref ((q 49)), .ref ((q 50)), .ref ((q 51))]))] H := by rw [ef_13]; exact hP
  have hD : va_D A [((q 51), .inl ((cq 51), 16, .inl (f_13))), (h0, .inr (6, [.ref ((q 0)), .int 0, .int 0, .int 0, .int 0, .ref ((q 5)), .ref ((q 6)), .ref ((q 7)), .ref ((q 8)), .ref ((q 9)), .ref ((q 10)), .ref ((q 11)), .ref ((q 12)), .int 0, .int ((-1)), .int 0, .ref ((q 16)), .int 0, .ref ((q 18)), .ref ((q 19)), .ref ((q 20)), .ref ((q 21)), .ref ((q 22)), .ref ((q 23)), .ref ((q 24)), .ref ((q 25)), .ref ((q 26)), .ref ((q 27)), .ref ((q 28)), .ref ((q 29)), .ref ((q 30)), .int 0, .ref ((q 32)), .ref ((q 33)), .ref ((q 34)), .ref ((q 35)), .ref ((q 36)), .ref ((q 37)), .ref ((q 38)), .int 0, .int 0, .int 0, .int 0, .int 0, .int 0, .ref ((q 45)), .ref ((q 46)), .ref ((q 47)), .ref ((q 48)), .ref ((q 49)), .ref ((q 50)), .ref ((q 51))]))] := by rw [ef_13]; exact hD
  refine lv_iinc (v := 5) (lv' := [(2, .int 5), (0, .ref h0), (1, .int p0)]) hx hb dX6_cup_26 hl (k := 0) rfl (by decide) (by decide) rfl (fun ls hl => ?_)
  refine lv_goto (tgt := 13) hx hb dX6_cup_29 (by decide) ?_
  refine lv_iload_n hx hb dX6_cup_13 rfl (lv_at hl 0 rfl) ?_
  refine lv_bipush (v := 16) hx hb dX6_cup_14 (by decide) ?_
  refine lv_icmp_ge (tgt := 32) hx hb dX6_cup_16 (by decide) (fun c_14 => absurd c_14 (by decide)) (fun c_14 => ?_)
  refine lv_aload_n hx hb dX6_cup_19 rfl (lv_at hl 1 rfl) ?_
  refine va_get (D := (dC, dI)) (ci := 6) (v := .ref ((q 51))) (C := RX6) (T := TX6) (N := 52) hx hb hts hin6 hown hK hP 1 rfl rfl 51 (by decide) (hts (.fieldLink RX6 123 "SkiShotsModel" "sums" "[I") (by decide +kernel)) (fun _ h9 => h9) rfl dX6_cup_20 ?_
  refine lv_iload_n hx hb dX6_cup_23 rfl (lv_at hl 0 rfl) ?_
  refine lv_iconst (v := 0) hx hb dX6_cup_24 (by decide) ?_
  refine va_iast hx hb hK hP hD hS 0 0 rfl rfl (by unfold vp_in; decide) dX6_cup_25 (fun H locs hP hD hS => ?_)
  obtain ⟨f_15, ef_15⟩ : ∃ g : Nat → Int32, g = upd (f_13) (Int32.toNatClampNeg 5) (0) := ⟨_, rfl⟩
  have hP : va_P (dC, dI) vwCl [((q 51), .inl ((cq 51), 16, .inl (f_15))), (h0, .inr (6, [.ref ((q 0)), .int 0, .int 0, .int 0, .int 0, .ref ((q 5)), .ref ((q 6)), .ref ((q 7)), .ref ((q 8)), .ref ((q 9)), .ref ((q 10)), .ref ((q 11)), .ref ((q 12)), .int 0, .int ((-1)), .int 0, .ref ((q 16)), .int 0, .ref ((q 18)), .ref ((q 19)), .ref ((q 20)), .ref ((q 21)), .ref ((q 22)), .ref ((q 23)), .ref ((q 24)), .ref ((q 25)), .ref ((q 26)), .ref ((q 27)), .ref ((q 28)), .ref ((q 29)), .ref ((q 30)), .int 0, .ref ((q 32)), .ref ((q 33)), .ref ((q 34)), .ref ((q 35)), .ref ((q 36)), .ref ((q 37)), .ref ((q 38)), .int 0, .int 0, .int 0, .int 0, .int 0, .int 0, .ref ((q 45)), .ref ((q 46)), .ref ((q 47)), .ref ((q 48)), .ref ((q 49)), .ref ((q 50)), .ref ((q 51))]))] H := by rw [ef_15]; exact hP
  have hD : va_D A [((q 51), .inl ((cq 51), 16, .inl (f_15))), (h0, .inr (6, [.ref ((q 0)), .int 0, .int 0, .int 0, .int 0, .ref ((q 5)), .ref ((q 6)), .ref ((q 7)), .ref ((q 8)), .ref ((q 9)), .ref ((q 10)), .ref ((q 11)), .ref ((q 12)), .int 0, .int ((-1)), .int 0, .ref ((q 16)), .int 0, .ref ((q 18)), .ref ((q 19)), .ref ((q 20)), .ref ((q 21)), .ref ((q 22)), .ref ((q 23)), .ref ((q 24)), .ref ((q 25)), .ref ((q 26)), .ref ((q 27)), .ref ((q 28)), .ref ((q 29)), .ref ((q 30)), .int 0, .ref ((q 32)), .ref ((q 33)), .ref ((q 34)), .ref ((q 35)), .ref ((q 36)), .ref ((q 37)), .ref ((q 38)), .int 0, .int 0, .int 0, .int 0, .int 0, .int 0, .ref ((q 45)), .ref ((q 46)), .ref ((q 47)), .ref ((q 48)), .ref ((q 49)), .ref ((q 50)), .ref ((q 51))]))] := by rw [ef_15]; exact hD
  refine lv_iinc (v := 6) (lv' := [(2, .int 6), (0, .ref h0), (1, .int p0)]) hx hb dX6_cup_26 hl (k := 0) rfl (by decide) (by decide) rfl (fun ls hl => ?_)
  refine lv_goto (tgt := 13) hx hb dX6_cup_29 (by decide) ?_
  refine lv_iload_n hx hb dX6_cup_13 rfl (lv_at hl 0 rfl) ?_
  refine lv_bipush (v := 16) hx hb dX6_cup_14 (by decide) ?_
  refine lv_icmp_ge (tgt := 32) hx hb dX6_cup_16 (by decide) (fun c_16 => absurd c_16 (by decide)) (fun c_16 => ?_)
  refine lv_aload_n hx hb dX6_cup_19 rfl (lv_at hl 1 rfl) ?_
  refine va_get (D := (dC, dI)) (ci := 6) (v := .ref ((q 51))) (C := RX6) (T := TX6) (N := 52) hx hb hts hin6 hown hK hP 1 rfl rfl 51 (by decide) (hts (.fieldLink RX6 123 "SkiShotsModel" "sums" "[I") (by decide +kernel)) (fun _ h9 => h9) rfl dX6_cup_20 ?_
  refine lv_iload_n hx hb dX6_cup_23 rfl (lv_at hl 0 rfl) ?_
  refine lv_iconst (v := 0) hx hb dX6_cup_24 (by decide) ?_
  refine va_iast hx hb hK hP hD hS 0 0 rfl rfl (by unfold vp_in; decide) dX6_cup_25 (fun H locs hP hD hS => ?_)
  obtain ⟨f_17, ef_17⟩ : ∃ g : Nat → Int32, g = upd (f_15) (Int32.toNatClampNeg 6) (0) := ⟨_, rfl⟩
  have hP : va_P (dC, dI) vwCl [((q 51), .inl ((cq 51), 16, .inl (f_17))), (h0, .inr (6, [.ref ((q 0)), .int 0, .int 0, .int 0, .int 0, .ref ((q 5)), .ref ((q 6)), .ref ((q 7)), .ref ((q 8)), .ref ((q 9)), .ref ((q 10)), .ref ((q 11)), .ref ((q 12)), .int 0, .int ((-1)), .int 0, .ref ((q 16)), .int 0, .ref ((q 18)), .ref ((q 19)), .ref ((q 20)), .ref ((q 21)), .ref ((q 22)), .ref ((q 23)), .ref ((q 24)), .ref ((q 25)), .ref ((q 26)), .ref ((q 27)), .ref ((q 28)), .ref ((q 29)), .ref ((q 30)), .int 0, .ref ((q 32)), .ref ((q 33)), .ref ((q 34)), .ref ((q 35)), .ref ((q 36)), .ref ((q 37)), .ref ((q 38)), .int 0, .int 0, .int 0, .int 0, .int 0, .int 0, .ref ((q 45)), .ref ((q 46)), .ref ((q 47)), .ref ((q 48)), .ref ((q 49)), .ref ((q 50)), .ref ((q 51))]))] H := by rw [ef_17]; exact hP
  have hD : va_D A [((q 51), .inl ((cq 51), 16, .inl (f_17))), (h0, .inr (6, [.ref ((q 0)), .int 0, .int 0, .int 0, .int 0, .ref ((q 5)), .ref ((q 6)), .ref ((q 7)), .ref ((q 8)), .ref ((q 9)), .ref ((q 10)), .ref ((q 11)), .ref ((q 12)), .int 0, .int ((-1)), .int 0, .ref ((q 16)), .int 0, .ref ((q 18)), .ref ((q 19)), .ref ((q 20)), .ref ((q 21)), .ref ((q 22)), .ref ((q 23)), .ref ((q 24)), .ref ((q 25)), .ref ((q 26)), .ref ((q 27)), .ref ((q 28)), .ref ((q 29)), .ref ((q 30)), .int 0, .ref ((q 32)), .ref ((q 33)), .ref ((q 34)), .ref ((q 35)), .ref ((q 36)), .ref ((q 37)), .ref ((q 38)), .int 0, .int 0, .int 0, .int 0, .int 0, .int 0, .ref ((q 45)), .ref ((q 46)), .ref ((q 47)), .ref ((q 48)), .ref ((q 49)), .ref ((q 50)), .ref ((q 51))]))] := by rw [ef_17]; exact hD
  refine lv_iinc (v := 7) (lv' := [(2, .int 7), (0, .ref h0), (1, .int p0)]) hx hb dX6_cup_26 hl (k := 0) rfl (by decide) (by decide) rfl (fun ls hl => ?_)
  refine lv_goto (tgt := 13) hx hb dX6_cup_29 (by decide) ?_
  refine lv_iload_n hx hb dX6_cup_13 rfl (lv_at hl 0 rfl) ?_
  refine lv_bipush (v := 16) hx hb dX6_cup_14 (by decide) ?_
  refine lv_icmp_ge (tgt := 32) hx hb dX6_cup_16 (by decide) (fun c_18 => absurd c_18 (by decide)) (fun c_18 => ?_)
  refine lv_aload_n hx hb dX6_cup_19 rfl (lv_at hl 1 rfl) ?_
  refine va_get (D := (dC, dI)) (ci := 6) (v := .ref ((q 51))) (C := RX6) (T := TX6) (N := 52) hx hb hts hin6 hown hK hP 1 rfl rfl 51 (by decide) (hts (.fieldLink RX6 123 "SkiShotsModel" "sums" "[I") (by decide +kernel)) (fun _ h9 => h9) rfl dX6_cup_20 ?_
  refine lv_iload_n hx hb dX6_cup_23 rfl (lv_at hl 0 rfl) ?_
  refine lv_iconst (v := 0) hx hb dX6_cup_24 (by decide) ?_
  refine va_iast hx hb hK hP hD hS 0 0 rfl rfl (by unfold vp_in; decide) dX6_cup_25 (fun H locs hP hD hS => ?_)
  obtain ⟨f_19, ef_19⟩ : ∃ g : Nat → Int32, g = upd (f_17) (Int32.toNatClampNeg 7) (0) := ⟨_, rfl⟩
  have hP : va_P (dC, dI) vwCl [((q 51), .inl ((cq 51), 16, .inl (f_19))), (h0, .inr (6, [.ref ((q 0)), .int 0, .int 0, .int 0, .int 0, .ref ((q 5)), .ref ((q 6)), .ref ((q 7)), .ref ((q 8)), .ref ((q 9)), .ref ((q 10)), .ref ((q 11)), .ref ((q 12)), .int 0, .int ((-1)), .int 0, .ref ((q 16)), .int 0, .ref ((q 18)), .ref ((q 19)), .ref ((q 20)), .ref ((q 21)), .ref ((q 22)), .ref ((q 23)), .ref ((q 24)), .ref ((q 25)), .ref ((q 26)), .ref ((q 27)), .ref ((q 28)), .ref ((q 29)), .ref ((q 30)), .int 0, .ref ((q 32)), .ref ((q 33)), .ref ((q 34)), .ref ((q 35)), .ref ((q 36)), .ref ((q 37)), .ref ((q 38)), .int 0, .int 0, .int 0, .int 0, .int 0, .int 0, .ref ((q 45)), .ref ((q 46)), .ref ((q 47)), .ref ((q 48)), .ref ((q 49)), .ref ((q 50)), .ref ((q 51))]))] H := by rw [ef_19]; exact hP
  have hD : va_D A [((q 51), .inl ((cq 51), 16, .inl (f_19))), (h0, .inr (6, [.ref ((q 0)), .int 0, .int 0, .int 0, .int 0, .ref ((q 5)), .ref ((q 6)), .ref ((q 7)), .ref ((q 8)), .ref ((q 9)), .ref ((q 10)), .ref ((q 11)), .ref ((q 12)), .int 0, .int ((-1)), .int 0, .ref ((q 16)), .int 0, .ref ((q 18)), .ref ((q 19)), .ref ((q 20)), .ref ((q 21)), .ref ((q 22)), .ref ((q 23)), .ref ((q 24)), .ref ((q 25)), .ref ((q 26)), .ref ((q 27)), .ref ((q 28)), .ref ((q 29)), .ref ((q 30)), .int 0, .ref ((q 32)), .ref ((q 33)), .ref ((q 34)), .ref ((q 35)), .ref ((q 36)), .ref ((q 37)), .ref ((q 38)), .int 0, .int 0, .int 0, .int 0, .int 0, .int 0, .ref ((q 45)), .ref ((q 46)), .ref ((q 47)), .ref ((q 48)), .ref ((q 49)), .ref ((q 50)), .ref ((q 51))]))] := by rw [ef_19]; exact hD
  refine lv_iinc (v := 8) (lv' := [(2, .int 8), (0, .ref h0), (1, .int p0)]) hx hb dX6_cup_26 hl (k := 0) rfl (by decide) (by decide) rfl (fun ls hl => ?_)
  refine lv_goto (tgt := 13) hx hb dX6_cup_29 (by decide) ?_
  refine lv_iload_n hx hb dX6_cup_13 rfl (lv_at hl 0 rfl) ?_
  refine lv_bipush (v := 16) hx hb dX6_cup_14 (by decide) ?_
  refine lv_icmp_ge (tgt := 32) hx hb dX6_cup_16 (by decide) (fun c_20 => absurd c_20 (by decide)) (fun c_20 => ?_)
  refine lv_aload_n hx hb dX6_cup_19 rfl (lv_at hl 1 rfl) ?_
  refine va_get (D := (dC, dI)) (ci := 6) (v := .ref ((q 51))) (C := RX6) (T := TX6) (N := 52) hx hb hts hin6 hown hK hP 1 rfl rfl 51 (by decide) (hts (.fieldLink RX6 123 "SkiShotsModel" "sums" "[I") (by decide +kernel)) (fun _ h9 => h9) rfl dX6_cup_20 ?_
  refine lv_iload_n hx hb dX6_cup_23 rfl (lv_at hl 0 rfl) ?_
  refine lv_iconst (v := 0) hx hb dX6_cup_24 (by decide) ?_
  refine va_iast hx hb hK hP hD hS 0 0 rfl rfl (by unfold vp_in; decide) dX6_cup_25 (fun H locs hP hD hS => ?_)
  obtain ⟨f_21, ef_21⟩ : ∃ g : Nat → Int32, g = upd (f_19) (Int32.toNatClampNeg 8) (0) := ⟨_, rfl⟩
  have hP : va_P (dC, dI) vwCl [((q 51), .inl ((cq 51), 16, .inl (f_21))), (h0, .inr (6, [.ref ((q 0)), .int 0, .int 0, .int 0, .int 0, .ref ((q 5)), .ref ((q 6)), .ref ((q 7)), .ref ((q 8)), .ref ((q 9)), .ref ((q 10)), .ref ((q 11)), .ref ((q 12)), .int 0, .int ((-1)), .int 0, .ref ((q 16)), .int 0, .ref ((q 18)), .ref ((q 19)), .ref ((q 20)), .ref ((q 21)), .ref ((q 22)), .ref ((q 23)), .ref ((q 24)), .ref ((q 25)), .ref ((q 26)), .ref ((q 27)), .ref ((q 28)), .ref ((q 29)), .ref ((q 30)), .int 0, .ref ((q 32)), .ref ((q 33)), .ref ((q 34)), .ref ((q 35)), .ref ((q 36)), .ref ((q 37)), .ref ((q 38)), .int 0, .int 0, .int 0, .int 0, .int 0, .int 0, .ref ((q 45)), .ref ((q 46)), .ref ((q 47)), .ref ((q 48)), .ref ((q 49)), .ref ((q 50)), .ref ((q 51))]))] H := by rw [ef_21]; exact hP
  have hD : va_D A [((q 51), .inl ((cq 51), 16, .inl (f_21))), (h0, .inr (6, [.ref ((q 0)), .int 0, .int 0, .int 0, .int 0, .ref ((q 5)), .ref ((q 6)), .ref ((q 7)), .ref ((q 8)), .ref ((q 9)), .ref ((q 10)), .ref ((q 11)), .ref ((q 12)), .int 0, .int ((-1)), .int 0, .ref ((q 16)), .int 0, .ref ((q 18)), .ref ((q 19)), .ref ((q 20)), .ref ((q 21)), .ref ((q 22)), .ref ((q 23)), .ref ((q 24)), .ref ((q 25)), .ref ((q 26)), .ref ((q 27)), .ref ((q 28)), .ref ((q 29)), .ref ((q 30)), .int 0, .ref ((q 32)), .ref ((q 33)), .ref ((q 34)), .ref ((q 35)), .ref ((q 36)), .ref ((q 37)), .ref ((q 38)), .int 0, .int 0, .int 0, .int 0, .int 0, .int 0, .ref ((q 45)), .ref ((q 46)), .ref ((q 47)), .ref ((q 48)), .ref ((q 49)), .ref ((q 50)), .ref ((q 51))]))] := by rw [ef_21]; exact hD
  refine lv_iinc (v := 9) (lv' := [(2, .int 9), (0, .ref h0), (1, .int p0)]) hx hb dX6_cup_26 hl (k := 0) rfl (by decide) (by decide) rfl (fun ls hl => ?_)
  refine lv_goto (tgt := 13) hx hb dX6_cup_29 (by decide) ?_
  refine lv_iload_n hx hb dX6_cup_13 rfl (lv_at hl 0 rfl) ?_
  refine lv_bipush (v := 16) hx hb dX6_cup_14 (by decide) ?_
  refine lv_icmp_ge (tgt := 32) hx hb dX6_cup_16 (by decide) (fun c_22 => absurd c_22 (by decide)) (fun c_22 => ?_)
  refine lv_aload_n hx hb dX6_cup_19 rfl (lv_at hl 1 rfl) ?_
  refine va_get (D := (dC, dI)) (ci := 6) (v := .ref ((q 51))) (C := RX6) (T := TX6) (N := 52) hx hb hts hin6 hown hK hP 1 rfl rfl 51 (by decide) (hts (.fieldLink RX6 123 "SkiShotsModel" "sums" "[I") (by decide +kernel)) (fun _ h9 => h9) rfl dX6_cup_20 ?_
  refine lv_iload_n hx hb dX6_cup_23 rfl (lv_at hl 0 rfl) ?_
  refine lv_iconst (v := 0) hx hb dX6_cup_24 (by decide) ?_
  refine va_iast hx hb hK hP hD hS 0 0 rfl rfl (by unfold vp_in; decide) dX6_cup_25 (fun H locs hP hD hS => ?_)
  obtain ⟨f_23, ef_23⟩ : ∃ g : Nat → Int32, g = upd (f_21) (Int32.toNatClampNeg 9) (0) := ⟨_, rfl⟩
  have hP : va_P (dC, dI) vwCl [((q 51), .inl ((cq 51), 16, .inl (f_23))), (h0, .inr (6, [.ref ((q 0)), .int 0, .int 0, .int 0, .int 0, .ref ((q 5)), .ref ((q 6)), .ref ((q 7)), .ref ((q 8)), .ref ((q 9)), .ref ((q 10)), .ref ((q 11)), .ref ((q 12)), .int 0, .int ((-1)), .int 0, .ref ((q 16)), .int 0, .ref ((q 18)), .ref ((q 19)), .ref ((q 20)), .ref ((q 21)), .ref ((q 22)), .ref ((q 23)), .ref ((q 24)), .ref ((q 25)), .ref ((q 26)), .ref ((q 27)), .ref ((q 28)), .ref ((q 29)), .ref ((q 30)), .int 0, .ref ((q 32)), .ref ((q 33)), .ref ((q 34)), .ref ((q 35)), .ref ((q 36)), .ref ((q 37)), .ref ((q 38)), .int 0, .int 0, .int 0, .int 0, .int 0, .int 0, .ref ((q 45)), .ref ((q 46)), .ref ((q 47)), .ref ((q 48)), .ref ((q 49)), .ref ((q 50)), .ref ((q 51))]))] H := by rw [ef_23]; exact hP
  have hD : va_D A [((q 51), .inl ((cq 51), 16, .inl (f_23))), (h0, .inr (6, [.ref ((q 0)), .int 0, .int 0, .int 0, .int 0, .ref ((q 5)), .ref ((q 6)), .ref ((q 7)), .ref ((q 8)), .ref ((q 9)), .ref ((q 10)), .ref ((q 11)), .ref ((q 12)), .int 0, .int ((-1)), .int 0, .ref ((q 16)), .int 0, .ref ((q 18)), .ref ((q 19)), .ref ((q 20)), .ref ((q 21)), .ref ((q 22)), .ref ((q 23)), .ref ((q 24)), .ref ((q 25)), .ref ((q 26)), .ref ((q 27)), .ref ((q 28)), .ref ((q 29)), .ref ((q 30)), .int 0, .ref ((q 32)), .ref ((q 33)), .ref ((q 34)), .ref ((q 35)), .ref ((q 36)), .ref ((q 37)), .ref ((q 38)), .int 0, .int 0, .int 0, .int 0, .int 0, .int 0, .ref ((q 45)), .ref ((q 46)), .ref ((q 47)), .ref ((q 48)), .ref ((q 49)), .ref ((q 50)), .ref ((q 51))]))] := by rw [ef_23]; exact hD
  refine lv_iinc (v := 10) (lv' := [(2, .int 10), (0, .ref h0), (1, .int p0)]) hx hb dX6_cup_26 hl (k := 0) rfl (by decide) (by decide) rfl (fun ls hl => ?_)
  refine lv_goto (tgt := 13) hx hb dX6_cup_29 (by decide) ?_
  refine lv_iload_n hx hb dX6_cup_13 rfl (lv_at hl 0 rfl) ?_
  refine lv_bipush (v := 16) hx hb dX6_cup_14 (by decide) ?_
  refine lv_icmp_ge (tgt := 32) hx hb dX6_cup_16 (by decide) (fun c_24 => absurd c_24 (by decide)) (fun c_24 => ?_)
  refine lv_aload_n hx hb dX6_cup_19 rfl (lv_at hl 1 rfl) ?_
  refine va_get (D := (dC, dI)) (ci := 6) (v := .ref ((q 51))) (C := RX6) (T := TX6) (N := 52) hx hb hts hin6 hown hK hP 1 rfl rfl 51 (by decide) (hts (.fieldLink RX6 123 "SkiShotsModel" "sums" "[I") (by decide +kernel)) (fun _ h9 => h9) rfl dX6_cup_20 ?_
  refine lv_iload_n hx hb dX6_cup_23 rfl (lv_at hl 0 rfl) ?_
  refine lv_iconst (v := 0) hx hb dX6_cup_24 (by decide) ?_
  refine va_iast hx hb hK hP hD hS 0 0 rfl rfl (by unfold vp_in; decide) dX6_cup_25 (fun H locs hP hD hS => ?_)
  obtain ⟨f_25, ef_25⟩ : ∃ g : Nat → Int32, g = upd (f_23) (Int32.toNatClampNeg 10) (0) := ⟨_, rfl⟩
  have hP : va_P (dC, dI) vwCl [((q 51), .inl ((cq 51), 16, .inl (f_25))), (h0, .inr (6, [.ref ((q 0)), .int 0, .int 0, .int 0, .int 0, .ref ((q 5)), .ref ((q 6)), .ref ((q 7)), .ref ((q 8)), .ref ((q 9)), .ref ((q 10)), .ref ((q 11)), .ref ((q 12)), .int 0, .int ((-1)), .int 0, .ref ((q 16)), .int 0, .ref ((q 18)), .ref ((q 19)), .ref ((q 20)), .ref ((q 21)), .ref ((q 22)), .ref ((q 23)), .ref ((q 24)), .ref ((q 25)), .ref ((q 26)), .ref ((q 27)), .ref ((q 28)), .ref ((q 29)), .ref ((q 30)), .int 0, .ref ((q 32)), .ref ((q 33)), .ref ((q 34)), .ref ((q 35)), .ref ((q 36)), .ref ((q 37)), .ref ((q 38)), .int 0, .int 0, .int 0, .int 0, .int 0, .int 0, .ref ((q 45)), .ref ((q 46)), .ref ((q 47)), .ref ((q 48)), .ref ((q 49)), .ref ((q 50)), .ref ((q 51))]))] H := by rw [ef_25]; exact hP
  have hD : va_D A [((q 51), .inl ((cq 51), 16, .inl (f_25))), (h0, .inr (6, [.ref ((q 0)), .int 0, .int 0, .int 0, .int 0, .ref ((q 5)), .ref ((q 6)), .ref ((q 7)), .ref ((q 8)), .ref ((q 9)), .ref ((q 10)), .ref ((q 11)), .ref ((q 12)), .int 0, .int ((-1)), .int 0, .ref ((q 16)), .int 0, .ref ((q 18)), .ref ((q 19)), .ref ((q 20)), .ref ((q 21)), .ref ((q 22)), .ref ((q 23)), .ref ((q 24)), .ref ((q 25)), .ref ((q 26)), .ref ((q 27)), .ref ((q 28)), .ref ((q 29)), .ref ((q 30)), .int 0, .ref ((q 32)), .ref ((q 33)), .ref ((q 34)), .ref ((q 35)), .ref ((q 36)), .ref ((q 37)), .ref ((q 38)), .int 0, .int 0, .int 0, .int 0, .int 0, .int 0, .ref ((q 45)), .ref ((q 46)), .ref ((q 47)), .ref ((q 48)), .ref ((q 49)), .ref ((q 50)), .ref ((q 51))]))] := by rw [ef_25]; exact hD
  refine lv_iinc (v := 11) (lv' := [(2, .int 11), (0, .ref h0), (1, .int p0)]) hx hb dX6_cup_26 hl (k := 0) rfl (by decide) (by decide) rfl (fun ls hl => ?_)
  refine lv_goto (tgt := 13) hx hb dX6_cup_29 (by decide) ?_
  refine lv_iload_n hx hb dX6_cup_13 rfl (lv_at hl 0 rfl) ?_
  refine lv_bipush (v := 16) hx hb dX6_cup_14 (by decide) ?_
  refine lv_icmp_ge (tgt := 32) hx hb dX6_cup_16 (by decide) (fun c_26 => absurd c_26 (by decide)) (fun c_26 => ?_)
  refine lv_aload_n hx hb dX6_cup_19 rfl (lv_at hl 1 rfl) ?_
  refine va_get (D := (dC, dI)) (ci := 6) (v := .ref ((q 51))) (C := RX6) (T := TX6) (N := 52) hx hb hts hin6 hown hK hP 1 rfl rfl 51 (by decide) (hts (.fieldLink RX6 123 "SkiShotsModel" "sums" "[I") (by decide +kernel)) (fun _ h9 => h9) rfl dX6_cup_20 ?_
  refine lv_iload_n hx hb dX6_cup_23 rfl (lv_at hl 0 rfl) ?_
  refine lv_iconst (v := 0) hx hb dX6_cup_24 (by decide) ?_
  refine va_iast hx hb hK hP hD hS 0 0 rfl rfl (by unfold vp_in; decide) dX6_cup_25 (fun H locs hP hD hS => ?_)
  obtain ⟨f_27, ef_27⟩ : ∃ g : Nat → Int32, g = upd (f_25) (Int32.toNatClampNeg 11) (0) := ⟨_, rfl⟩
  have hP : va_P (dC, dI) vwCl [((q 51), .inl ((cq 51), 16, .inl (f_27))), (h0, .inr (6, [.ref ((q 0)), .int 0, .int 0, .int 0, .int 0, .ref ((q 5)), .ref ((q 6)), .ref ((q 7)), .ref ((q 8)), .ref ((q 9)), .ref ((q 10)), .ref ((q 11)), .ref ((q 12)), .int 0, .int ((-1)), .int 0, .ref ((q 16)), .int 0, .ref ((q 18)), .ref ((q 19)), .ref ((q 20)), .ref ((q 21)), .ref ((q 22)), .ref ((q 23)), .ref ((q 24)), .ref ((q 25)), .ref ((q 26)), .ref ((q 27)), .ref ((q 28)), .ref ((q 29)), .ref ((q 30)), .int 0, .ref ((q 32)), .ref ((q 33)), .ref ((q 34)), .ref ((q 35)), .ref ((q 36)), .ref ((q 37)), .ref ((q 38)), .int 0, .int 0, .int 0, .int 0, .int 0, .int 0, .ref ((q 45)), .ref ((q 46)), .ref ((q 47)), .ref ((q 48)), .ref ((q 49)), .ref ((q 50)), .ref ((q 51))]))] H := by rw [ef_27]; exact hP
  have hD : va_D A [((q 51), .inl ((cq 51), 16, .inl (f_27))), (h0, .inr (6, [.ref ((q 0)), .int 0, .int 0, .int 0, .int 0, .ref ((q 5)), .ref ((q 6)), .ref ((q 7)), .ref ((q 8)), .ref ((q 9)), .ref ((q 10)), .ref ((q 11)), .ref ((q 12)), .int 0, .int ((-1)), .int 0, .ref ((q 16)), .int 0, .ref ((q 18)), .ref ((q 19)), .ref ((q 20)), .ref ((q 21)), .ref ((q 22)), .ref ((q 23)), .ref ((q 24)), .ref ((q 25)), .ref ((q 26)), .ref ((q 27)), .ref ((q 28)), .ref ((q 29)), .ref ((q 30)), .int 0, .ref ((q 32)), .ref ((q 33)), .ref ((q 34)), .ref ((q 35)), .ref ((q 36)), .ref ((q 37)), .ref ((q 38)), .int 0, .int 0, .int 0, .int 0, .int 0, .int 0, .ref ((q 45)), .ref ((q 46)), .ref ((q 47)), .ref ((q 48)), .ref ((q 49)), .ref ((q 50)), .ref ((q 51))]))] := by rw [ef_27]; exact hD
  refine lv_iinc (v := 12) (lv' := [(2, .int 12), (0, .ref h0), (1, .int p0)]) hx hb dX6_cup_26 hl (k := 0) rfl (by decide) (by decide) rfl (fun ls hl => ?_)
  refine lv_goto (tgt := 13) hx hb dX6_cup_29 (by decide) ?_
  refine lv_iload_n hx hb dX6_cup_13 rfl (lv_at hl 0 rfl) ?_
  refine lv_bipush (v := 16) hx hb dX6_cup_14 (by decide) ?_
  refine lv_icmp_ge (tgt := 32) hx hb dX6_cup_16 (by decide) (fun c_28 => absurd c_28 (by decide)) (fun c_28 => ?_)
  refine lv_aload_n hx hb dX6_cup_19 rfl (lv_at hl 1 rfl) ?_
  refine va_get (D := (dC, dI)) (ci := 6) (v := .ref ((q 51))) (C := RX6) (T := TX6) (N := 52) hx hb hts hin6 hown hK hP 1 rfl rfl 51 (by decide) (hts (.fieldLink RX6 123 "SkiShotsModel" "sums" "[I") (by decide +kernel)) (fun _ h9 => h9) rfl dX6_cup_20 ?_
  refine lv_iload_n hx hb dX6_cup_23 rfl (lv_at hl 0 rfl) ?_
  refine lv_iconst (v := 0) hx hb dX6_cup_24 (by decide) ?_
  refine va_iast hx hb hK hP hD hS 0 0 rfl rfl (by unfold vp_in; decide) dX6_cup_25 (fun H locs hP hD hS => ?_)
  obtain ⟨f_29, ef_29⟩ : ∃ g : Nat → Int32, g = upd (f_27) (Int32.toNatClampNeg 12) (0) := ⟨_, rfl⟩
  have hP : va_P (dC, dI) vwCl [((q 51), .inl ((cq 51), 16, .inl (f_29))), (h0, .inr (6, [.ref ((q 0)), .int 0, .int 0, .int 0, .int 0, .ref ((q 5)), .ref ((q 6)), .ref ((q 7)), .ref ((q 8)), .ref ((q 9)), .ref ((q 10)), .ref ((q 11)), .ref ((q 12)), .int 0, .int ((-1)), .int 0, .ref ((q 16)), .int 0, .ref ((q 18)), .ref ((q 19)), .ref ((q 20)), .ref ((q 21)), .ref ((q 22)), .ref ((q 23)), .ref ((q 24)), .ref ((q 25)), .ref ((q 26)), .ref ((q 27)), .ref ((q 28)), .ref ((q 29)), .ref ((q 30)), .int 0, .ref ((q 32)), .ref ((q 33)), .ref ((q 34)), .ref ((q 35)), .ref ((q 36)), .ref ((q 37)), .ref ((q 38)), .int 0, .int 0, .int 0, .int 0, .int 0, .int 0, .ref ((q 45)), .ref ((q 46)), .ref ((q 47)), .ref ((q 48)), .ref ((q 49)), .ref ((q 50)), .ref ((q 51))]))] H := by rw [ef_29]; exact hP
  have hD : va_D A [((q 51), .inl ((cq 51), 16, .inl (f_29))), (h0, .inr (6, [.ref ((q 0)), .int 0, .int 0, .int 0, .int 0, .ref ((q 5)), .ref ((q 6)), .ref ((q 7)), .ref ((q 8)), .ref ((q 9)), .ref ((q 10)), .ref ((q 11)), .ref ((q 12)), .int 0, .int ((-1)), .int 0, .ref ((q 16)), .int 0, .ref ((q 18)), .ref ((q 19)), .ref ((q 20)), .ref ((q 21)), .ref ((q 22)), .ref ((q 23)), .ref ((q 24)), .ref ((q 25)), .ref ((q 26)), .ref ((q 27)), .ref ((q 28)), .ref ((q 29)), .ref ((q 30)), .int 0, .ref ((q 32)), .ref ((q 33)), .ref ((q 34)), .ref ((q 35)), .ref ((q 36)), .ref ((q 37)), .ref ((q 38)), .int 0, .int 0, .int 0, .int 0, .int 0, .int 0, .ref ((q 45)), .ref ((q 46)), .ref ((q 47)), .ref ((q 48)), .ref ((q 49)), .ref ((q 50)), .ref ((q 51))]))] := by rw [ef_29]; exact hD
  refine lv_iinc (v := 13) (lv' := [(2, .int 13), (0, .ref h0), (1, .int p0)]) hx hb dX6_cup_26 hl (k := 0) rfl (by decide) (by decide) rfl (fun ls hl => ?_)
  refine lv_goto (tgt := 13) hx hb dX6_cup_29 (by decide) ?_
  refine lv_iload_n hx hb dX6_cup_13 rfl (lv_at hl 0 rfl) ?_
  refine lv_bipush (v := 16) hx hb dX6_cup_14 (by decide) ?_
  refine lv_icmp_ge (tgt := 32) hx hb dX6_cup_16 (by decide) (fun c_30 => absurd c_30 (by decide)) (fun c_30 => ?_)
  refine lv_aload_n hx hb dX6_cup_19 rfl (lv_at hl 1 rfl) ?_
  refine va_get (D := (dC, dI)) (ci := 6) (v := .ref ((q 51))) (C := RX6) (T := TX6) (N := 52) hx hb hts hin6 hown hK hP 1 rfl rfl 51 (by decide) (hts (.fieldLink RX6 123 "SkiShotsModel" "sums" "[I") (by decide +kernel)) (fun _ h9 => h9) rfl dX6_cup_20 ?_
  refine lv_iload_n hx hb dX6_cup_23 rfl (lv_at hl 0 rfl) ?_
  refine lv_iconst (v := 0) hx hb dX6_cup_24 (by decide) ?_
  refine va_iast hx hb hK hP hD hS 0 0 rfl rfl (by unfold vp_in; decide) dX6_cup_25 (fun H locs hP hD hS => ?_)
  obtain ⟨f_31, ef_31⟩ : ∃ g : Nat → Int32, g = upd (f_29) (Int32.toNatClampNeg 13) (0) := ⟨_, rfl⟩
  have hP : va_P (dC, dI) vwCl [((q 51), .inl ((cq 51), 16, .inl (f_31))), (h0, .inr (6, [.ref ((q 0)), .int 0, .int 0, .int 0, .int 0, .ref ((q 5)), .ref ((q 6)), .ref ((q 7)), .ref ((q 8)), .ref ((q 9)), .ref ((q 10)), .ref ((q 11)), .ref ((q 12)), .int 0, .int ((-1)), .int 0, .ref ((q 16)), .int 0, .ref ((q 18)), .ref ((q 19)), .ref ((q 20)), .ref ((q 21)), .ref ((q 22)), .ref ((q 23)), .ref ((q 24)), .ref ((q 25)), .ref ((q 26)), .ref ((q 27)), .ref ((q 28)), .ref ((q 29)), .ref ((q 30)), .int 0, .ref ((q 32)), .ref ((q 33)), .ref ((q 34)), .ref ((q 35)), .ref ((q 36)), .ref ((q 37)), .ref ((q 38)), .int 0, .int 0, .int 0, .int 0, .int 0, .int 0, .ref ((q 45)), .ref ((q 46)), .ref ((q 47)), .ref ((q 48)), .ref ((q 49)), .ref ((q 50)), .ref ((q 51))]))] H := by rw [ef_31]; exact hP
  have hD : va_D A [((q 51), .inl ((cq 51), 16, .inl (f_31))), (h0, .inr (6, [.ref ((q 0)), .int 0, .int 0, .int 0, .int 0, .ref ((q 5)), .ref ((q 6)), .ref ((q 7)), .ref ((q 8)), .ref ((q 9)), .ref ((q 10)), .ref ((q 11)), .ref ((q 12)), .int 0, .int ((-1)), .int 0, .ref ((q 16)), .int 0, .ref ((q 18)), .ref ((q 19)), .ref ((q 20)), .ref ((q 21)), .ref ((q 22)), .ref ((q 23)), .ref ((q 24)), .ref ((q 25)), .ref ((q 26)), .ref ((q 27)), .ref ((q 28)), .ref ((q 29)), .ref ((q 30)), .int 0, .ref ((q 32)), .ref ((q 33)), .ref ((q 34)), .ref ((q 35)), .ref ((q 36)), .ref ((q 37)), .ref ((q 38)), .int 0, .int 0, .int 0, .int 0, .int 0, .int 0, .ref ((q 45)), .ref ((q 46)), .ref ((q 47)), .ref ((q 48)), .ref ((q 49)), .ref ((q 50)), .ref ((q 51))]))] := by rw [ef_31]; exact hD
  refine lv_iinc (v := 14) (lv' := [(2, .int 14), (0, .ref h0), (1, .int p0)]) hx hb dX6_cup_26 hl (k := 0) rfl (by decide) (by decide) rfl (fun ls hl => ?_)
  refine lv_goto (tgt := 13) hx hb dX6_cup_29 (by decide) ?_
  refine lv_iload_n hx hb dX6_cup_13 rfl (lv_at hl 0 rfl) ?_
  refine lv_bipush (v := 16) hx hb dX6_cup_14 (by decide) ?_
  refine lv_icmp_ge (tgt := 32) hx hb dX6_cup_16 (by decide) (fun c_32 => absurd c_32 (by decide)) (fun c_32 => ?_)
  refine lv_aload_n hx hb dX6_cup_19 rfl (lv_at hl 1 rfl) ?_
  refine va_get (D := (dC, dI)) (ci := 6) (v := .ref ((q 51))) (C := RX6) (T := TX6) (N := 52) hx hb hts hin6 hown hK hP 1 rfl rfl 51 (by decide) (hts (.fieldLink RX6 123 "SkiShotsModel" "sums" "[I") (by decide +kernel)) (fun _ h9 => h9) rfl dX6_cup_20 ?_
  refine lv_iload_n hx hb dX6_cup_23 rfl (lv_at hl 0 rfl) ?_
  refine lv_iconst (v := 0) hx hb dX6_cup_24 (by decide) ?_
  refine va_iast hx hb hK hP hD hS 0 0 rfl rfl (by unfold vp_in; decide) dX6_cup_25 (fun H locs hP hD hS => ?_)
  obtain ⟨f_33, ef_33⟩ : ∃ g : Nat → Int32, g = upd (f_31) (Int32.toNatClampNeg 14) (0) := ⟨_, rfl⟩
  have hP : va_P (dC, dI) vwCl [((q 51), .inl ((cq 51), 16, .inl (f_33))), (h0, .inr (6, [.ref ((q 0)), .int 0, .int 0, .int 0, .int 0, .ref ((q 5)), .ref ((q 6)), .ref ((q 7)), .ref ((q 8)), .ref ((q 9)), .ref ((q 10)), .ref ((q 11)), .ref ((q 12)), .int 0, .int ((-1)), .int 0, .ref ((q 16)), .int 0, .ref ((q 18)), .ref ((q 19)), .ref ((q 20)), .ref ((q 21)), .ref ((q 22)), .ref ((q 23)), .ref ((q 24)), .ref ((q 25)), .ref ((q 26)), .ref ((q 27)), .ref ((q 28)), .ref ((q 29)), .ref ((q 30)), .int 0, .ref ((q 32)), .ref ((q 33)), .ref ((q 34)), .ref ((q 35)), .ref ((q 36)), .ref ((q 37)), .ref ((q 38)), .int 0, .int 0, .int 0, .int 0, .int 0, .int 0, .ref ((q 45)), .ref ((q 46)), .ref ((q 47)), .ref ((q 48)), .ref ((q 49)), .ref ((q 50)), .ref ((q 51))]))] H := by rw [ef_33]; exact hP
  have hD : va_D A [((q 51), .inl ((cq 51), 16, .inl (f_33))), (h0, .inr (6, [.ref ((q 0)), .int 0, .int 0, .int 0, .int 0, .ref ((q 5)), .ref ((q 6)), .ref ((q 7)), .ref ((q 8)), .ref ((q 9)), .ref ((q 10)), .ref ((q 11)), .ref ((q 12)), .int 0, .int ((-1)), .int 0, .ref ((q 16)), .int 0, .ref ((q 18)), .ref ((q 19)), .ref ((q 20)), .ref ((q 21)), .ref ((q 22)), .ref ((q 23)), .ref ((q 24)), .ref ((q 25)), .ref ((q 26)), .ref ((q 27)), .ref ((q 28)), .ref ((q 29)), .ref ((q 30)), .int 0, .ref ((q 32)), .ref ((q 33)), .ref ((q 34)), .ref ((q 35)), .ref ((q 36)), .ref ((q 37)), .ref ((q 38)), .int 0, .int 0, .int 0, .int 0, .int 0, .int 0, .ref ((q 45)), .ref ((q 46)), .ref ((q 47)), .ref ((q 48)), .ref ((q 49)), .ref ((q 50)), .ref ((q 51))]))] := by rw [ef_33]; exact hD
  refine lv_iinc (v := 15) (lv' := [(2, .int 15), (0, .ref h0), (1, .int p0)]) hx hb dX6_cup_26 hl (k := 0) rfl (by decide) (by decide) rfl (fun ls hl => ?_)
  refine lv_goto (tgt := 13) hx hb dX6_cup_29 (by decide) ?_
  refine lv_iload_n hx hb dX6_cup_13 rfl (lv_at hl 0 rfl) ?_
  refine lv_bipush (v := 16) hx hb dX6_cup_14 (by decide) ?_
  refine lv_icmp_ge (tgt := 32) hx hb dX6_cup_16 (by decide) (fun c_34 => absurd c_34 (by decide)) (fun c_34 => ?_)
  refine lv_aload_n hx hb dX6_cup_19 rfl (lv_at hl 1 rfl) ?_
  refine va_get (D := (dC, dI)) (ci := 6) (v := .ref ((q 51))) (C := RX6) (T := TX6) (N := 52) hx hb hts hin6 hown hK hP 1 rfl rfl 51 (by decide) (hts (.fieldLink RX6 123 "SkiShotsModel" "sums" "[I") (by decide +kernel)) (fun _ h9 => h9) rfl dX6_cup_20 ?_
  refine lv_iload_n hx hb dX6_cup_23 rfl (lv_at hl 0 rfl) ?_
  refine lv_iconst (v := 0) hx hb dX6_cup_24 (by decide) ?_
  refine va_iast hx hb hK hP hD hS 0 0 rfl rfl (by unfold vp_in; decide) dX6_cup_25 (fun H locs hP hD hS => ?_)
  obtain ⟨f_35, ef_35⟩ : ∃ g : Nat → Int32, g = upd (f_33) (Int32.toNatClampNeg 15) (0) := ⟨_, rfl⟩
  have hP : va_P (dC, dI) vwCl [((q 51), .inl ((cq 51), 16, .inl (f_35))), (h0, .inr (6, [.ref ((q 0)), .int 0, .int 0, .int 0, .int 0, .ref ((q 5)), .ref ((q 6)), .ref ((q 7)), .ref ((q 8)), .ref ((q 9)), .ref ((q 10)), .ref ((q 11)), .ref ((q 12)), .int 0, .int ((-1)), .int 0, .ref ((q 16)), .int 0, .ref ((q 18)), .ref ((q 19)), .ref ((q 20)), .ref ((q 21)), .ref ((q 22)), .ref ((q 23)), .ref ((q 24)), .ref ((q 25)), .ref ((q 26)), .ref ((q 27)), .ref ((q 28)), .ref ((q 29)), .ref ((q 30)), .int 0, .ref ((q 32)), .ref ((q 33)), .ref ((q 34)), .ref ((q 35)), .ref ((q 36)), .ref ((q 37)), .ref ((q 38)), .int 0, .int 0, .int 0, .int 0, .int 0, .int 0, .ref ((q 45)), .ref ((q 46)), .ref ((q 47)), .ref ((q 48)), .ref ((q 49)), .ref ((q 50)), .ref ((q 51))]))] H := by rw [ef_35]; exact hP
  have hD : va_D A [((q 51), .inl ((cq 51), 16, .inl (f_35))), (h0, .inr (6, [.ref ((q 0)), .int 0, .int 0, .int 0, .int 0, .ref ((q 5)), .ref ((q 6)), .ref ((q 7)), .ref ((q 8)), .ref ((q 9)), .ref ((q 10)), .ref ((q 11)), .ref ((q 12)), .int 0, .int ((-1)), .int 0, .ref ((q 16)), .int 0, .ref ((q 18)), .ref ((q 19)), .ref ((q 20)), .ref ((q 21)), .ref ((q 22)), .ref ((q 23)), .ref ((q 24)), .ref ((q 25)), .ref ((q 26)), .ref ((q 27)), .ref ((q 28)), .ref ((q 29)), .ref ((q 30)), .int 0, .ref ((q 32)), .ref ((q 33)), .ref ((q 34)), .ref ((q 35)), .ref ((q 36)), .ref ((q 37)), .ref ((q 38)), .int 0, .int 0, .int 0, .int 0, .int 0, .int 0, .ref ((q 45)), .ref ((q 46)), .ref ((q 47)), .ref ((q 48)), .ref ((q 49)), .ref ((q 50)), .ref ((q 51))]))] := by rw [ef_35]; exact hD
  refine lv_iinc (v := 16) (lv' := [(2, .int 16), (0, .ref h0), (1, .int p0)]) hx hb dX6_cup_26 hl (k := 0) rfl (by decide) (by decide) rfl (fun ls hl => ?_)
  refine lv_goto (tgt := 13) hx hb dX6_cup_29 (by decide) ?_
  refine lv_iload_n hx hb dX6_cup_13 rfl (lv_at hl 0 rfl) ?_
  refine lv_bipush (v := 16) hx hb dX6_cup_14 (by decide) ?_
  refine lv_icmp_ge (tgt := 32) hx hb dX6_cup_16 (by decide) (fun c_36 => ?_) (fun c_36 => absurd (by decide) c_36)
  refine lv_iconst (v := 0) hx hb dX6_cup_32 (by decide) ?_
  refine lv_istore_n (lv' := [(2, .int 0), (0, .ref h0), (1, .int p0)]) hx hb dX6_cup_33 rfl hl (by decide) rfl (fun ls hl => ?_)
  refine lv_iload_n hx hb dX6_cup_34 rfl (lv_at hl 0 rfl) ?_
  refine lv_aload_n hx hb dX6_cup_35 rfl (lv_at hl 1 rfl) ?_
  refine va_get (D := (dC, dI)) (ci := 6) (v := .int 0) (C := RX6) (T := TX6) (N := 52) hx hb hts hin6 hown hK hP 1 rfl rfl 17 (by decide) (hts (.fieldLink RX6 200 "SkiShotsModel" "races" "I") (by decide +kernel)) (fun _ h9 => h9) rfl dX6_cup_36 ?_
  refine lv_icmp_ge (tgt := 131) hx hb dX6_cup_39 (by decide) (fun c_37 => ?_) (fun c_37 => absurd (by decide) c_37)
  have hP9 := hP.sub (ws' := [(h0, .inr (6, [.ref ((q 0)), .int 0, .int 0, .int 0, .int 0, .ref ((q 5)), .ref ((q 6)), .ref ((q 7)), .ref ((q 8)), .ref ((q 9)), .ref ((q 10)), .ref ((q 11)), .ref ((q 12)), .int 0, .int ((-1)), .int 0, .ref ((q 16)), .int 0, .ref ((q 18)), .ref ((q 19)), .ref ((q 20)), .ref ((q 21)), .ref ((q 22)), .ref ((q 23)), .ref ((q 24)), .ref ((q 25)), .ref ((q 26)), .ref ((q 27)), .ref ((q 28)), .ref ((q 29)), .ref ((q 30)), .int 0, .ref ((q 32)), .ref ((q 33)), .ref ((q 34)), .ref ((q 35)), .ref ((q 36)), .ref ((q 37)), .ref ((q 38)), .int 0, .int 0, .int 0, .int 0, .int 0, .int 0, .ref ((q 45)), .ref ((q 46)), .ref ((q 47)), .ref ((q 48)), .ref ((q 49)), .ref ((q 50)), .ref ((q 51))])), ((q 51), .inl ((cq 51), 16, .inl (f_35)))]) [1, 0] rfl
  have hD9 := hD.sub (ws' := [(h0, .inr (6, [.ref ((q 0)), .int 0, .int 0, .int 0, .int 0, .ref ((q 5)), .ref ((q 6)), .ref ((q 7)), .ref ((q 8)), .ref ((q 9)), .ref ((q 10)), .ref ((q 11)), .ref ((q 12)), .int 0, .int ((-1)), .int 0, .ref ((q 16)), .int 0, .ref ((q 18)), .ref ((q 19)), .ref ((q 20)), .ref ((q 21)), .ref ((q 22)), .ref ((q 23)), .ref ((q 24)), .ref ((q 25)), .ref ((q 26)), .ref ((q 27)), .ref ((q 28)), .ref ((q 29)), .ref ((q 30)), .int 0, .ref ((q 32)), .ref ((q 33)), .ref ((q 34)), .ref ((q 35)), .ref ((q 36)), .ref ((q 37)), .ref ((q 38)), .int 0, .int 0, .int 0, .int 0, .int 0, .int 0, .ref ((q 45)), .ref ((q 46)), .ref ((q 47)), .ref ((q 48)), .ref ((q 49)), .ref ((q 50)), .ref ((q 51))])), ((q 51), .inl ((cq 51), 16, .inl (f_35)))]) [1, 0] (by decide) rfl
  have hK9 := hK.sub (tys' := [((cq 51), .int)]) [0] rfl
  exact W.vret hx hb hr (fun t ht hW => ⟨⟨(), rfl, trivial, f_35, by rw [ht]; exact hP9, va_K.moved hW.alike hK9, hD9⟩, hS.F ht⟩) hS.2.2 dX6_cup_131
def wX6_starters : List Cond := .code yX6_starters cX6_starters 5 (some .int) :: ([.fieldLink RX6 126 "SkiShotsModel" "thrown" "I", .fieldLink RX6 197 "SkiShotsModel" "racers" "I", .methodLink RX6 241 yX6_isDay, .instanceMethod yX6_isDay, .selects RX6 yX6_isDay yX6_isDay, .initialized RX6, .code yX6_isDay cX6_isDay 2 (some .boolean), .fieldLink RX6 194 "SkiShotsModel" "today" "I", .methodLink RX6 252 yX6_cup, .instanceMethod yX6_cup, .selects RX6 yX6_cup yX6_cup, .code yX6_cup cX6_cup 6 none, .fieldLink RX6 200 "SkiShotsModel" "races" "I", .fieldLink RX6 123 "SkiShotsModel" "sums" "[I", .methodLink RX6 244 yX6_workAll, .instanceMethod yX6_workAll, .selects RX6 yX6_workAll yX6_workAll, .code yX6_workAll cX6_workAll 5 none] ++ wsX60)
set_option maxRecDepth 20000 in
theorem gX6_starters_c_X6_isDay_4 : GoodIn wX6_starters (wsV RX6 241 RX6 yX6_isDay wX6_isDay) := goodIn_p _ [7] rfl (by decide +kernel)
set_option maxRecDepth 20000 in
theorem gX6_starters_c_X6_cup_8 : GoodIn wX6_starters (wsV RX6 252 RX6 yX6_cup wX6_cup) := goodIn_p _ [12, 18] rfl (by decide +kernel)
set_option maxHeartbeats 4000000 in
set_option maxRecDepth 100000 in
theorem c_X6_starters (l : Launch) (dC : Nat → ClassId) (dI : Nat → Nat → Nat) (h0 : Nat) (q : Nat → Nat) (cq : Nat → ClassId) (p0 : Int32) (p1 : Int32) (sz : Nat) : Met l yX6_starters wX6_starters ({ frames := 2, cells := 0, slots := 0, locals := 49 }) (va_Pc [.ref h0, .int p0, .int p1] (fun U => U.heap.size = sz ∧ va_P (dC, dI) vwCl [(h0, .inr (6, [.ref ((q 0)), .int 0, .int 0, .int 0, .int 0, .ref ((q 5)), .ref ((q 6)), .ref ((q 7)), .ref ((q 8)), .ref ((q 9)), .ref ((q 10)), .ref ((q 11)), .ref ((q 12)), .int 0, .int ((-1)), .int 0, .ref ((q 16)), .int 0, .ref ((q 18)), .ref ((q 19)), .ref ((q 20)), .ref ((q 21)), .ref ((q 22)), .ref ((q 23)), .ref ((q 24)), .ref ((q 25)), .ref ((q 26)), .ref ((q 27)), .ref ((q 28)), .ref ((q 29)), .ref ((q 30)), .int 0, .ref ((q 32)), .ref ((q 33)), .ref ((q 34)), .ref ((q 35)), .ref ((q 36)), .ref ((q 37)), .ref ((q 38)), .int 0, .int 0, .int 0, .int 0, .int 0, .int 0, .ref ((q 45)), .ref ((q 46)), .ref ((q 47)), .ref ((q 48)), .ref ((q 49)), .ref ((q 50)), .ref ((q 51))])), ((q 51), .inl ((cq 51), 16, .inl (fun _ => 0)))] U.heap ∧ va_K (dC, dI) vwCl [((cq 51), .int)] U ∧ va_D (fun _ => True) [(h0, .inr (6, [.ref ((q 0)), .int 0, .int 0, .int 0, .int 0, .ref ((q 5)), .ref ((q 6)), .ref ((q 7)), .ref ((q 8)), .ref ((q 9)), .ref ((q 10)), .ref ((q 11)), .ref ((q 12)), .int 0, .int ((-1)), .int 0, .ref ((q 16)), .int 0, .ref ((q 18)), .ref ((q 19)), .ref ((q 20)), .ref ((q 21)), .ref ((q 22)), .ref ((q 23)), .ref ((q 24)), .ref ((q 25)), .ref ((q 26)), .ref ((q 27)), .ref ((q 28)), .ref ((q 29)), .ref ((q 30)), .int 0, .ref ((q 32)), .ref ((q 33)), .ref ((q 34)), .ref ((q 35)), .ref ((q 36)), .ref ((q 37)), .ref ((q 38)), .int 0, .int 0, .int 0, .int 0, .int 0, .int 0, .ref ((q 45)), .ref ((q 46)), .ref ((q 47)), .ref ((q 48)), .ref ((q 49)), .ref ((q 50)), .ref ((q 51))])), ((q 51), .inl ((cq 51), 16, .inl (fun _ => 0)))])) (va_Qi (fun (r : Int32) (_ : Unit) => ((0 ≤ p0.toInt ∧ p0.toInt < 8) ∧ p1.toInt = 0 ∧ r = 2) ∨ (¬ ((0 ≤ p0.toInt ∧ p0.toInt < 8) ∧ p1.toInt = 0) ∧ r = -1)) (fun _ t => True) (va_A [(h0, .inr (6, [.ref ((q 0)), .int 0, .int 0, .int 0, .int 0, .ref ((q 5)), .ref ((q 6)), .ref ((q 7)), .ref ((q 8)), .ref ((q 9)), .ref ((q 10)), .ref ((q 11)), .ref ((q 12)), .int 0, .int ((-1)), .int 0, .ref ((q 16)), .int 0, .ref ((q 18)), .ref ((q 19)), .ref ((q 20)), .ref ((q 21)), .ref ((q 22)), .ref ((q 23)), .ref ((q 24)), .ref ((q 25)), .ref ((q 26)), .ref ((q 27)), .ref ((q 28)), .ref ((q 29)), .ref ((q 30)), .int 0, .ref ((q 32)), .ref ((q 33)), .ref ((q 34)), .ref ((q 35)), .ref ((q 36)), .ref ((q 37)), .ref ((q 38)), .int 0, .int 0, .int 0, .int 0, .int 0, .int 0, .ref ((q 45)), .ref ((q 46)), .ref ((q 47)), .ref ((q 48)), .ref ((q 49)), .ref ((q 50)), .ref ((q 51))])), ((q 51), .inl ((cq 51), 16, .inl (fun _ => 0)))] sz)) 0 0 (va_A [(h0, .inr (6, [.ref ((q 0)), .int 0, .int 0, .int 0, .int 0, .ref ((q 5)), .ref ((q 6)), .ref ((q 7)), .ref ((q 8)), .ref ((q 9)), .ref ((q 10)), .ref ((q 11)), .ref ((q 12)), .int 0, .int ((-1)), .int 0, .ref ((q 16)), .int 0, .ref ((q 18)), .ref ((q 19)), .ref ((q 20)), .ref ((q 21)), .ref ((q 22)), .ref ((q 23)), .ref ((q 24)), .ref ((q 25)), .ref ((q 26)), .ref ((q 27)), .ref ((q 28)), .ref ((q 29)), .ref ((q 30)), .int 0, .ref ((q 32)), .ref ((q 33)), .ref ((q 34)), .ref ((q 35)), .ref ((q 36)), .ref ((q 37)), .ref ((q 38)), .int 0, .int 0, .int 0, .int 0, .int 0, .int 0, .ref ((q 45)), .ref ((q 46)), .ref ((q 47)), .ref ((q 48)), .ref ((q 49)), .ref ((q 50)), .ref ((q 51))])), ((q 51), .inl ((cq 51), 16, .inl (fun _ => 0)))] sz) := by
  refine Met.ofW (cc := cX6_starters) (maxL := 5) (ret := (some .int)) (by decide) rfl ?_
  intro p e s m args below meth c s₁ B hml hv
  obtain ⟨rfl, hsz, hP, hK, hD0⟩ := hv
  have hx := B.exec
  have hb := B.bytes
  have hr := B.returns
  have hts := atoms_spec (ws := wX6_starters) B.pre
  have hown : s.vm.findClass RX6 = some m.cls := findClass_of_methodNamed B.named
  have hlocks := B.notSynchronized
  have hin6 : ∀ w ∈ wsX60, w ∈ wX6_starters := by decide +kernel
  subst hsz
  have hD := hD0.self (sz := s.heap.size)
  generalize hAe : va_A [(h0, .inr (6, [.ref ((q 0)), .int 0, .int 0, .int 0, .int 0, .ref ((q 5)), .ref ((q 6)), .ref ((q 7)), .ref ((q 8)), .ref ((q 9)), .ref ((q 10)), .ref ((q 11)), .ref ((q 12)), .int 0, .int ((-1)), .int 0, .ref ((q 16)), .int 0, .ref ((q 18)), .ref ((q 19)), .ref ((q 20)), .ref ((q 21)), .ref ((q 22)), .ref ((q 23)), .ref ((q 24)), .ref ((q 25)), .ref ((q 26)), .ref ((q 27)), .ref ((q 28)), .ref ((q 29)), .ref ((q 30)), .int 0, .ref ((q 32)), .ref ((q 33)), .ref ((q 34)), .ref ((q 35)), .ref ((q 36)), .ref ((q 37)), .ref ((q 38)), .int 0, .int 0, .int 0, .int 0, .int 0, .int 0, .ref ((q 45)), .ref ((q 46)), .ref ((q 47)), .ref ((q 48)), .ref ((q 49)), .ref ((q 50)), .ref ((q 51))])), ((q 51), .inl ((cq 51), 16, .inl (fun _ => 0)))] s.heap.size = A at hD ⊢
  have hA : ∀ q : Nat, s.heap.size ≤ q → A q := fun q h => by rw [← hAe]; exact Or.inr h
  have hS : va_S A s.heap s.heap [] := va_S.rf
  have hP : va_P (dC, dI) vwCl [(h0, .inr (6, [.ref ((q 0)), .int 0, .int 0, .int 0, .int 0, .ref ((q 5)), .ref ((q 6)), .ref ((q 7)), .ref ((q 8)), .ref ((q 9)), .ref ((q 10)), .ref ((q 11)), .ref ((q 12)), .int 0, .int ((-1)), .int 0, .ref ((q 16)), .int 0, .ref ((q 18)), .ref ((q 19)), .ref ((q 20)), .ref ((q 21)), .ref ((q 22)), .ref ((q 23)), .ref ((q 24)), .ref ((q 25)), .ref ((q 26)), .ref ((q 27)), .ref ((q 28)), .ref ((q 29)), .ref ((q 30)), .int 0, .ref ((q 32)), .ref ((q 33)), .ref ((q 34)), .ref ((q 35)), .ref ((q 36)), .ref ((q 37)), .ref ((q 38)), .int 0, .int 0, .int 0, .int 0, .int 0, .int 0, .ref ((q 45)), .ref ((q 46)), .ref ((q 47)), .ref ((q 48)), .ref ((q 49)), .ref ((q 50)), .ref ((q 51))])), ((q 51), .inl ((cq 51), 16, .inl (fun _ => 0)))] s.heap := hP
  have hl := lv_entry ([.ref h0, .int p0, .int p1]) (n := 5) (Nat.le_of_ble_eq_true rfl)
  rw [lg_entry_eq]
  generalize (lg_sl ([.ref h0, .int p0, .int p1]) ++ List.replicate (5 - (lg_sl ([.ref h0, .int p0, .int p1])).length) Slot.unset).toArray = ls at hl ⊢
  have hl : lv_has ls 5 [(0, .ref h0), (1, .int p0), (2, .int p1)] := hl
  refine lv_aload_n hx hb dX6_starters_0 rfl (lv_at hl 0 rfl) ?_
  refine lv_iconst (v := 0) hx hb dX6_starters_1 (by decide) ?_
  refine va_put (D := (dC, dI)) (ci := 6) (v := .int 0) (ty := .int) (C := RX6) (T := TX6) (N := 52) hx hb hts hin6 tyX6 tyX6_ok nmX6 hown hK hP hD hS 0 rfl rfl 2 (by decide) (hts (.fieldLink RX6 126 "SkiShotsModel" "thrown" "I") (by decide +kernel)) (fun _ h9 => h9) rfl (by decide +kernel) rfl rfl (Nat.le_of_ble_eq_true rfl) dX6_starters_2 (fun H locs hP hD hS => ?_)
  have hP : va_P (dC, dI) vwCl [(h0, .inr (6, [.ref ((q 0)), .int 0, .int 0, .int 0, .int 0, .ref ((q 5)), .ref ((q 6)), .ref ((q 7)), .ref ((q 8)), .ref ((q 9)), .ref ((q 10)), .ref ((q 11)), .ref ((q 12)), .int 0, .int ((-1)), .int 0, .ref ((q 16)), .int 0, .ref ((q 18)), .ref ((q 19)), .ref ((q 20)), .ref ((q 21)), .ref ((q 22)), .ref ((q 23)), .ref ((q 24)), .ref ((q 25)), .ref ((q 26)), .ref ((q 27)), .ref ((q 28)), .ref ((q 29)), .ref ((q 30)), .int 0, .ref ((q 32)), .ref ((q 33)), .ref ((q 34)), .ref ((q 35)), .ref ((q 36)), .ref ((q 37)), .ref ((q 38)), .int 0, .int 0, .int 0, .int 0, .int 0, .int 0, .ref ((q 45)), .ref ((q 46)), .ref ((q 47)), .ref ((q 48)), .ref ((q 49)), .ref ((q 50)), .ref ((q 51))])), ((q 51), .inl ((cq 51), 16, .inl (fun _ => 0)))] H := hP
  have hD : va_D A [(h0, .inr (6, [.ref ((q 0)), .int 0, .int 0, .int 0, .int 0, .ref ((q 5)), .ref ((q 6)), .ref ((q 7)), .ref ((q 8)), .ref ((q 9)), .ref ((q 10)), .ref ((q 11)), .ref ((q 12)), .int 0, .int ((-1)), .int 0, .ref ((q 16)), .int 0, .ref ((q 18)), .ref ((q 19)), .ref ((q 20)), .ref ((q 21)), .ref ((q 22)), .ref ((q 23)), .ref ((q 24)), .ref ((q 25)), .ref ((q 26)), .ref ((q 27)), .ref ((q 28)), .ref ((q 29)), .ref ((q 30)), .int 0, .ref ((q 32)), .ref ((q 33)), .ref ((q 34)), .ref ((q 35)), .ref ((q 36)), .ref ((q 37)), .ref ((q 38)), .int 0, .int 0, .int 0, .int 0, .int 0, .int 0, .ref ((q 45)), .ref ((q 46)), .ref ((q 47)), .ref ((q 48)), .ref ((q 49)), .ref ((q 50)), .ref ((q 51))])), ((q 51), .inl ((cq 51), 16, .inl (fun _ => 0)))] := hD
  refine lv_iload_n hx hb dX6_starters_5 rfl (lv_at hl 1 rfl) ?_
  refine lv_if_lt (tgt := 23) hx hb dX6_starters_6 (by decide) (fun c_1 => ?_) (fun c_1 => ?_)
  · refine lv_iconst (v := (-1)) hx hb dX6_starters_23 (by decide) ?_
    exact W.iret (v := (-1)) hx hb hr (fun t ht hW => ⟨⟨(-1), (), rfl, by (try simp only [and_true, true_and, and_false, false_and, or_true, true_or, or_false, false_or, not_true_eq_false, not_false_eq_true, num_lt, num_le, num_eq, Int32.zero_add, Int32.sub_zero, Int32.add_zero, num_m2, num_m1, num_0, num_1, num_2, num_3, num_4, num_5, num_6, num_7, num_8, num_16, num_20, num_31, num_200, num_1000] at c_1 ⊢) <;> omega, trivial⟩, hS.F ht⟩) hS.2.2 dX6_starters_24
  · refine lv_iload_n hx hb dX6_starters_9 rfl (lv_at hl 1 rfl) ?_
    refine lv_bipush (v := 7) hx hb dX6_starters_10 (by decide) ?_
    refine lv_icmp_gt (tgt := 23) hx hb dX6_starters_12 (by decide) (fun c_2 => ?_) (fun c_2 => ?_)
    · refine lv_iconst (v := (-1)) hx hb dX6_starters_23 (by decide) ?_
      exact W.iret (v := (-1)) hx hb hr (fun t ht hW => ⟨⟨(-1), (), rfl, by (try simp only [and_true, true_and, and_false, false_and, or_true, true_or, or_false, false_or, not_true_eq_false, not_false_eq_true, num_lt, num_le, num_eq, Int32.zero_add, Int32.sub_zero, Int32.add_zero, num_m2, num_m1, num_0, num_1, num_2, num_3, num_4, num_5, num_6, num_7, num_8, num_16, num_20, num_31, num_200, num_1000] at c_1 c_2 ⊢) <;> omega, trivial⟩, hS.F ht⟩) hS.2.2 dX6_starters_24
    · refine lv_aload_n hx hb dX6_starters_15 rfl (lv_at hl 0 rfl) ?_
      refine lv_iload_n hx hb dX6_starters_16 rfl (lv_at hl 2 rfl) ?_
      have hPc := hP.sub (ws' := [(h0, .inr (6, [.ref ((q 0)), .int 0, .int 0, .int 0, .int 0, .ref ((q 5)), .ref ((q 6)), .ref ((q 7)), .ref ((q 8)), .ref ((q 9)), .ref ((q 10)), .ref ((q 11)), .ref ((q 12)), .int 0, .int ((-1)), .int 0, .ref ((q 16)), .int 0, .ref ((q 18)), .ref ((q 19)), .ref ((q 20)), .ref ((q 21)), .ref ((q 22)), .ref ((q 23)), .ref ((q 24)), .ref ((q 25)), .ref ((q 26)), .ref ((q 27)), .ref ((q 28)), .ref ((q 29)), .ref ((q 30)), .int 0, .ref ((q 32)), .ref ((q 33)), .ref ((q 34)), .ref ((q 35)), .ref ((q 36)), .ref ((q 37)), .ref ((q 38)), .int 0, .int 0, .int 0, .int 0, .int 0, .int 0, .ref ((q 45)), .ref ((q 46)), .ref ((q 47)), .ref ((q 48)), .ref ((q 49)), .ref ((q 50)), .ref ((q 51))]))]) [0] rfl
      have hDc := hD.sub (ws' := [(h0, .inr (6, [.ref ((q 0)), .int 0, .int 0, .int 0, .int 0, .ref ((q 5)), .ref ((q 6)), .ref ((q 7)), .ref ((q 8)), .ref ((q 9)), .ref ((q 10)), .ref ((q 11)), .ref ((q 12)), .int 0, .int ((-1)), .int 0, .ref ((q 16)), .int 0, .ref ((q 18)), .ref ((q 19)), .ref ((q 20)), .ref ((q 21)), .ref ((q 22)), .ref ((q 23)), .ref ((q 24)), .ref ((q 25)), .ref ((q 26)), .ref ((q 27)), .ref ((q 28)), .ref ((q 29)), .ref ((q 30)), .int 0, .ref ((q 32)), .ref ((q 33)), .ref ((q 34)), .ref ((q 35)), .ref ((q 36)), .ref ((q 37)), .ref ((q 38)), .int 0, .int 0, .int 0, .int 0, .int 0, .int 0, .ref ((q 45)), .ref ((q 46)), .ref ((q 47)), .ref ((q 48)), .ref ((q 49)), .ref ((q 50)), .ref ((q 51))]))]) [0] (by decide) rfl
      have hKc := hK.sub (tys' := []) [] rfl
      have hFc := va_free (wc := [(h0, .inr (6, [.ref ((q 0)), .int 0, .int 0, .int 0, .int 0, .ref ((q 5)), .ref ((q 6)), .ref ((q 7)), .ref ((q 8)), .ref ((q 9)), .ref ((q 10)), .ref ((q 11)), .ref ((q 12)), .int 0, .int ((-1)), .int 0, .ref ((q 16)), .int 0, .ref ((q 18)), .ref ((q 19)), .ref ((q 20)), .ref ((q 21)), .ref ((q 22)), .ref ((q 23)), .ref ((q 24)), .ref ((q 25)), .ref ((q 26)), .ref ((q 27)), .ref ((q 28)), .ref ((q 29)), .ref ((q 30)), .int 0, .ref ((q 32)), .ref ((q 33)), .ref ((q 34)), .ref ((q 35)), .ref ((q 36)), .ref ((q 37)), .ref ((q 38)), .int 0, .int 0, .int 0, .int 0, .int 0, .int 0, .ref ((q 45)), .ref ((q 46)), .ref ((q 47)), .ref ((q 48)), .ref ((q 49)), .ref ((q 50)), .ref ((q 51))]))]) hD hS hA [0] rfl
      refine va_calli (va_runV (As := [.int p1]) (rest := []) ⟨hx, hb, hml, hown, hts⟩ (c_X6_isDay l dC dI h0 q p1 H.size) (cwV 1 hts gX6_starters_c_X6_isDay_4 rfl rfl rfl (by decide +kernel) ⟨Nat.le_of_ble_eq_true rfl, Nat.le_of_ble_eq_true rfl⟩) ⟨fun a U g mk q => by obtain ⟨q0, q1, qP, qK, qD⟩ := q; exact ⟨q0, q1, qP, va_K.moved (u := U) (U := U.calling g mk a) (Vm.Alike.refl U.vm) qK, qD⟩, va_recv hKc hPc (ci := 6) (q0 := 0) rfl rfl, fun U hU hW => ⟨rfl, by rw [hU], by rw [hU]; exact hPc, va_K.moved hW.alike hKc, hDc.weaken (fun _ _ _ _ => trivial)⟩⟩ rfl rfl hl.1 rfl (lv_room (Nat.le_of_ble_eq_true rfl)) dX6_starters_17 ⟨show (0 + 0 : Nat) ≤ 0 from by omega, show (0 + 0 : Nat) ≤ 0 from by omega⟩) hS (fun q _ h => hFc q h) hFc (fun r_3 u t H1 locs ht hvm hw hB hz1 hk1 hS => ?_)
      obtain ⟨hP1, hK1, hD1⟩ := hB
      rw [ht] at hP1
      have hK1 := va_K.moved hvm.symm hK1
      try dsimp only at hw
      obtain ⟨hP, hD⟩ := va_join (wr := [((q 51), .inl ((cq 51), 16, .inl (fun _ => 0)))]) (w1 := [(h0, .inr (6, [.ref ((q 0)), .int 0, .int 0, .int 0, .int 0, .ref ((q 5)), .ref ((q 6)), .ref ((q 7)), .ref ((q 8)), .ref ((q 9)), .ref ((q 10)), .ref ((q 11)), .ref ((q 12)), .int 0, .int ((-1)), .int 0, .ref ((q 16)), .int 0, .ref ((q 18)), .ref ((q 19)), .ref ((q 20)), .ref ((q 21)), .ref ((q 22)), .ref ((q 23)), .ref ((q 24)), .ref ((q 25)), .ref ((q 26)), .ref ((q 27)), .ref ((q 28)), .ref ((q 29)), .ref ((q 30)), .int 0, .ref ((q 32)), .ref ((q 33)), .ref ((q 34)), .ref ((q 35)), .ref ((q 36)), .ref ((q 37)), .ref ((q 38)), .int 0, .int 0, .int 0, .int 0, .int 0, .int 0, .ref ((q 45)), .ref ((q 46)), .ref ((q 47)), .ref ((q 48)), .ref ((q 49)), .ref ((q 50)), .ref ((q 51))]))]) hP hD [0] [1] rfl rfl (by decide) (by decide) hk1 hFc hP1 hD1
      generalize H1 = H at hP hS ⊢
      have hP : va_P (dC, dI) vwCl [((q 51), .inl ((cq 51), 16, .inl (fun _ => 0))), (h0, .inr (6, [.ref ((q 0)), .int 0, .int 0, .int 0, .int 0, .ref ((q 5)), .ref ((q 6)), .ref ((q 7)), .ref ((q 8)), .ref ((q 9)), .ref ((q 10)), .ref ((q 11)), .ref ((q 12)), .int 0, .int ((-1)), .int 0, .ref ((q 16)), .int 0, .ref ((q 18)), .ref ((q 19)), .ref ((q 20)), .ref ((q 21)), .ref ((q 22)), .ref ((q 23)), .ref ((q 24)), .ref ((q 25)), .ref ((q 26)), .ref ((q 27)), .ref ((q 28)), .ref ((q 29)), .ref ((q 30)), .int 0, .ref ((q 32)), .ref ((q 33)), .ref ((q 34)), .ref ((q 35)), .ref ((q 36)), .ref ((q 37)), .ref ((q 38)), .int 0, .int 0, .int 0, .int 0, .int 0, .int 0, .ref ((q 45)), .ref ((q 46)), .ref ((q 47)), .ref ((q 48)), .ref ((q 49)), .ref ((q 50)), .ref ((q 51))]))] H := hP
      have hD : va_D A [((q 51), .inl ((cq 51), 16, .inl (fun _ => 0))), (h0, .inr (6, [.ref ((q 0)), .int 0, .int 0, .int 0, .int 0, .ref ((q 5)), .ref ((q 6)), .ref ((q 7)), .ref ((q 8)), .ref ((q 9)), .ref ((q 10)), .ref ((q 11)), .ref ((q 12)), .int 0, .int ((-1)), .int 0, .ref ((q 16)), .int 0, .ref ((q 18)), .ref ((q 19)), .ref ((q 20)), .ref ((q 21)), .ref ((q 22)), .ref ((q 23)), .ref ((q 24)), .ref ((q 25)), .ref ((q 26)), .ref ((q 27)), .ref ((q 28)), .ref ((q 29)), .ref ((q 30)), .int 0, .ref ((q 32)), .ref ((q 33)), .ref ((q 34)), .ref ((q 35)), .ref ((q 36)), .ref ((q 37)), .ref ((q 38)), .int 0, .int 0, .int 0, .int 0, .int 0, .int 0, .ref ((q 45)), .ref ((q 46)), .ref ((q 47)), .ref ((q 48)), .ref ((q 49)), .ref ((q 50)), .ref ((q 51))]))] := hD
      have hw_5 := hw
      refine lv_if_ne (tgt := 25) hx hb dX6_starters_20 (by decide) (fun c_6 => ?_) (fun c_6 => ?_)
      · refine lv_aload_n hx hb dX6_starters_25 rfl (lv_at hl 0 rfl) ?_
        refine lv_iload_n hx hb dX6_starters_26 rfl (lv_at hl 2 rfl) ?_
        have hPc := hP.sub (ws' := [(h0, .inr (6, [.ref ((q 0)), .int 0, .int 0, .int 0, .int 0, .ref ((q 5)), .ref ((q 6)), .ref ((q 7)), .ref ((q 8)), .ref ((q 9)), .ref ((q 10)), .ref ((q 11)), .ref ((q 12)), .int 0, .int ((-1)), .int 0, .ref ((q 16)), .int 0, .ref ((q 18)), .ref ((q 19)), .ref ((q 20)), .ref ((q 21)), .ref ((q 22)), .ref ((q 23)), .ref ((q 24)), .ref ((q 25)), .ref ((q 26)), .ref ((q 27)), .ref ((q 28)), .ref ((q 29)), .ref ((q 30)), .int 0, .ref ((q 32)), .ref ((q 33)), .ref ((q 34)), .ref ((q 35)), .ref ((q 36)), .ref ((q 37)), .ref ((q 38)), .int 0, .int 0, .int 0, .int 0, .int 0, .int 0, .ref ((q 45)), .ref ((q 46)), .ref ((q 47)), .ref ((q 48)), .ref ((q 49)), .ref ((q 50)), .ref ((q 51))])), ((q 51), .inl ((cq 51), 16, .inl (fun _ => 0)))]) [1, 0] rfl
        have hDc := hD.sub (ws' := [(h0, .inr (6, [.ref ((q 0)), .int 0, .int 0, .int 0, .int 0, .ref ((q 5)), .ref ((q 6)), .ref ((q 7)), .ref ((q 8)), .ref ((q 9)), .ref ((q 10)), .ref ((q 11)), .ref ((q 12)), .int 0, .int ((-1)), .int 0, .ref ((q 16)), .int 0, .ref ((q 18)), .ref ((q 19)), .ref ((q 20)), .ref ((q 21)), .ref ((q 22)), .ref ((q 23)), .ref ((q 24)), .ref ((q 25)), .ref ((q 26)), .ref ((q 27)), .ref ((q 28)), .ref ((q 29)), .ref ((q 30)), .int 0, .ref ((q 32)), .ref ((q 33)), .ref ((q 34)), .ref ((q 35)), .ref ((q 36)), .ref ((q 37)), .ref ((q 38)), .int 0, .int 0, .int 0, .int 0, .int 0, .int 0, .ref ((q 45)), .ref ((q 46)), .ref ((q 47)), .ref ((q 48)), .ref ((q 49)), .ref ((q 50)), .ref ((q 51))])), ((q 51), .inl ((cq 51), 16, .inl (fun _ => 0)))]) [1, 0] (by decide) rfl
        have hKc := hK.sub (tys' := [((cq 51), .int)]) [0] rfl
        have hFc := va_free (wc := [(h0, .inr (6, [.ref ((q 0)), .int 0, .int 0, .int 0, .int 0, .ref ((q 5)), .ref ((q 6)), .ref ((q 7)), .ref ((q 8)), .ref ((q 9)), .ref ((q 10)), .ref ((q 11)), .ref ((q 12)), .int 0, .int ((-1)), .int 0, .ref ((q 16)), .int 0, .ref ((q 18)), .ref ((q 19)), .ref ((q 20)), .ref ((q 21)), .ref ((q 22)), .ref ((q 23)), .ref ((q 24)), .ref ((q 25)), .ref ((q 26)), .ref ((q 27)), .ref ((q 28)), .ref ((q 29)), .ref ((q 30)), .int 0, .ref ((q 32)), .ref ((q 33)), .ref ((q 34)), .ref ((q 35)), .ref ((q 36)), .ref ((q 37)), .ref ((q 38)), .int 0, .int 0, .int 0, .int 0, .int 0, .int 0, .ref ((q 45)), .ref ((q 46)), .ref ((q 47)), .ref ((q 48)), .ref ((q 49)), .ref ((q 50)), .ref ((q 51))])), ((q 51), .inl ((cq 51), 16, .inl (fun _ => 0)))]) hD hS hA [1, 0] rfl
        refine va_callv (va_runV (As := [.int p1]) (rest := []) ⟨hx, hb, hml, hown, hts⟩ (c_X6_cup l dC dI h0 q cq p1 H.size) (cwV 1 hts gX6_starters_c_X6_cup_8 rfl rfl rfl (by decide +kernel) ⟨Nat.le_of_ble_eq_true rfl, Nat.le_of_ble_eq_true rfl⟩) ⟨fun a U g mk q => by obtain ⟨q0, q1, qP, qK, qD⟩ := q; exact ⟨q0, q1, qP, va_K.moved (u := U) (U := U.calling g mk a) (Vm.Alike.refl U.vm) qK, qD⟩, va_recv hKc hPc (ci := 6) (q0 := 0) rfl rfl, fun U hU hW => ⟨rfl, by rw [hU], by rw [hU]; exact hPc, va_K.moved hW.alike hKc, hDc.weaken (fun _ _ _ _ => trivial)⟩⟩ rfl rfl hl.1 rfl (lv_room (Nat.le_of_ble_eq_true rfl)) dX6_starters_27 ⟨show (0 + 0 : Nat) ≤ 0 from by omega, show (0 + 0 : Nat) ≤ 0 from by omega⟩) hS (fun q _ h => hFc q h) hFc (fun u t H1 locs ht hvm hw hB hz1 hk1 hS => ?_)
        obtain ⟨f_9, hP1, hK1, hD1⟩ := hB
        rw [ht] at hP1
        have hK1 := va_K.moved hvm.symm hK1
        try dsimp only at hw
        obtain ⟨hP, hD⟩ := va_join (wr := []) (w1 := [(h0, .inr (6, [.ref ((q 0)), .int 0, .int 0, .int 0, .int 0, .ref ((q 5)), .ref ((q 6)), .ref ((q 7)), .ref ((q 8)), .ref ((q 9)), .ref ((q 10)), .ref ((q 11)), .ref ((q 12)), .int 0, .int ((-1)), .int 0, .ref ((q 16)), .int 0, .ref ((q 18)), .ref ((q 19)), .ref ((q 20)), .ref ((q 21)), .ref ((q 22)), .ref ((q 23)), .ref ((q 24)), .ref ((q 25)), .ref ((q 26)), .ref ((q 27)), .ref ((q 28)), .ref ((q 29)), .ref ((q 30)), .int 0, .ref ((q 32)), .ref ((q 33)), .ref ((q 34)), .ref ((q 35)), .ref ((q 36)), .ref ((q 37)), .ref ((q 38)), .int 0, .int 0, .int 0, .int 0, .int 0, .int 0, .ref ((q 45)), .ref ((q 46)), .ref ((q 47)), .ref ((q 48)), .ref ((q 49)), .ref ((q 50)), .ref ((q 51))])), ((q 51), .inl ((cq 51), 16, .inl (f_9)))]) hP hD [1, 0] [] rfl rfl (by decide) (by decide) hk1 hFc hP1 hD1
        generalize H1 = H at hP hS ⊢
        have hP : va_P (dC, dI) vwCl [(h0, .inr (6, [.ref ((q 0)), .int 0, .int 0, .int 0, .int 0, .ref ((q 5)), .ref ((q 6)), .ref ((q 7)), .ref ((q 8)), .ref ((q 9)), .ref ((q 10)), .ref ((q 11)), .ref ((q 12)), .int 0, .int ((-1)), .int 0, .ref ((q 16)), .int 0, .ref ((q 18)), .ref ((q 19)), .ref ((q 20)), .ref ((q 21)), .ref ((q 22)), .ref ((q 23)), .ref ((q 24)), .ref ((q 25)), .ref ((q 26)), .ref ((q 27)), .ref ((q 28)), .ref ((q 29)), .ref ((q 30)), .int 0, .ref ((q 32)), .ref ((q 33)), .ref ((q 34)), .ref ((q 35)), .ref ((q 36)), .ref ((q 37)), .ref ((q 38)), .int 0, .int 0, .int 0, .int 0, .int 0, .int 0, .ref ((q 45)), .ref ((q 46)), .ref ((q 47)), .ref ((q 48)), .ref ((q 49)), .ref ((q 50)), .ref ((q 51))])), ((q 51), .inl ((cq 51), 16, .inl (f_9)))] H := hP
        have hD : va_D A [(h0, .inr (6, [.ref ((q 0)), .int 0, .int 0, .int 0, .int 0, .ref ((q 5)), .ref ((q 6)), .ref ((q 7)), .ref ((q 8)), .ref ((q 9)), .ref ((q 10)), .ref ((q 11)), .ref ((q 12)), .int 0, .int ((-1)), .int 0, .ref ((q 16)), .int 0, .ref ((q 18)), .ref ((q 19)), .ref ((q 20)), .ref ((q 21)), .ref ((q 22)), .ref ((q 23)), .ref ((q 24)), .ref ((q 25)), .ref ((q 26)), .ref ((q 27)), .ref ((q 28)), .ref ((q 29)), .ref ((q 30)), .int 0, .ref ((q 32)), .ref ((q 33)), .ref ((q 34)), .ref ((q 35)), .ref ((q 36)), .ref ((q 37)), .ref ((q 38)), .int 0, .int 0, .int 0, .int 0, .int 0, .int 0, .ref ((q 45)), .ref ((q 46)), .ref ((q 47)), .ref ((q 48)), .ref ((q 49)), .ref ((q 50)), .ref ((q 51))])), ((q 51), .inl ((cq 51), 16, .inl (f_9)))] := hD
        have hw_10 := hw
        refine lv_iconst (v := 2) hx hb dX6_starters_30 (by decide) ?_
        refine lv_istore_n (lv' := [(3, .int 2), (0, .ref h0), (1, .int p0), (2, .int p1)]) hx hb dX6_starters_31 rfl hl (by decide) rfl (fun ls hl => ?_)
        refine lv_iconst (v := 0) hx hb dX6_starters_32 (by decide) ?_
        refine lv_istore (lv' := [(4, .int 0), (3, .int 2), (0, .ref h0), (1, .int p0), (2, .int p1)]) hx hb dX6_starters_33 hl (by decide) rfl (fun ls hl => ?_)
        refine lv_iload hx hb dX6_starters_35 (lv_at hl 0 rfl) ?_
        refine lv_aload_n hx hb dX6_starters_37 rfl (lv_at hl 2 rfl) ?_
        refine va_get (D := (dC, dI)) (ci := 6) (v := .int 0) (C := RX6) (T := TX6) (N := 52) hx hb hts hin6 hown hK hP 0 rfl rfl 15 (by decide) (hts (.fieldLink RX6 197 "SkiShotsModel" "racers" "I") (by decide +kernel)) (fun _ h9 => h9) rfl dX6_starters_38 ?_
        refine lv_icmp_ge (tgt := 89) hx hb dX6_starters_41 (by decide) (fun c_11 => ?_) (fun c_11 => absurd (by decide) c_11)
        refine lv_iload_n hx hb dX6_starters_89 rfl (lv_at hl 1 rfl) ?_
        refine lv_iconst (v := 4) hx hb dX6_starters_90 (by decide) ?_
        refine lv_icmp_le (tgt := 98) hx hb dX6_starters_91 (by decide) (fun c_12 => ?_) (fun c_12 => absurd (by decide) c_12)
        refine lv_iload_n hx hb dX6_starters_98 rfl (lv_at hl 1 rfl) ?_
        exact W.iret (v := 2) hx hb hr (fun t ht hW => ⟨⟨2, (), rfl, by (try simp only [and_true, true_and, and_false, false_and, or_true, true_or, or_false, false_or, not_true_eq_false, not_false_eq_true, num_lt, num_le, num_eq, Int32.zero_add, Int32.sub_zero, Int32.add_zero, num_m2, num_m1, num_0, num_1, num_2, num_3, num_4, num_5, num_6, num_7, num_8, num_16, num_20, num_31, num_200, num_1000] at c_1 c_2 hw_5 c_6 c_11 c_12 ⊢) <;> omega, trivial⟩, hS.F ht⟩) hS.2.2 dX6_starters_99
      · refine lv_iconst (v := (-1)) hx hb dX6_starters_23 (by decide) ?_
        exact W.iret (v := (-1)) hx hb hr (fun t ht hW => ⟨⟨(-1), (), rfl, by (try simp only [and_true, true_and, and_false, false_and, or_true, true_or, or_false, false_or, not_true_eq_false, not_false_eq_true, num_lt, num_le, num_eq, Int32.zero_add, Int32.sub_zero, Int32.add_zero, num_m2, num_m1, num_0, num_1, num_2, num_3, num_4, num_5, num_6, num_7, num_8, num_16, num_20, num_31, num_200, num_1000] at c_1 c_2 hw_5 c_6 ⊢) <;> omega, trivial⟩, hS.F ht⟩) hS.2.2 dX6_starters_24
def wX6_feed : List Cond := .code yX6_feed cX6_feed 8 (some .int) :: ([.fieldLink RX6 126 "SkiShotsModel" "thrown" "I", .fieldLink RX6 129 "SkiShotsModel" "tapeSize" "I", .fieldLink RX6 7 "SkiShotsModel" "tape" "[I"] ++ wsX60)
set_option maxHeartbeats 4000000 in
set_option maxRecDepth 100000 in
theorem c_X6_feed (l : Launch) (dC : Nat → ClassId) (dI : Nat → Nat → Nat) (h0 : Nat) (q : Nat → Nat) (cq : Nat → ClassId) (p0 : Int32) (p1 : Int32) (p2 : Int32) (p3 : Int32) (p4 : Int32) (sz : Nat) : Met l yX6_feed wX6_feed ({ frames := 0, cells := 0, slots := 0, locals := 0 }) (va_Pc [.ref h0, .int p0, .int p1, .int p2, .int p3, .int p4] (fun U => U.heap.size = sz ∧ va_P (dC, dI) vwCl [(h0, .inr (6, [.ref ((q 0)), .int 0, .int 0, .int 0, .int 0, .ref ((q 5)), .ref ((q 6)), .ref ((q 7)), .ref ((q 8)), .ref ((q 9)), .ref ((q 10)), .ref ((q 11)), .ref ((q 12)), .int 0, .int ((-1)), .int 0, .ref ((q 16)), .int 0, .ref ((q 18)), .ref ((q 19)), .ref ((q 20)), .ref ((q 21)), .ref ((q 22)), .ref ((q 23)), .ref ((q 24)), .ref ((q 25)), .ref ((q 26)), .ref ((q 27)), .ref ((q 28)), .ref ((q 29)), .ref ((q 30)), .int 0, .ref ((q 32)), .ref ((q 33)), .ref ((q 34)), .ref ((q 35)), .ref ((q 36)), .ref ((q 37)), .ref ((q 38)), .int 0, .int 0, .int 0, .int 0, .int 0, .int 0, .ref ((q 45)), .ref ((q 46)), .ref ((q 47)), .ref ((q 48)), .ref ((q 49)), .ref ((q 50)), .ref ((q 51))])), ((q 0), .inl ((cq 0), 1000, .inl (fun _ => 0)))] U.heap ∧ va_K (dC, dI) vwCl [((cq 0), .int)] U ∧ va_D (fun _ => True) [(h0, .inr (6, [.ref ((q 0)), .int 0, .int 0, .int 0, .int 0, .ref ((q 5)), .ref ((q 6)), .ref ((q 7)), .ref ((q 8)), .ref ((q 9)), .ref ((q 10)), .ref ((q 11)), .ref ((q 12)), .int 0, .int ((-1)), .int 0, .ref ((q 16)), .int 0, .ref ((q 18)), .ref ((q 19)), .ref ((q 20)), .ref ((q 21)), .ref ((q 22)), .ref ((q 23)), .ref ((q 24)), .ref ((q 25)), .ref ((q 26)), .ref ((q 27)), .ref ((q 28)), .ref ((q 29)), .ref ((q 30)), .int 0, .ref ((q 32)), .ref ((q 33)), .ref ((q 34)), .ref ((q 35)), .ref ((q 36)), .ref ((q 37)), .ref ((q 38)), .int 0, .int 0, .int 0, .int 0, .int 0, .int 0, .ref ((q 45)), .ref ((q 46)), .ref ((q 47)), .ref ((q 48)), .ref ((q 49)), .ref ((q 50)), .ref ((q 51))])), ((q 0), .inl ((cq 0), 1000, .inl (fun _ => 0)))])) (va_Qi (fun (r : Int32) (_ : Unit) => r = 20) (fun _ t => True) (va_A [(h0, .inr (6, [.ref ((q 0)), .int 0, .int 0, .int 0, .int 0, .ref ((q 5)), .ref ((q 6)), .ref ((q 7)), .ref ((q 8)), .ref ((q 9)), .ref ((q 10)), .ref ((q 11)), .ref ((q 12)), .int 0, .int ((-1)), .int 0, .ref ((q 16)), .int 0, .ref ((q 18)), .ref ((q 19)), .ref ((q 20)), .ref ((q 21)), .ref ((q 22)), .ref ((q 23)), .ref ((q 24)), .ref ((q 25)), .ref ((q 26)), .ref ((q 27)), .ref ((q 28)), .ref ((q 29)), .ref ((q 30)), .int 0, .ref ((q 32)), .ref ((q 33)), .ref ((q 34)), .ref ((q 35)), .ref ((q 36)), .ref ((q 37)), .ref ((q 38)), .int 0, .int 0, .int 0, .int 0, .int 0, .int 0, .ref ((q 45)), .ref ((q 46)), .ref ((q 47)), .ref ((q 48)), .ref ((q 49)), .ref ((q 50)), .ref ((q 51))])), ((q 0), .inl ((cq 0), 1000, .inl (fun _ => 0)))] sz)) 0 0 (va_A [(h0, .inr (6, [.ref ((q 0)), .int 0, .int 0, .int 0, .int 0, .ref ((q 5)), .ref ((q 6)), .ref ((q 7)), .ref ((q 8)), .ref ((q 9)), .ref ((q 10)), .ref ((q 11)), .ref ((q 12)), .int 0, .int ((-1)), .int 0, .ref ((q 16)), .int 0, .ref ((q 18)), .ref ((q 19)), .ref ((q 20)), .ref ((q 21)), .ref ((q 22)), .ref ((q 23)), .ref ((q 24)), .ref ((q 25)), .ref ((q 26)), .ref ((q 27)), .ref ((q 28)), .ref ((q 29)), .ref ((q 30)), .int 0, .ref ((q 32)), .ref ((q 33)), .ref ((q 34)), .ref ((q 35)), .ref ((q 36)), .ref ((q 37)), .ref ((q 38)), .int 0, .int 0, .int 0, .int 0, .int 0, .int 0, .ref ((q 45)), .ref ((q 46)), .ref ((q 47)), .ref ((q 48)), .ref ((q 49)), .ref ((q 50)), .ref ((q 51))])), ((q 0), .inl ((cq 0), 1000, .inl (fun _ => 0)))] sz) := by
  refine Met.ofW (cc := cX6_feed) (maxL := 8) (ret := (some .int)) (by decide) rfl ?_
  intro p e s m args below meth c s₁ B hml hv
  obtain ⟨rfl, hsz, hP, hK, hD0⟩ := hv
  have hx := B.exec
  have hb := B.bytes
  have hr := B.returns
  have hts := atoms_spec (ws := wX6_feed) B.pre
  have hown : s.vm.findClass RX6 = some m.cls := findClass_of_methodNamed B.named
  have hlocks := B.notSynchronized
  have hin6 : ∀ w ∈ wsX60, w ∈ wX6_feed := by decide +kernel
  subst hsz
  have hD := hD0.self (sz := s.heap.size)
  generalize hAe : va_A [(h0, .inr (6, [.ref ((q 0)), .int 0, .int 0, .int 0, .int 0, .ref ((q 5)), .ref ((q 6)), .ref ((q 7)), .ref ((q 8)), .ref ((q 9)), .ref ((q 10)), .ref ((q 11)), .ref ((q 12)), .int 0, .int ((-1)), .int 0, .ref ((q 16)), .int 0, .ref ((q 18)), .ref ((q 19)), .ref ((q 20)), .ref ((q 21)), .ref ((q 22)), .ref ((q 23)), .ref ((q 24)), .ref ((q 25)), .ref ((q 26)), .ref ((q 27)), .ref ((q 28)), .ref ((q 29)), .ref ((q 30)), .int 0, .ref ((q 32)), .ref ((q 33)), .ref ((q 34)), .ref ((q 35)), .ref ((q 36)), .ref ((q 37)), .ref ((q 38)), .int 0, .int 0, .int 0, .int 0, .int 0, .int 0, .ref ((q 45)), .ref ((q 46)), .ref ((q 47)), .ref ((q 48)), .ref ((q 49)), .ref ((q 50)), .ref ((q 51))])), ((q 0), .inl ((cq 0), 1000, .inl (fun _ => 0)))] s.heap.size = A at hD ⊢
  have hA : ∀ q : Nat, s.heap.size ≤ q → A q := fun q h => by rw [← hAe]; exact Or.inr h
  have hS : va_S A s.heap s.heap [] := va_S.rf
  have hP : va_P (dC, dI) vwCl [(h0, .inr (6, [.ref ((q 0)), .int 0, .int 0, .int 0, .int 0, .ref ((q 5)), .ref ((q 6)), .ref ((q 7)), .ref ((q 8)), .ref ((q 9)), .ref ((q 10)), .ref ((q 11)), .ref ((q 12)), .int 0, .int ((-1)), .int 0, .ref ((q 16)), .int 0, .ref ((q 18)), .ref ((q 19)), .ref ((q 20)), .ref ((q 21)), .ref ((q 22)), .ref ((q 23)), .ref ((q 24)), .ref ((q 25)), .ref ((q 26)), .ref ((q 27)), .ref ((q 28)), .ref ((q 29)), .ref ((q 30)), .int 0, .ref ((q 32)), .ref ((q 33)), .ref ((q 34)), .ref ((q 35)), .ref ((q 36)), .ref ((q 37)), .ref ((q 38)), .int 0, .int 0, .int 0, .int 0, .int 0, .int 0, .ref ((q 45)), .ref ((q 46)), .ref ((q 47)), .ref ((q 48)), .ref ((q 49)), .ref ((q 50)), .ref ((q 51))])), ((q 0), .inl ((cq 0), 1000, .inl (fun _ => 0)))] s.heap := hP
  have hl := lv_entry ([.ref h0, .int p0, .int p1, .int p2, .int p3, .int p4]) (n := 8) (Nat.le_of_ble_eq_true rfl)
  rw [lg_entry_eq]
  generalize (lg_sl ([.ref h0, .int p0, .int p1, .int p2, .int p3, .int p4]) ++ List.replicate (8 - (lg_sl ([.ref h0, .int p0, .int p1, .int p2, .int p3, .int p4])).length) Slot.unset).toArray = ls at hl ⊢
  have hl : lv_has ls 8 [(0, .ref h0), (1, .int p0), (2, .int p1), (3, .int p2), (4, .int p3), (5, .int p4)] := hl
  refine lv_aload_n hx hb dX6_feed_0 rfl (lv_at hl 0 rfl) ?_
  refine lv_iconst (v := 0) hx hb dX6_feed_1 (by decide) ?_
  refine va_put (D := (dC, dI)) (ci := 6) (v := .int 0) (ty := .int) (C := RX6) (T := TX6) (N := 52) hx hb hts hin6 tyX6 tyX6_ok nmX6 hown hK hP hD hS 0 rfl rfl 2 (by decide) (hts (.fieldLink RX6 126 "SkiShotsModel" "thrown" "I") (by decide +kernel)) (fun _ h9 => h9) rfl (by decide +kernel) rfl rfl (Nat.le_of_ble_eq_true rfl) dX6_feed_2 (fun H locs hP hD hS => ?_)
  have hP : va_P (dC, dI) vwCl [(h0, .inr (6, [.ref ((q 0)), .int 0, .int 0, .int 0, .int 0, .ref ((q 5)), .ref ((q 6)), .ref ((q 7)), .ref ((q 8)), .ref ((q 9)), .ref ((q 10)), .ref ((q 11)), .ref ((q 12)), .int 0, .int ((-1)), .int 0, .ref ((q 16)), .int 0, .ref ((q 18)), .ref ((q 19)), .ref ((q 20)), .ref ((q 21)), .ref ((q 22)), .ref ((q 23)), .ref ((q 24)), .ref ((q 25)), .ref ((q 26)), .ref ((q 27)), .ref ((q 28)), .ref ((q 29)), .ref ((q 30)), .int 0, .ref ((q 32)), .ref ((q 33)), .ref ((q 34)), .ref ((q 35)), .ref ((q 36)), .ref ((q 37)), .ref ((q 38)), .int 0, .int 0, .int 0, .int 0, .int 0, .int 0, .ref ((q 45)), .ref ((q 46)), .ref ((q 47)), .ref ((q 48)), .ref ((q 49)), .ref ((q 50)), .ref ((q 51))])), ((q 0), .inl ((cq 0), 1000, .inl (fun _ => 0)))] H := hP
  have hD : va_D A [(h0, .inr (6, [.ref ((q 0)), .int 0, .int 0, .int 0, .int 0, .ref ((q 5)), .ref ((q 6)), .ref ((q 7)), .ref ((q 8)), .ref ((q 9)), .ref ((q 10)), .ref ((q 11)), .ref ((q 12)), .int 0, .int ((-1)), .int 0, .ref ((q 16)), .int 0, .ref ((q 18)), .ref ((q 19)), .ref ((q 20)), .ref ((q 21)), .ref ((q 22)), .ref ((q 23)), .ref ((q 24)), .ref ((q 25)), .ref ((q 26)), .ref ((q 27)), .ref ((q 28)), .ref ((q 29)), .ref ((q 30)), .int 0, .ref ((q 32)), .ref ((q 33)), .ref ((q 34)), .ref ((q 35)), .ref ((q 36)), .ref ((q 37)), .ref ((q 38)), .int 0, .int 0, .int 0, .int 0, .int 0, .int 0, .ref ((q 45)), .ref ((q 46)), .ref ((q 47)), .ref ((q 48)), .ref ((q 49)), .ref ((q 50)), .ref ((q 51))])), ((q 0), .inl ((cq 0), 1000, .inl (fun _ => 0)))] := hD
  refine lv_aload_n hx hb dX6_feed_5 rfl (lv_at hl 0 rfl) ?_
  refine va_get (D := (dC, dI)) (ci := 6) (v := .int 0) (C := RX6) (T := TX6) (N := 52) hx hb hts hin6 hown hK hP 0 rfl rfl 1 (by decide) (hts (.fieldLink RX6 129 "SkiShotsModel" "tapeSize" "I") (by decide +kernel)) (fun _ h9 => h9) rfl dX6_feed_6 ?_
  refine lv_bipush (v := 20) hx hb dX6_feed_9 (by decide) ?_
  refine lv_iadd hx hb dX6_feed_11 ?_
  rw [show (0 + 20 : Int32) = 20 from by decide]
  refine lv_sipush (v := 1000) hx hb dX6_feed_12 (by decide) ?_
  refine lv_icmp_le (tgt := 20) hx hb dX6_feed_15 (by decide) (fun c_1 => ?_) (fun c_1 => absurd (by decide) c_1)
  refine lv_iconst (v := 0) hx hb dX6_feed_20 (by decide) ?_
  refine lv_istore (lv' := [(6, .int 0), (0, .ref h0), (1, .int p0), (2, .int p1), (3, .int p2), (4, .int p3), (5, .int p4)]) hx hb dX6_feed_21 hl (by decide) rfl (fun ls hl => ?_)
  refine lv_iload hx hb dX6_feed_23 (lv_at hl 0 rfl) ?_
  refine lv_bipush (v := 20) hx hb dX6_feed_25 (by decide) ?_
  refine lv_icmp_ge (tgt := 113) hx hb dX6_feed_27 (by decide) (fun c_2 => absurd c_2 (by decide)) (fun c_2 => ?_)
  refine lv_iload hx hb dX6_feed_30 (lv_at hl 0 rfl) ?_
  refine lv_iconst (v := 4) hx hb dX6_feed_32 (by decide) ?_
  refine lv_icmp_ge (tgt := 40) hx hb dX6_feed_33 (by decide) (fun c_3 => absurd c_3 (by decide)) (fun c_3 => ?_)
  refine lv_iload_n hx hb dX6_feed_36 rfl (lv_at hl 2 rfl) ?_
  refine lv_goto (tgt := 76) hx hb dX6_feed_37 (by decide) ?_
  refine lv_istore (lv' := [(7, .int p0), (6, .int 0), (0, .ref h0), (1, .int p0), (2, .int p1), (3, .int p2), (4, .int p3), (5, .int p4)]) hx hb dX6_feed_76 hl (by decide) rfl (fun ls hl => ?_)
  refine lv_aload_n hx hb dX6_feed_78 rfl (lv_at hl 2 rfl) ?_
  refine va_get (D := (dC, dI)) (ci := 6) (v := .ref ((q 0))) (C := RX6) (T := TX6) (N := 52) hx hb hts hin6 hown hK hP 0 rfl rfl 0 (by decide) (hts (.fieldLink RX6 7 "SkiShotsModel" "tape" "[I") (by decide +kernel)) (fun _ h9 => h9) rfl dX6_feed_79 ?_
  refine lv_aload_n hx hb dX6_feed_82 rfl (lv_at hl 2 rfl) ?_
  refine va_get (D := (dC, dI)) (ci := 6) (v := .int 0) (C := RX6) (T := TX6) (N := 52) hx hb hts hin6 hown hK hP 0 rfl rfl 1 (by decide) (hts (.fieldLink RX6 129 "SkiShotsModel" "tapeSize" "I") (by decide +kernel)) (fun _ h9 => h9) rfl dX6_feed_83 ?_
  refine lv_iload hx hb dX6_feed_86 (lv_at hl 1 rfl) ?_
  refine lv_iadd hx hb dX6_feed_88 ?_
  rw [show (0 + 0 : Int32) = 0 from by decide]
  refine lv_iload hx hb dX6_feed_89 (lv_at hl 0 rfl) ?_
  refine lv_bipush (v := 24) hx hb dX6_feed_91 (by decide) ?_
  refine lv_bipush (v := 8) hx hb dX6_feed_93 (by decide) ?_
  refine lv_iload hx hb dX6_feed_95 (lv_at hl 1 rfl) ?_
  refine lv_iconst (v := 4) hx hb dX6_feed_97 (by decide) ?_
  refine lv_irem hx hb dX6_feed_98 (by decide) ?_
  rw [show (0 - 0 / 4 * 4 : Int32) = 0 from by decide]
  refine lv_imul hx hb dX6_feed_99 ?_
  rw [show (8 * 0 : Int32) = 0 from by decide]
  refine lv_isub hx hb dX6_feed_100 ?_
  rw [show (24 - 0 : Int32) = 24 from by decide]
  refine lv_ishr hx hb dX6_feed_101 ?_
  refine lv_sipush (v := 255) hx hb dX6_feed_102 (by decide) ?_
  refine lv_iand hx hb dX6_feed_105 ?_
  refine va_iast hx hb hK hP hD hS 1 0 rfl rfl (by unfold vp_in; decide) dX6_feed_106 (fun H locs hP hD hS => ?_)
  obtain ⟨f_4, ef_4⟩ : ∃ g : Nat → Int32, g = upd (fun _ => 0) (Int32.toNatClampNeg 0) ((p0 >>> (24 &&& 31)) &&& 255) := ⟨_, rfl⟩
  have hP : va_P (dC, dI) vwCl [(h0, .inr (6, [.ref ((q 0)), .int 0, .int 0, .int 0, .int 0, .ref ((q 5)), .ref ((q 6)), .ref ((q 7)), .ref ((q 8)), .ref ((q 9)), .ref ((q 10)), .ref ((q 11)), .ref ((q 12)), .int 0, .int ((-1)), .int 0, .ref ((q 16)), .int 0, .ref ((q 18)), .ref ((q 19)), .ref ((q 20)), .ref ((q 21)), .ref ((q 22)), .ref ((q 23)), .ref ((q 24)), .ref ((q 25)), .ref ((q 26)), .ref ((q 27)), .ref ((q 28)), .ref ((q 29)), .ref ((q 30)), .int 0, .ref ((q 32)), .ref ((q 33)), .ref ((q 34)), .ref ((q 35)), .ref ((q 36)), .ref ((q 37)), .ref ((q 38)), .int 0, .int 0, .int 0, .int 0, .int 0, .int 0, .ref ((q 45)), .ref ((q 46)), .ref ((q 47)), .ref ((q 48)), .ref ((q 49)), .ref ((q 50)), .ref ((q 51))])), ((q 0), .inl ((cq 0), 1000, .inl (f_4)))] H := by rw [ef_4]; exact hP
  have hD : va_D A [(h0, .inr (6, [.ref ((q 0)), .int 0, .int 0, .int 0, .int 0, .ref ((q 5)), .ref ((q 6)), .ref ((q 7)), .ref ((q 8)), .ref ((q 9)), .ref ((q 10)), .ref ((q 11)), .ref ((q 12)), .int 0, .int ((-1)), .int 0, .ref ((q 16)), .int 0, .ref ((q 18)), .ref ((q 19)), .ref ((q 20)), .ref ((q 21)), .ref ((q 22)), .ref ((q 23)), .ref ((q 24)), .ref ((q 25)), .ref ((q 26)), .ref ((q 27)), .ref ((q 28)), .ref ((q 29)), .ref ((q 30)), .int 0, .ref ((q 32)), .ref ((q 33)), .ref ((q 34)), .ref ((q 35)), .ref ((q 36)), .ref ((q 37)), .ref ((q 38)), .int 0, .int 0, .int 0, .int 0, .int 0, .int 0, .ref ((q 45)), .ref ((q 46)), .ref ((q 47)), .ref ((q 48)), .ref ((q 49)), .ref ((q 50)), .ref ((q 51))])), ((q 0), .inl ((cq 0), 1000, .inl (f_4)))] := by rw [ef_4]; exact hD
  refine lv_iinc (v := 1) (lv' := [(6, .int 1), (7, .int p0), (0, .ref h0), (1, .int p0), (2, .int p1), (3, .int p2), (4, .int p3), (5, .int p4)]) hx hb dX6_feed_107 hl (k := 1) rfl (by decide) (by decide) rfl (fun ls hl => ?_)
  refine lv_goto (tgt := 23) hx hb dX6_feed_110 (by decide) ?_
  refine lv_iload hx hb dX6_feed_23 (lv_at hl 0 rfl) ?_
  refine lv_bipush (v := 20) hx hb dX6_feed_25 (by decide) ?_
  refine lv_icmp_ge (tgt := 113) hx hb dX6_feed_27 (by decide) (fun c_5 => absurd c_5 (by decide)) (fun c_5 => ?_)
  refine lv_iload hx hb dX6_feed_30 (lv_at hl 0 rfl) ?_
  refine lv_iconst (v := 4) hx hb dX6_feed_32 (by decide) ?_
  refine lv_icmp_ge (tgt := 40) hx hb dX6_feed_33 (by decide) (fun c_6 => absurd c_6 (by decide)) (fun c_6 => ?_)
  refine lv_iload_n hx hb dX6_feed_36 rfl (lv_at hl 3 rfl) ?_
  refine lv_goto (tgt := 76) hx hb dX6_feed_37 (by decide) ?_
  refine lv_istore (lv' := [(7, .int p0), (6, .int 1), (0, .ref h0), (1, .int p0), (2, .int p1), (3, .int p2), (4, .int p3), (5, .int p4)]) hx hb dX6_feed_76 hl (by decide) rfl (fun ls hl => ?_)
  refine lv_aload_n hx hb dX6_feed_78 rfl (lv_at hl 2 rfl) ?_
  refine va_get (D := (dC, dI)) (ci := 6) (v := .ref ((q 0))) (C := RX6) (T := TX6) (N := 52) hx hb hts hin6 hown hK hP 0 rfl rfl 0 (by decide) (hts (.fieldLink RX6 7 "SkiShotsModel" "tape" "[I") (by decide +kernel)) (fun _ h9 => h9) rfl dX6_feed_79 ?_
  refine lv_aload_n hx hb dX6_feed_82 rfl (lv_at hl 2 rfl) ?_
  refine va_get (D := (dC, dI)) (ci := 6) (v := .int 0) (C := RX6) (T := TX6) (N := 52) hx hb hts hin6 hown hK hP 0 rfl rfl 1 (by decide) (hts (.fieldLink RX6 129 "SkiShotsModel" "tapeSize" "I") (by decide +kernel)) (fun _ h9 => h9) rfl dX6_feed_83 ?_
  refine lv_iload hx hb dX6_feed_86 (lv_at hl 1 rfl) ?_
  refine lv_iadd hx hb dX6_feed_88 ?_
  rw [show (0 + 1 : Int32) = 1 from by decide]
  refine lv_iload hx hb dX6_feed_89 (lv_at hl 0 rfl) ?_
  refine lv_bipush (v := 24) hx hb dX6_feed_91 (by decide) ?_
  refine lv_bipush (v := 8) hx hb dX6_feed_93 (by decide) ?_
  refine lv_iload hx hb dX6_feed_95 (lv_at hl 1 rfl) ?_
  refine lv_iconst (v := 4) hx hb dX6_feed_97 (by decide) ?_
  refine lv_irem hx hb dX6_feed_98 (by decide) ?_
  rw [show (1 - 1 / 4 * 4 : Int32) = 1 from by decide]
  refine lv_imul hx hb dX6_feed_99 ?_
  rw [show (8 * 1 : Int32) = 8 from by decide]
  refine lv_isub hx hb dX6_feed_100 ?_
  rw [show (24 - 8 : Int32) = 16 from by decide]
  refine lv_ishr hx hb dX6_feed_101 ?_
  refine lv_sipush (v := 255) hx hb dX6_feed_102 (by decide) ?_
  refine lv_iand hx hb dX6_feed_105 ?_
  refine va_iast hx hb hK hP hD hS 1 0 rfl rfl (by unfold vp_in; decide) dX6_feed_106 (fun H locs hP hD hS => ?_)
  obtain ⟨f_7, ef_7⟩ : ∃ g : Nat → Int32, g = upd (f_4) (Int32.toNatClampNeg 1) ((p0 >>> (16 &&& 31)) &&& 255) := ⟨_, rfl⟩
  have hP : va_P (dC, dI) vwCl [(h0, .inr (6, [.ref ((q 0)), .int 0, .int 0, .int 0, .int 0, .ref ((q 5)), .ref ((q 6)), .ref ((q 7)), .ref ((q 8)), .ref ((q 9)), .ref ((q 10)), .ref ((q 11)), .ref ((q 12)), .int 0, .int ((-1)), .int 0, .ref ((q 16)), .int 0, .ref ((q 18)), .ref ((q 19)), .ref ((q 20)), .ref ((q 21)), .ref ((q 22)), .ref ((q 23)), .ref ((q 24)), .ref ((q 25)), .ref ((q 26)), .ref ((q 27)), .ref ((q 28)), .ref ((q 29)), .ref ((q 30)), .int 0, .ref ((q 32)), .ref ((q 33)), .ref ((q 34)), .ref ((q 35)), .ref ((q 36)), .ref ((q 37)), .ref ((q 38)), .int 0, .int 0, .int 0, .int 0, .int 0, .int 0, .ref ((q 45)), .ref ((q 46)), .ref ((q 47)), .ref ((q 48)), .ref ((q 49)), .ref ((q 50)), .ref ((q 51))])), ((q 0), .inl ((cq 0), 1000, .inl (f_7)))] H := by rw [ef_7]; exact hP
  have hD : va_D A [(h0, .inr (6, [.ref ((q 0)), .int 0, .int 0, .int 0, .int 0, .ref ((q 5)), .ref ((q 6)), .ref ((q 7)), .ref ((q 8)), .ref ((q 9)), .ref ((q 10)), .ref ((q 11)), .ref ((q 12)), .int 0, .int ((-1)), .int 0, .ref ((q 16)), .int 0, .ref ((q 18)), .ref ((q 19)), .ref ((q 20)), .ref ((q 21)), .ref ((q 22)), .ref ((q 23)), .ref ((q 24)), .ref ((q 25)), .ref ((q 26)), .ref ((q 27)), .ref ((q 28)), .ref ((q 29)), .ref ((q 30)), .int 0, .ref ((q 32)), .ref ((q 33)), .ref ((q 34)), .ref ((q 35)), .ref ((q 36)), .ref ((q 37)), .ref ((q 38)), .int 0, .int 0, .int 0, .int 0, .int 0, .int 0, .ref ((q 45)), .ref ((q 46)), .ref ((q 47)), .ref ((q 48)), .ref ((q 49)), .ref ((q 50)), .ref ((q 51))])), ((q 0), .inl ((cq 0), 1000, .inl (f_7)))] := by rw [ef_7]; exact hD
  refine lv_iinc (v := 2) (lv' := [(6, .int 2), (7, .int p0), (0, .ref h0), (1, .int p0), (2, .int p1), (3, .int p2), (4, .int p3), (5, .int p4)]) hx hb dX6_feed_107 hl (k := 1) rfl (by decide) (by decide) rfl (fun ls hl => ?_)
  refine lv_goto (tgt := 23) hx hb dX6_feed_110 (by decide) ?_
  refine lv_iload hx hb dX6_feed_23 (lv_at hl 0 rfl) ?_
  refine lv_bipush (v := 20) hx hb dX6_feed_25 (by decide) ?_
  refine lv_icmp_ge (tgt := 113) hx hb dX6_feed_27 (by decide) (fun c_8 => absurd c_8 (by decide)) (fun c_8 => ?_)
  refine lv_iload hx hb dX6_feed_30 (lv_at hl 0 rfl) ?_
  refine lv_iconst (v := 4) hx hb dX6_feed_32 (by decide) ?_
  refine lv_icmp_ge (tgt := 40) hx hb dX6_feed_33 (by decide) (fun c_9 => absurd c_9 (by decide)) (fun c_9 => ?_)
  refine lv_iload_n hx hb dX6_feed_36 rfl (lv_at hl 3 rfl) ?_
  refine lv_goto (tgt := 76) hx hb dX6_feed_37 (by decide) ?_
  refine lv_istore (lv' := [(7, .int p0), (6, .int 2), (0, .ref h0), (1, .int p0), (2, .int p1), (3, .int p2), (4, .int p3), (5, .int p4)]) hx hb dX6_feed_76 hl (by decide) rfl (fun ls hl => ?_)
  refine lv_aload_n hx hb dX6_feed_78 rfl (lv_at hl 2 rfl) ?_
  refine va_get (D := (dC, dI)) (ci := 6) (v := .ref ((q 0))) (C := RX6) (T := TX6) (N := 52) hx hb hts hin6 hown hK hP 0 rfl rfl 0 (by decide) (hts (.fieldLink RX6 7 "SkiShotsModel" "tape" "[I") (by decide +kernel)) (fun _ h9 => h9) rfl dX6_feed_79 ?_
  refine lv_aload_n hx hb dX6_feed_82 rfl (lv_at hl 2 rfl) ?_
  refine va_get (D := (dC, dI)) (ci := 6) (v := .int 0) (C := RX6) (T := TX6) (N := 52) hx hb hts hin6 hown hK hP 0 rfl rfl 1 (by decide) (hts (.fieldLink RX6 129 "SkiShotsModel" "tapeSize" "I") (by decide +kernel)) (fun _ h9 => h9) rfl dX6_feed_83 ?_
  refine lv_iload hx hb dX6_feed_86 (lv_at hl 1 rfl) ?_
  refine lv_iadd hx hb dX6_feed_88 ?_
  rw [show (0 + 2 : Int32) = 2 from by decide]
  refine lv_iload hx hb dX6_feed_89 (lv_at hl 0 rfl) ?_
  refine lv_bipush (v := 24) hx hb dX6_feed_91 (by decide) ?_
  refine lv_bipush (v := 8) hx hb dX6_feed_93 (by decide) ?_
  refine lv_iload hx hb dX6_feed_95 (lv_at hl 1 rfl) ?_
  refine lv_iconst (v := 4) hx hb dX6_feed_97 (by decide) ?_
  refine lv_irem hx hb dX6_feed_98 (by decide) ?_
  rw [show (2 - 2 / 4 * 4 : Int32) = 2 from by decide]
  refine lv_imul hx hb dX6_feed_99 ?_
  rw [show (8 * 2 : Int32) = 16 from by decide]
  refine lv_isub hx hb dX6_feed_100 ?_
  rw [show (24 - 16 : Int32) = 8 from by decide]
  refine lv_ishr hx hb dX6_feed_101 ?_
  refine lv_sipush (v := 255) hx hb dX6_feed_102 (by decide) ?_
  refine lv_iand hx hb dX6_feed_105 ?_
  refine va_iast hx hb hK hP hD hS 1 0 rfl rfl (by unfold vp_in; decide) dX6_feed_106 (fun H locs hP hD hS => ?_)
  obtain ⟨f_10, ef_10⟩ : ∃ g : Nat → Int32, g = upd (f_7) (Int32.toNatClampNeg 2) ((p0 >>> (8 &&& 31)) &&& 255) := ⟨_, rfl⟩
  have hP : va_P (dC, dI) vwCl [(h0, .inr (6, [.ref ((q 0)), .int 0, .int 0, .int 0, .int 0, .ref ((q 5)), .ref ((q 6)), .ref ((q 7)), .ref ((q 8)), .ref ((q 9)), .ref ((q 10)), .ref ((q 11)), .ref ((q 12)), .int 0, .int ((-1)), .int 0, .ref ((q 16)), .int 0, .ref ((q 18)), .ref ((q 19)), .ref ((q 20)), .ref ((q 21)), .ref ((q 22)), .ref ((q 23)), .ref ((q 24)), .ref ((q 25)), .ref ((q 26)), .ref ((q 27)), .ref ((q 28)), .ref ((q 29)), .ref ((q 30)), .int 0, .ref ((q 32)), .ref ((q 33)), .ref ((q 34)), .ref ((q 35)), .ref ((q 36)), .ref ((q 37)), .ref ((q 38)), .int 0, .int 0, .int 0, .int 0, .int 0, .int 0, .ref ((q 45)), .ref ((q 46)), .ref ((q 47)), .ref ((q 48)), .ref ((q 49)), .ref ((q 50)), .ref ((q 51))])), ((q 0), .inl ((cq 0), 1000, .inl (f_10)))] H := by rw [ef_10]; exact hP
  have hD : va_D A [(h0, .inr (6, [.ref ((q 0)), .int 0, .int 0, .int 0, .int 0, .ref ((q 5)), .ref ((q 6)), .ref ((q 7)), .ref ((q 8)), .ref ((q 9)), .ref ((q 10)), .ref ((q 11)), .ref ((q 12)), .int 0, .int ((-1)), .int 0, .ref ((q 16)), .int 0, .ref ((q 18)), .ref ((q 19)), .ref ((q 20)), .ref ((q 21)), .ref ((q 22)), .ref ((q 23)), .ref ((q 24)), .ref ((q 25)), .ref ((q 26)), .ref ((q 27)), .ref ((q 28)), .ref ((q 29)), .ref ((q 30)), .int 0, .ref ((q 32)), .ref ((q 33)), .ref ((q 34)), .ref ((q 35)), .ref ((q 36)), .ref ((q 37)), .ref ((q 38)), .int 0, .int 0, .int 0, .int 0, .int 0, .int 0, .ref ((q 45)), .ref ((q 46)), .ref ((q 47)), .ref ((q 48)), .ref ((q 49)), .ref ((q 50)), .ref ((q 51))])), ((q 0), .inl ((cq 0), 1000, .inl (f_10)))] := by rw [ef_10]; exact hD
  refine lv_iinc (v := 3) (lv' := [(6, .int 3), (7, .int p0), (0, .ref h0), (1, .int p0), (2, .int p1), (3, .int p2), (4, .int p3), (5, .int p4)]) hx hb dX6_feed_107 hl (k := 1) rfl (by decide) (by decide) rfl (fun ls hl => ?_)
  refine lv_goto (tgt := 23) hx hb dX6_feed_110 (by decide) ?_
  refine lv_iload hx hb dX6_feed_23 (lv_at hl 0 rfl) ?_
  refine lv_bipush (v := 20) hx hb dX6_feed_25 (by decide) ?_
  refine lv_icmp_ge (tgt := 113) hx hb dX6_feed_27 (by decide) (fun c_11 => absurd c_11 (by decide)) (fun c_11 => ?_)
  refine lv_iload hx hb dX6_feed_30 (lv_at hl 0 rfl) ?_
  refine lv_iconst (v := 4) hx hb dX6_feed_32 (by decide) ?_
  refine lv_icmp_ge (tgt := 40) hx hb dX6_feed_33 (by decide) (fun c_12 => absurd c_12 (by decide)) (fun c_12 => ?_)
  refine lv_iload_n hx hb dX6_feed_36 rfl (lv_at hl 3 rfl) ?_
  refine lv_goto (tgt := 76) hx hb dX6_feed_37 (by decide) ?_
  refine lv_istore (lv' := [(7, .int p0), (6, .int 3), (0, .ref h0), (1, .int p0), (2, .int p1), (3, .int p2), (4, .int p3), (5, .int p4)]) hx hb dX6_feed_76 hl (by decide) rfl (fun ls hl => ?_)
  refine lv_aload_n hx hb dX6_feed_78 rfl (lv_at hl 2 rfl) ?_
  refine va_get (D := (dC, dI)) (ci := 6) (v := .ref ((q 0))) (C := RX6) (T := TX6) (N := 52) hx hb hts hin6 hown hK hP 0 rfl rfl 0 (by decide) (hts (.fieldLink RX6 7 "SkiShotsModel" "tape" "[I") (by decide +kernel)) (fun _ h9 => h9) rfl dX6_feed_79 ?_
  refine lv_aload_n hx hb dX6_feed_82 rfl (lv_at hl 2 rfl) ?_
  refine va_get (D := (dC, dI)) (ci := 6) (v := .int 0) (C := RX6) (T := TX6) (N := 52) hx hb hts hin6 hown hK hP 0 rfl rfl 1 (by decide) (hts (.fieldLink RX6 129 "SkiShotsModel" "tapeSize" "I") (by decide +kernel)) (fun _ h9 => h9) rfl dX6_feed_83 ?_
  refine lv_iload hx hb dX6_feed_86 (lv_at hl 1 rfl) ?_
  refine lv_iadd hx hb dX6_feed_88 ?_
  rw [show (0 + 3 : Int32) = 3 from by decide]
  refine lv_iload hx hb dX6_feed_89 (lv_at hl 0 rfl) ?_
  refine lv_bipush (v := 24) hx hb dX6_feed_91 (by decide) ?_
  refine lv_bipush (v := 8) hx hb dX6_feed_93 (by decide) ?_
  refine lv_iload hx hb dX6_feed_95 (lv_at hl 1 rfl) ?_
  refine lv_iconst (v := 4) hx hb dX6_feed_97 (by decide) ?_
  refine lv_irem hx hb dX6_feed_98 (by decide) ?_
  rw [show (3 - 3 / 4 * 4 : Int32) = 3 from by decide]
  refine lv_imul hx hb dX6_feed_99 ?_
  rw [show (8 * 3 : Int32) = 24 from by decide]
  refine lv_isub hx hb dX6_feed_100 ?_
  rw [show (24 - 24 : Int32) = 0 from by decide]
  refine lv_ishr hx hb dX6_feed_101 ?_
  refine lv_sipush (v := 255) hx hb dX6_feed_102 (by decide) ?_
  refine lv_iand hx hb dX6_feed_105 ?_
  refine va_iast hx hb hK hP hD hS 1 0 rfl rfl (by unfold vp_in; decide) dX6_feed_106 (fun H locs hP hD hS => ?_)
  obtain ⟨f_13, ef_13⟩ : ∃ g : Nat → Int32, g = upd (f_10) (Int32.toNatClampNeg 3) ((p0 >>> (0 &&& 31)) &&& 255) := ⟨_, rfl⟩
  have hP : va_P (dC, dI) vwCl [(h0, .inr (6, [.ref ((q 0)), .int 0, .int 0, .int 0, .int 0, .ref ((q 5)), .ref ((q 6)), .ref ((q 7)), .ref ((q 8)), .ref ((q 9)), .ref ((q 10)), .ref ((q 11)), .ref ((q 12)), .int 0, .int ((-1)), .int 0, .ref ((q 16)), .int 0, .ref ((q 18)), .ref ((q 19)), .ref ((q 20)), .ref ((q 21)), .ref ((q 22)), .ref ((q 23)), .ref ((q 24)), .ref ((q 25)), .ref ((q 26)), .ref ((q 27)), .ref ((q 28)), .ref ((q 29)), .ref ((q 30)), .int 0, .ref ((q 32)), .ref ((q 33)), .ref ((q 34)), .ref ((q 35)), .ref ((q 36)), .ref ((q 37)), .ref ((q 38)), .int 0, .int 0, .int 0, .int 0, .int 0, .int 0, .ref ((q 45)), .ref ((q 46)), .ref ((q 47)), .ref ((q 48)), .ref ((q 49)), .ref ((q 50)), .ref ((q 51))])), ((q 0), .inl ((cq 0), 1000, .inl (f_13)))] H := by rw [ef_13]; exact hP
  have hD : va_D A [(h0, .inr (6, [.ref ((q 0)), .int 0, .int 0, .int 0, .int 0, .ref ((q 5)), .ref ((q 6)), .ref ((q 7)), .ref ((q 8)), .ref ((q 9)), .ref ((q 10)), .ref ((q 11)), .ref ((q 12)), .int 0, .int ((-1)), .int 0, .ref ((q 16)), .int 0, .ref ((q 18)), .ref ((q 19)), .ref ((q 20)), .ref ((q 21)), .ref ((q 22)), .ref ((q 23)), .ref ((q 24)), .ref ((q 25)), .ref ((q 26)), .ref ((q 27)), .ref ((q 28)), .ref ((q 29)), .ref ((q 30)), .int 0, .ref ((q 32)), .ref ((q 33)), .ref ((q 34)), .ref ((q 35)), .ref ((q 36)), .ref ((q 37)), .ref ((q 38)), .int 0, .int 0, .int 0, .int 0, .int 0, .int 0, .ref ((q 45)), .ref ((q 46)), .ref ((q 47)), .ref ((q 48)), .ref ((q 49)), .ref ((q 50)), .ref ((q 51))])), ((q 0), .inl ((cq 0), 1000, .inl (f_13)))] := by rw [ef_13]; exact hD
  refine lv_iinc (v := 4) (lv' := [(6, .int 4), (7, .int p0), (0, .ref h0), (1, .int p0), (2, .int p1), (3, .int p2), (4, .int p3), (5, .int p4)]) hx hb dX6_feed_107 hl (k := 1) rfl (by decide) (by decide) rfl (fun ls hl => ?_)
  refine lv_goto (tgt := 23) hx hb dX6_feed_110 (by decide) ?_
  refine lv_iload hx hb dX6_feed_23 (lv_at hl 0 rfl) ?_
  refine lv_bipush (v := 20) hx hb dX6_feed_25 (by decide) ?_
  refine lv_icmp_ge (tgt := 113) hx hb dX6_feed_27 (by decide) (fun c_14 => absurd c_14 (by decide)) (fun c_14 => ?_)
  refine lv_iload hx hb dX6_feed_30 (lv_at hl 0 rfl) ?_
  refine lv_iconst (v := 4) hx hb dX6_feed_32 (by decide) ?_
  refine lv_icmp_ge (tgt := 40) hx hb dX6_feed_33 (by decide) (fun c_15 => ?_) (fun c_15 => absurd (by decide) c_15)
  refine lv_iload hx hb dX6_feed_40 (lv_at hl 0 rfl) ?_
  refine lv_bipush (v := 8) hx hb dX6_feed_42 (by decide) ?_
  refine lv_icmp_ge (tgt := 51) hx hb dX6_feed_44 (by decide) (fun c_16 => absurd c_16 (by decide)) (fun c_16 => ?_)
  refine lv_iload_n hx hb dX6_feed_47 rfl (lv_at hl 4 rfl) ?_
  refine lv_goto (tgt := 76) hx hb dX6_feed_48 (by decide) ?_
  refine lv_istore (lv' := [(7, .int p1), (6, .int 4), (0, .ref h0), (1, .int p0), (2, .int p1), (3, .int p2), (4, .int p3), (5, .int p4)]) hx hb dX6_feed_76 hl (by decide) rfl (fun ls hl => ?_)
  refine lv_aload_n hx hb dX6_feed_78 rfl (lv_at hl 2 rfl) ?_
  refine va_get (D := (dC, dI)) (ci := 6) (v := .ref ((q 0))) (C := RX6) (T := TX6) (N := 52) hx hb hts hin6 hown hK hP 0 rfl rfl 0 (by decide) (hts (.fieldLink RX6 7 "SkiShotsModel" "tape" "[I") (by decide +kernel)) (fun _ h9 => h9) rfl dX6_feed_79 ?_
  refine lv_aload_n hx hb dX6_feed_82 rfl (lv_at hl 2 rfl) ?_
  refine va_get (D := (dC, dI)) (ci := 6) (v := .int 0) (C := RX6) (T := TX6) (N := 52) hx hb hts hin6 hown hK hP 0 rfl rfl 1 (by decide) (hts (.fieldLink RX6 129 "SkiShotsModel" "tapeSize" "I") (by decide +kernel)) (fun _ h9 => h9) rfl dX6_feed_83 ?_
  refine lv_iload hx hb dX6_feed_86 (lv_at hl 1 rfl) ?_
  refine lv_iadd hx hb dX6_feed_88 ?_
  rw [show (0 + 4 : Int32) = 4 from by decide]
  refine lv_iload hx hb dX6_feed_89 (lv_at hl 0 rfl) ?_
  refine lv_bipush (v := 24) hx hb dX6_feed_91 (by decide) ?_
  refine lv_bipush (v := 8) hx hb dX6_feed_93 (by decide) ?_
  refine lv_iload hx hb dX6_feed_95 (lv_at hl 1 rfl) ?_
  refine lv_iconst (v := 4) hx hb dX6_feed_97 (by decide) ?_
  refine lv_irem hx hb dX6_feed_98 (by decide) ?_
  rw [show (4 - 4 / 4 * 4 : Int32) = 0 from by decide]
  refine lv_imul hx hb dX6_feed_99 ?_
  rw [show (8 * 0 : Int32) = 0 from by decide]
  refine lv_isub hx hb dX6_feed_100 ?_
  rw [show (24 - 0 : Int32) = 24 from by decide]
  refine lv_ishr hx hb dX6_feed_101 ?_
  refine lv_sipush (v := 255) hx hb dX6_feed_102 (by decide) ?_
  refine lv_iand hx hb dX6_feed_105 ?_
  refine va_iast hx hb hK hP hD hS 1 0 rfl rfl (by unfold vp_in; decide) dX6_feed_106 (fun H locs hP hD hS => ?_)
  obtain ⟨f_17, ef_17⟩ : ∃ g : Nat → Int32, g = upd (f_13) (Int32.toNatClampNeg 4) ((p1 >>> (24 &&& 31)) &&& 255) := ⟨_, rfl⟩
  have hP : va_P (dC, dI) vwCl [(h0, .inr (6, [.ref ((q 0)), .int 0, .int 0, .int 0, .int 0, .ref ((q 5)), .ref ((q 6)), .ref ((q 7)), .ref ((q 8)), .ref ((q 9)), .ref ((q 10)), .ref ((q 11)), .ref ((q 12)), .int 0, .int ((-1)), .int 0, .ref ((q 16)), .int 0, .ref ((q 18)), .ref ((q 19)), .ref ((q 20)), .ref ((q 21)), .ref ((q 22)), .ref ((q 23)), .ref ((q 24)), .ref ((q 25)), .ref ((q 26)), .ref ((q 27)), .ref ((q 28)), .ref ((q 29)), .ref ((q 30)), .int 0, .ref ((q 32)), .ref ((q 33)), .ref ((q 34)), .ref ((q 35)), .ref ((q 36)), .ref ((q 37)), .ref ((q 38)), .int 0, .int 0, .int 0, .int 0, .int 0, .int 0, .ref ((q 45)), .ref ((q 46)), .ref ((q 47)), .ref ((q 48)), .ref ((q 49)), .ref ((q 50)), .ref ((q 51))])), ((q 0), .inl ((cq 0), 1000, .inl (f_17)))] H := by rw [ef_17]; exact hP
  have hD : va_D A [(h0, .inr (6, [.ref ((q 0)), .int 0, .int 0, .int 0, .int 0, .ref ((q 5)), .ref ((q 6)), .ref ((q 7)), .ref ((q 8)), .ref ((q 9)), .ref ((q 10)), .ref ((q 11)), .ref ((q 12)), .int 0, .int ((-1)), .int 0, .ref ((q 16)), .int 0, .ref ((q 18)), .ref ((q 19)), .ref ((q 20)), .ref ((q 21)), .ref ((q 22)), .ref ((q 23)), .ref ((q 24)), .ref ((q 25)), .ref ((q 26)), .ref ((q 27)), .ref ((q 28)), .ref ((q 29)), .ref ((q 30)), .int 0, .ref ((q 32)), .ref ((q 33)), .ref ((q 34)), .ref ((q 35)), .ref ((q 36)), .ref ((q 37)), .ref ((q 38)), .int 0, .int 0, .int 0, .int 0, .int 0, .int 0, .ref ((q 45)), .ref ((q 46)), .ref ((q 47)), .ref ((q 48)), .ref ((q 49)), .ref ((q 50)), .ref ((q 51))])), ((q 0), .inl ((cq 0), 1000, .inl (f_17)))] := by rw [ef_17]; exact hD
  refine lv_iinc (v := 5) (lv' := [(6, .int 5), (7, .int p1), (0, .ref h0), (1, .int p0), (2, .int p1), (3, .int p2), (4, .int p3), (5, .int p4)]) hx hb dX6_feed_107 hl (k := 1) rfl (by decide) (by decide) rfl (fun ls hl => ?_)
  refine lv_goto (tgt := 23) hx hb dX6_feed_110 (by decide) ?_
  refine lv_iload hx hb dX6_feed_23 (lv_at hl 0 rfl) ?_
  refine lv_bipush (v := 20) hx hb dX6_feed_25 (by decide) ?_
  refine lv_icmp_ge (tgt := 113) hx hb dX6_feed_27 (by decide) (fun c_18 => absurd c_18 (by decide)) (fun c_18 => ?_)
  refine lv_iload hx hb dX6_feed_30 (lv_at hl 0 rfl) ?_
  refine lv_iconst (v := 4) hx hb dX6_feed_32 (by decide) ?_
  refine lv_icmp_ge (tgt := 40) hx hb dX6_feed_33 (by decide) (fun c_19 => ?_) (fun c_19 => absurd (by decide) c_19)
  refine lv_iload hx hb dX6_feed_40 (lv_at hl 0 rfl) ?_
  refine lv_bipush (v := 8) hx hb dX6_feed_42 (by decide) ?_
  refine lv_icmp_ge (tgt := 51) hx hb dX6_feed_44 (by decide) (fun c_20 => absurd c_20 (by decide)) (fun c_20 => ?_)
  refine lv_iload_n hx hb dX6_feed_47 rfl (lv_at hl 4 rfl) ?_
  refine lv_goto (tgt := 76) hx hb dX6_feed_48 (by decide) ?_
  refine lv_istore (lv' := [(7, .int p1), (6, .int 5), (0, .ref h0), (1, .int p0), (2, .int p1), (3, .int p2), (4, .int p3), (5, .int p4)]) hx hb dX6_feed_76 hl (by decide) rfl (fun ls hl => ?_)
  refine lv_aload_n hx hb dX6_feed_78 rfl (lv_at hl 2 rfl) ?_
  refine va_get (D := (dC, dI)) (ci := 6) (v := .ref ((q 0))) (C := RX6) (T := TX6) (N := 52) hx hb hts hin6 hown hK hP 0 rfl rfl 0 (by decide) (hts (.fieldLink RX6 7 "SkiShotsModel" "tape" "[I") (by decide +kernel)) (fun _ h9 => h9) rfl dX6_feed_79 ?_
  refine lv_aload_n hx hb dX6_feed_82 rfl (lv_at hl 2 rfl) ?_
  refine va_get (D := (dC, dI)) (ci := 6) (v := .int 0) (C := RX6) (T := TX6) (N := 52) hx hb hts hin6 hown hK hP 0 rfl rfl 1 (by decide) (hts (.fieldLink RX6 129 "SkiShotsModel" "tapeSize" "I") (by decide +kernel)) (fun _ h9 => h9) rfl dX6_feed_83 ?_
  refine lv_iload hx hb dX6_feed_86 (lv_at hl 1 rfl) ?_
  refine lv_iadd hx hb dX6_feed_88 ?_
  rw [show (0 + 5 : Int32) = 5 from by decide]
  refine lv_iload hx hb dX6_feed_89 (lv_at hl 0 rfl) ?_
  refine lv_bipush (v := 24) hx hb dX6_feed_91 (by decide) ?_
  refine lv_bipush (v := 8) hx hb dX6_feed_93 (by decide) ?_
  refine lv_iload hx hb dX6_feed_95 (lv_at hl 1 rfl) ?_
  refine lv_iconst (v := 4) hx hb dX6_feed_97 (by decide) ?_
  refine lv_irem hx hb dX6_feed_98 (by decide) ?_
  rw [show (5 - 5 / 4 * 4 : Int32) = 1 from by decide]
  refine lv_imul hx hb dX6_feed_99 ?_
  rw [show (8 * 1 : Int32) = 8 from by decide]
  refine lv_isub hx hb dX6_feed_100 ?_
  rw [show (24 - 8 : Int32) = 16 from by decide]
  refine lv_ishr hx hb dX6_feed_101 ?_
  refine lv_sipush (v := 255) hx hb dX6_feed_102 (by decide) ?_
  refine lv_iand hx hb dX6_feed_105 ?_
  refine va_iast hx hb hK hP hD hS 1 0 rfl rfl (by unfold vp_in; decide) dX6_feed_106 (fun H locs hP hD hS => ?_)
  obtain ⟨f_21, ef_21⟩ : ∃ g : Nat → Int32, g = upd (f_17) (Int32.toNatClampNeg 5) ((p1 >>> (16 &&& 31)) &&& 255) := ⟨_, rfl⟩
  have hP : va_P (dC, dI) vwCl [(h0, .inr (6, [.ref ((q 0)), .int 0, .int 0, .int 0, .int 0, .ref ((q 5)), .ref ((q 6)), .ref ((q 7)), .ref ((q 8)), .ref ((q 9)), .ref ((q 10)), .ref ((q 11)), .ref ((q 12)), .int 0, .int ((-1)), .int 0, .ref ((q 16)), .int 0, .ref ((q 18)), .ref ((q 19)), .ref ((q 20)), .ref ((q 21)), .ref ((q 22)), .ref ((q 23)), .ref ((q 24)), .ref ((q 25)), .ref ((q 26)), .ref ((q 27)), .ref ((q 28)), .ref ((q 29)), .ref ((q 30)), .int 0, .ref ((q 32)), .ref ((q 33)), .ref ((q 34)), .ref ((q 35)), .ref ((q 36)), .ref ((q 37)), .ref ((q 38)), .int 0, .int 0, .int 0, .int 0, .int 0, .int 0, .ref ((q 45)), .ref ((q 46)), .ref ((q 47)), .ref ((q 48)), .ref ((q 49)), .ref ((q 50)), .ref ((q 51))])), ((q 0), .inl ((cq 0), 1000, .inl (f_21)))] H := by rw [ef_21]; exact hP
  have hD : va_D A [(h0, .inr (6, [.ref ((q 0)), .int 0, .int 0, .int 0, .int 0, .ref ((q 5)), .ref ((q 6)), .ref ((q 7)), .ref ((q 8)), .ref ((q 9)), .ref ((q 10)), .ref ((q 11)), .ref ((q 12)), .int 0, .int ((-1)), .int 0, .ref ((q 16)), .int 0, .ref ((q 18)), .ref ((q 19)), .ref ((q 20)), .ref ((q 21)), .ref ((q 22)), .ref ((q 23)), .ref ((q 24)), .ref ((q 25)), .ref ((q 26)), .ref ((q 27)), .ref ((q 28)), .ref ((q 29)), .ref ((q 30)), .int 0, .ref ((q 32)), .ref ((q 33)), .ref ((q 34)), .ref ((q 35)), .ref ((q 36)), .ref ((q 37)), .ref ((q 38)), .int 0, .int 0, .int 0, .int 0, .int 0, .int 0, .ref ((q 45)), .ref ((q 46)), .ref ((q 47)), .ref ((q 48)), .ref ((q 49)), .ref ((q 50)), .ref ((q 51))])), ((q 0), .inl ((cq 0), 1000, .inl (f_21)))] := by rw [ef_21]; exact hD
  refine lv_iinc (v := 6) (lv' := [(6, .int 6), (7, .int p1), (0, .ref h0), (1, .int p0), (2, .int p1), (3, .int p2), (4, .int p3), (5, .int p4)]) hx hb dX6_feed_107 hl (k := 1) rfl (by decide) (by decide) rfl (fun ls hl => ?_)
  refine lv_goto (tgt := 23) hx hb dX6_feed_110 (by decide) ?_
  refine lv_iload hx hb dX6_feed_23 (lv_at hl 0 rfl) ?_
  refine lv_bipush (v := 20) hx hb dX6_feed_25 (by decide) ?_
  refine lv_icmp_ge (tgt := 113) hx hb dX6_feed_27 (by decide) (fun c_22 => absurd c_22 (by decide)) (fun c_22 => ?_)
  refine lv_iload hx hb dX6_feed_30 (lv_at hl 0 rfl) ?_
  refine lv_iconst (v := 4) hx hb dX6_feed_32 (by decide) ?_
  refine lv_icmp_ge (tgt := 40) hx hb dX6_feed_33 (by decide) (fun c_23 => ?_) (fun c_23 => absurd (by decide) c_23)
  refine lv_iload hx hb dX6_feed_40 (lv_at hl 0 rfl) ?_
  refine lv_bipush (v := 8) hx hb dX6_feed_42 (by decide) ?_
  refine lv_icmp_ge (tgt := 51) hx hb dX6_feed_44 (by decide) (fun c_24 => absurd c_24 (by decide)) (fun c_24 => ?_)
  refine lv_iload_n hx hb dX6_feed_47 rfl (lv_at hl 4 rfl) ?_
  refine lv_goto (tgt := 76) hx hb dX6_feed_48 (by decide) ?_
  refine lv_istore (lv' := [(7, .int p1), (6, .int 6), (0, .ref h0), (1, .int p0), (2, .int p1), (3, .int p2), (4, .int p3), (5, .int p4)]) hx hb dX6_feed_76 hl (by decide) rfl (fun ls hl => ?_)
  refine lv_aload_n hx hb dX6_feed_78 rfl (lv_at hl 2 rfl) ?_
  refine va_get (D := (dC, dI)) (ci := 6) (v := .ref ((q 0))) (C := RX6) (T := TX6) (N := 52) hx hb hts hin6 hown hK hP 0 rfl rfl 0 (by decide) (hts (.fieldLink RX6 7 "SkiShotsModel" "tape" "[I") (by decide +kernel)) (fun _ h9 => h9) rfl dX6_feed_79 ?_
  refine lv_aload_n hx hb dX6_feed_82 rfl (lv_at hl 2 rfl) ?_
  refine va_get (D := (dC, dI)) (ci := 6) (v := .int 0) (C := RX6) (T := TX6) (N := 52) hx hb hts hin6 hown hK hP 0 rfl rfl 1 (by decide) (hts (.fieldLink RX6 129 "SkiShotsModel" "tapeSize" "I") (by decide +kernel)) (fun _ h9 => h9) rfl dX6_feed_83 ?_
  refine lv_iload hx hb dX6_feed_86 (lv_at hl 1 rfl) ?_
  refine lv_iadd hx hb dX6_feed_88 ?_
  rw [show (0 + 6 : Int32) = 6 from by decide]
  refine lv_iload hx hb dX6_feed_89 (lv_at hl 0 rfl) ?_
  refine lv_bipush (v := 24) hx hb dX6_feed_91 (by decide) ?_
  refine lv_bipush (v := 8) hx hb dX6_feed_93 (by decide) ?_
  refine lv_iload hx hb dX6_feed_95 (lv_at hl 1 rfl) ?_
  refine lv_iconst (v := 4) hx hb dX6_feed_97 (by decide) ?_
  refine lv_irem hx hb dX6_feed_98 (by decide) ?_
  rw [show (6 - 6 / 4 * 4 : Int32) = 2 from by decide]
  refine lv_imul hx hb dX6_feed_99 ?_
  rw [show (8 * 2 : Int32) = 16 from by decide]
  refine lv_isub hx hb dX6_feed_100 ?_
  rw [show (24 - 16 : Int32) = 8 from by decide]
  refine lv_ishr hx hb dX6_feed_101 ?_
  refine lv_sipush (v := 255) hx hb dX6_feed_102 (by decide) ?_
  refine lv_iand hx hb dX6_feed_105 ?_
  refine va_iast hx hb hK hP hD hS 1 0 rfl rfl (by unfold vp_in; decide) dX6_feed_106 (fun H locs hP hD hS => ?_)
  obtain ⟨f_25, ef_25⟩ : ∃ g : Nat → Int32, g = upd (f_21) (Int32.toNatClampNeg 6) ((p1 >>> (8 &&& 31)) &&& 255) := ⟨_, rfl⟩
  have hP : va_P (dC, dI) vwCl [(h0, .inr (6, [.ref ((q 0)), .int 0, .int 0, .int 0, .int 0, .ref ((q 5)), .ref ((q 6)), .ref ((q 7)), .ref ((q 8)), .ref ((q 9)), .ref ((q 10)), .ref ((q 11)), .ref ((q 12)), .int 0, .int ((-1)), .int 0, .ref ((q 16)), .int 0, .ref ((q 18)), .ref ((q 19)), .ref ((q 20)), .ref ((q 21)), .ref ((q 22)), .ref ((q 23)), .ref ((q 24)), .ref ((q 25)), .ref ((q 26)), .ref ((q 27)), .ref ((q 28)), .ref ((q 29)), .ref ((q 30)), .int 0, .ref ((q 32)), .ref ((q 33)), .ref ((q 34)), .ref ((q 35)), .ref ((q 36)), .ref ((q 37)), .ref ((q 38)), .int 0, .int 0, .int 0, .int 0, .int 0, .int 0, .ref ((q 45)), .ref ((q 46)), .ref ((q 47)), .ref ((q 48)), .ref ((q 49)), .ref ((q 50)), .ref ((q 51))])), ((q 0), .inl ((cq 0), 1000, .inl (f_25)))] H := by rw [ef_25]; exact hP
  have hD : va_D A [(h0, .inr (6, [.ref ((q 0)), .int 0, .int 0, .int 0, .int 0, .ref ((q 5)), .ref ((q 6)), .ref ((q 7)), .ref ((q 8)), .ref ((q 9)), .ref ((q 10)), .ref ((q 11)), .ref ((q 12)), .int 0, .int ((-1)), .int 0, .ref ((q 16)), .int 0, .ref ((q 18)), .ref ((q 19)), .ref ((q 20)), .ref ((q 21)), .ref ((q 22)), .ref ((q 23)), .ref ((q 24)), .ref ((q 25)), .ref ((q 26)), .ref ((q 27)), .ref ((q 28)), .ref ((q 29)), .ref ((q 30)), .int 0, .ref ((q 32)), .ref ((q 33)), .ref ((q 34)), .ref ((q 35)), .ref ((q 36)), .ref ((q 37)), .ref ((q 38)), .int 0, .int 0, .int 0, .int 0, .int 0, .int 0, .ref ((q 45)), .ref ((q 46)), .ref ((q 47)), .ref ((q 48)), .ref ((q 49)), .ref ((q 50)), .ref ((q 51))])), ((q 0), .inl ((cq 0), 1000, .inl (f_25)))] := by rw [ef_25]; exact hD
  refine lv_iinc (v := 7) (lv' := [(6, .int 7), (7, .int p1), (0, .ref h0), (1, .int p0), (2, .int p1), (3, .int p2), (4, .int p3), (5, .int p4)]) hx hb dX6_feed_107 hl (k := 1) rfl (by decide) (by decide) rfl (fun ls hl => ?_)
  refine lv_goto (tgt := 23) hx hb dX6_feed_110 (by decide) ?_
  refine lv_iload hx hb dX6_feed_23 (lv_at hl 0 rfl) ?_
  refine lv_bipush (v := 20) hx hb dX6_feed_25 (by decide) ?_
  refine lv_icmp_ge (tgt := 113) hx hb dX6_feed_27 (by decide) (fun c_26 => absurd c_26 (by decide)) (fun c_26 => ?_)
  refine lv_iload hx hb dX6_feed_30 (lv_at hl 0 rfl) ?_
  refine lv_iconst (v := 4) hx hb dX6_feed_32 (by decide) ?_
  refine lv_icmp_ge (tgt := 40) hx hb dX6_feed_33 (by decide) (fun c_27 => ?_) (fun c_27 => absurd (by decide) c_27)
  refine lv_iload hx hb dX6_feed_40 (lv_at hl 0 rfl) ?_
  refine lv_bipush (v := 8) hx hb dX6_feed_42 (by decide) ?_
  refine lv_icmp_ge (tgt := 51) hx hb dX6_feed_44 (by decide) (fun c_28 => absurd c_28 (by decide)) (fun c_28 => ?_)
  refine lv_iload_n hx hb dX6_feed_47 rfl (lv_at hl 4 rfl) ?_
  refine lv_goto (tgt := 76) hx hb dX6_feed_48 (by decide) ?_
  refine lv_istore (lv' := [(7, .int p1), (6, .int 7), (0, .ref h0), (1, .int p0), (2, .int p1), (3, .int p2), (4, .int p3), (5, .int p4)]) hx hb dX6_feed_76 hl (by decide) rfl (fun ls hl => ?_)
  refine lv_aload_n hx hb dX6_feed_78 rfl (lv_at hl 2 rfl) ?_
  refine va_get (D := (dC, dI)) (ci := 6) (v := .ref ((q 0))) (C := RX6) (T := TX6) (N := 52) hx hb hts hin6 hown hK hP 0 rfl rfl 0 (by decide) (hts (.fieldLink RX6 7 "SkiShotsModel" "tape" "[I") (by decide +kernel)) (fun _ h9 => h9) rfl dX6_feed_79 ?_
  refine lv_aload_n hx hb dX6_feed_82 rfl (lv_at hl 2 rfl) ?_
  refine va_get (D := (dC, dI)) (ci := 6) (v := .int 0) (C := RX6) (T := TX6) (N := 52) hx hb hts hin6 hown hK hP 0 rfl rfl 1 (by decide) (hts (.fieldLink RX6 129 "SkiShotsModel" "tapeSize" "I") (by decide +kernel)) (fun _ h9 => h9) rfl dX6_feed_83 ?_
  refine lv_iload hx hb dX6_feed_86 (lv_at hl 1 rfl) ?_
  refine lv_iadd hx hb dX6_feed_88 ?_
  rw [show (0 + 7 : Int32) = 7 from by decide]
  refine lv_iload hx hb dX6_feed_89 (lv_at hl 0 rfl) ?_
  refine lv_bipush (v := 24) hx hb dX6_feed_91 (by decide) ?_
  refine lv_bipush (v := 8) hx hb dX6_feed_93 (by decide) ?_
  refine lv_iload hx hb dX6_feed_95 (lv_at hl 1 rfl) ?_
  refine lv_iconst (v := 4) hx hb dX6_feed_97 (by decide) ?_
  refine lv_irem hx hb dX6_feed_98 (by decide) ?_
  rw [show (7 - 7 / 4 * 4 : Int32) = 3 from by decide]
  refine lv_imul hx hb dX6_feed_99 ?_
  rw [show (8 * 3 : Int32) = 24 from by decide]
  refine lv_isub hx hb dX6_feed_100 ?_
  rw [show (24 - 24 : Int32) = 0 from by decide]
  refine lv_ishr hx hb dX6_feed_101 ?_
  refine lv_sipush (v := 255) hx hb dX6_feed_102 (by decide) ?_
  refine lv_iand hx hb dX6_feed_105 ?_
  refine va_iast hx hb hK hP hD hS 1 0 rfl rfl (by unfold vp_in; decide) dX6_feed_106 (fun H locs hP hD hS => ?_)
  obtain ⟨f_29, ef_29⟩ : ∃ g : Nat → Int32, g = upd (f_25) (Int32.toNatClampNeg 7) ((p1 >>> (0 &&& 31)) &&& 255) := ⟨_, rfl⟩
  have hP : va_P (dC, dI) vwCl [(h0, .inr (6, [.ref ((q 0)), .int 0, .int 0, .int 0, .int 0, .ref ((q 5)), .ref ((q 6)), .ref ((q 7)), .ref ((q 8)), .ref ((q 9)), .ref ((q 10)), .ref ((q 11)), .ref ((q 12)), .int 0, .int ((-1)), .int 0, .ref ((q 16)), .int 0, .ref ((q 18)), .ref ((q 19)), .ref ((q 20)), .ref ((q 21)), .ref ((q 22)), .ref ((q 23)), .ref ((q 24)), .ref ((q 25)), .ref ((q 26)), .ref ((q 27)), .ref ((q 28)), .ref ((q 29)), .ref ((q 30)), .int 0, .ref ((q 32)), .ref ((q 33)), .ref ((q 34)), .ref ((q 35)), .ref ((q 36)), .ref ((q 37)), .ref ((q 38)), .int 0, .int 0, .int 0, .int 0, .int 0, .int 0, .ref ((q 45)), .ref ((q 46)), .ref ((q 47)), .ref ((q 48)), .ref ((q 49)), .ref ((q 50)), .ref ((q 51))])), ((q 0), .inl ((cq 0), 1000, .inl (f_29)))] H := by rw [ef_29]; exact hP
  have hD : va_D A [(h0, .inr (6, [.ref ((q 0)), .int 0, .int 0, .int 0, .int 0, .ref ((q 5)), .ref ((q 6)), .ref ((q 7)), .ref ((q 8)), .ref ((q 9)), .ref ((q 10)), .ref ((q 11)), .ref ((q 12)), .int 0, .int ((-1)), .int 0, .ref ((q 16)), .int 0, .ref ((q 18)), .ref ((q 19)), .ref ((q 20)), .ref ((q 21)), .ref ((q 22)), .ref ((q 23)), .ref ((q 24)), .ref ((q 25)), .ref ((q 26)), .ref ((q 27)), .ref ((q 28)), .ref ((q 29)), .ref ((q 30)), .int 0, .ref ((q 32)), .ref ((q 33)), .ref ((q 34)), .ref ((q 35)), .ref ((q 36)), .ref ((q 37)), .ref ((q 38)), .int 0, .int 0, .int 0, .int 0, .int 0, .int 0, .ref ((q 45)), .ref ((q 46)), .ref ((q 47)), .ref ((q 48)), .ref ((q 49)), .ref ((q 50)), .ref ((q 51))])), ((q 0), .inl ((cq 0), 1000, .inl (f_29)))] := by rw [ef_29]; exact hD
  refine lv_iinc (v := 8) (lv' := [(6, .int 8), (7, .int p1), (0, .ref h0), (1, .int p0), (2, .int p1), (3, .int p2), (4, .int p3), (5, .int p4)]) hx hb dX6_feed_107 hl (k := 1) rfl (by decide) (by decide) rfl (fun ls hl => ?_)
  refine lv_goto (tgt := 23) hx hb dX6_feed_110 (by decide) ?_
  refine lv_iload hx hb dX6_feed_23 (lv_at hl 0 rfl) ?_
  refine lv_bipush (v := 20) hx hb dX6_feed_25 (by decide) ?_
  refine lv_icmp_ge (tgt := 113) hx hb dX6_feed_27 (by decide) (fun c_30 => absurd c_30 (by decide)) (fun c_30 => ?_)
  refine lv_iload hx hb dX6_feed_30 (lv_at hl 0 rfl) ?_
  refine lv_iconst (v := 4) hx hb dX6_feed_32 (by decide) ?_
  refine lv_icmp_ge (tgt := 40) hx hb dX6_feed_33 (by decide) (fun c_31 => ?_) (fun c_31 => absurd (by decide) c_31)
  refine lv_iload hx hb dX6_feed_40 (lv_at hl 0 rfl) ?_
  refine lv_bipush (v := 8) hx hb dX6_feed_42 (by decide) ?_
  refine lv_icmp_ge (tgt := 51) hx hb dX6_feed_44 (by decide) (fun c_32 => ?_) (fun c_32 => absurd (by decide) c_32)
  refine lv_iload hx hb dX6_feed_51 (lv_at hl 0 rfl) ?_
  refine lv_bipush (v := 12) hx hb dX6_feed_53 (by decide) ?_
  refine lv_icmp_ge (tgt := 62) hx hb dX6_feed_55 (by decide) (fun c_33 => absurd c_33 (by decide)) (fun c_33 => ?_)
  refine lv_iload_n hx hb dX6_feed_58 rfl (lv_at hl 5 rfl) ?_
  refine lv_goto (tgt := 76) hx hb dX6_feed_59 (by decide) ?_
  refine lv_istore (lv' := [(7, .int p2), (6, .int 8), (0, .ref h0), (1, .int p0), (2, .int p1), (3, .int p2), (4, .int p3), (5, .int p4)]) hx hb dX6_feed_76 hl (by decide) rfl (fun ls hl => ?_)
  refine lv_aload_n hx hb dX6_feed_78 rfl (lv_at hl 2 rfl) ?_
  refine va_get (D := (dC, dI)) (ci := 6) (v := .ref ((q 0))) (C := RX6) (T := TX6) (N := 52) hx hb hts hin6 hown hK hP 0 rfl rfl 0 (by decide) (hts (.fieldLink RX6 7 "SkiShotsModel" "tape" "[I") (by decide +kernel)) (fun _ h9 => h9) rfl dX6_feed_79 ?_
  refine lv_aload_n hx hb dX6_feed_82 rfl (lv_at hl 2 rfl) ?_
  refine va_get (D := (dC, dI)) (ci := 6) (v := .int 0) (C := RX6) (T := TX6) (N := 52) hx hb hts hin6 hown hK hP 0 rfl rfl 1 (by decide) (hts (.fieldLink RX6 129 "SkiShotsModel" "tapeSize" "I") (by decide +kernel)) (fun _ h9 => h9) rfl dX6_feed_83 ?_
  refine lv_iload hx hb dX6_feed_86 (lv_at hl 1 rfl) ?_
  refine lv_iadd hx hb dX6_feed_88 ?_
  rw [show (0 + 8 : Int32) = 8 from by decide]
  refine lv_iload hx hb dX6_feed_89 (lv_at hl 0 rfl) ?_
  refine lv_bipush (v := 24) hx hb dX6_feed_91 (by decide) ?_
  refine lv_bipush (v := 8) hx hb dX6_feed_93 (by decide) ?_
  refine lv_iload hx hb dX6_feed_95 (lv_at hl 1 rfl) ?_
  refine lv_iconst (v := 4) hx hb dX6_feed_97 (by decide) ?_
  refine lv_irem hx hb dX6_feed_98 (by decide) ?_
  rw [show (8 - 8 / 4 * 4 : Int32) = 0 from by decide]
  refine lv_imul hx hb dX6_feed_99 ?_
  rw [show (8 * 0 : Int32) = 0 from by decide]
  refine lv_isub hx hb dX6_feed_100 ?_
  rw [show (24 - 0 : Int32) = 24 from by decide]
  refine lv_ishr hx hb dX6_feed_101 ?_
  refine lv_sipush (v := 255) hx hb dX6_feed_102 (by decide) ?_
  refine lv_iand hx hb dX6_feed_105 ?_
  refine va_iast hx hb hK hP hD hS 1 0 rfl rfl (by unfold vp_in; decide) dX6_feed_106 (fun H locs hP hD hS => ?_)
  obtain ⟨f_34, ef_34⟩ : ∃ g : Nat → Int32, g = upd (f_29) (Int32.toNatClampNeg 8) ((p2 >>> (24 &&& 31)) &&& 255) := ⟨_, rfl⟩
  have hP : va_P (dC, dI) vwCl [(h0, .inr (6, [.ref ((q 0)), .int 0, .int 0, .int 0, .int 0, .ref ((q 5)), .ref ((q 6)), .ref ((q 7)), .ref ((q 8)), .ref ((q 9)), .ref ((q 10)), .ref ((q 11)), .ref ((q 12)), .int 0, .int ((-1)), .int 0, .ref ((q 16)), .int 0, .ref ((q 18)), .ref ((q 19)), .ref ((q 20)), .ref ((q 21)), .ref ((q 22)), .ref ((q 23)), .ref ((q 24)), .ref ((q 25)), .ref ((q 26)), .ref ((q 27)), .ref ((q 28)), .ref ((q 29)), .ref ((q 30)), .int 0, .ref ((q 32)), .ref ((q 33)), .ref ((q 34)), .ref ((q 35)), .ref ((q 36)), .ref ((q 37)), .ref ((q 38)), .int 0, .int 0, .int 0, .int 0, .int 0, .int 0, .ref ((q 45)), .ref ((q 46)), .ref ((q 47)), .ref ((q 48)), .ref ((q 49)), .ref ((q 50)), .ref ((q 51))])), ((q 0), .inl ((cq 0), 1000, .inl (f_34)))] H := by rw [ef_34]; exact hP
  have hD : va_D A [(h0, .inr (6, [.ref ((q 0)), .int 0, .int 0, .int 0, .int 0, .ref ((q 5)), .ref ((q 6)), .ref ((q 7)), .ref ((q 8)), .ref ((q 9)), .ref ((q 10)), .ref ((q 11)), .ref ((q 12)), .int 0, .int ((-1)), .int 0, .ref ((q 16)), .int 0, .ref ((q 18)), .ref ((q 19)), .ref ((q 20)), .ref ((q 21)), .ref ((q 22)), .ref ((q 23)), .ref ((q 24)), .ref ((q 25)), .ref ((q 26)), .ref ((q 27)), .ref ((q 28)), .ref ((q 29)), .ref ((q 30)), .int 0, .ref ((q 32)), .ref ((q 33)), .ref ((q 34)), .ref ((q 35)), .ref ((q 36)), .ref ((q 37)), .ref ((q 38)), .int 0, .int 0, .int 0, .int 0, .int 0, .int 0, .ref ((q 45)), .ref ((q 46)), .ref ((q 47)), .ref ((q 48)), .ref ((q 49)), .ref ((q 50)), .ref ((q 51))])), ((q 0), .inl ((cq 0), 1000, .inl (f_34)))] := by rw [ef_34]; exact hD
  refine lv_iinc (v := 9) (lv' := [(6, .int 9), (7, .int p2), (0, .ref h0), (1, .int p0), (2, .int p1), (3, .int p2), (4, .int p3), (5, .int p4)]) hx hb dX6_feed_107 hl (k := 1) rfl (by decide) (by decide) rfl (fun ls hl => ?_)
  refine lv_goto (tgt := 23) hx hb dX6_feed_110 (by decide) ?_
  refine lv_iload hx hb dX6_feed_23 (lv_at hl 0 rfl) ?_
  refine lv_bipush (v := 20) hx hb dX6_feed_25 (by decide) ?_
  refine lv_icmp_ge (tgt := 113) hx hb dX6_feed_27 (by decide) (fun c_35 => absurd c_35 (by decide)) (fun c_35 => ?_)
  refine lv_iload hx hb dX6_feed_30 (lv_at hl 0 rfl) ?_
  refine lv_iconst (v := 4) hx hb dX6_feed_32 (by decide) ?_
  refine lv_icmp_ge (tgt := 40) hx hb dX6_feed_33 (by decide) (fun c_36 => ?_) (fun c_36 => absurd (by decide) c_36)
  refine lv_iload hx hb dX6_feed_40 (lv_at hl 0 rfl) ?_
  refine lv_bipush (v := 8) hx hb dX6_feed_42 (by decide) ?_
  refine lv_icmp_ge (tgt := 51) hx hb dX6_feed_44 (by decide) (fun c_37 => ?_) (fun c_37 => absurd (by decide) c_37)
  refine lv_iload hx hb dX6_feed_51 (lv_at hl 0 rfl) ?_
  refine lv_bipush (v := 12) hx hb dX6_feed_53 (by decide) ?_
  refine lv_icmp_ge (tgt := 62) hx hb dX6_feed_55 (by decide) (fun c_38 => absurd c_38 (by decide)) (fun c_38 => ?_)
  refine lv_iload_n hx hb dX6_feed_58 rfl (lv_at hl 5 rfl) ?_
  refine lv_goto (tgt := 76) hx hb dX6_feed_59 (by decide) ?_
  refine lv_istore (lv' := [(7, .int p2), (6, .int 9), (0, .ref h0), (1, .int p0), (2, .int p1), (3, .int p2), (4, .int p3), (5, .int p4)]) hx hb dX6_feed_76 hl (by decide) rfl (fun ls hl => ?_)
  refine lv_aload_n hx hb dX6_feed_78 rfl (lv_at hl 2 rfl) ?_
  refine va_get (D := (dC, dI)) (ci := 6) (v := .ref ((q 0))) (C := RX6) (T := TX6) (N := 52) hx hb hts hin6 hown hK hP 0 rfl rfl 0 (by decide) (hts (.fieldLink RX6 7 "SkiShotsModel" "tape" "[I") (by decide +kernel)) (fun _ h9 => h9) rfl dX6_feed_79 ?_
  refine lv_aload_n hx hb dX6_feed_82 rfl (lv_at hl 2 rfl) ?_
  refine va_get (D := (dC, dI)) (ci := 6) (v := .int 0) (C := RX6) (T := TX6) (N := 52) hx hb hts hin6 hown hK hP 0 rfl rfl 1 (by decide) (hts (.fieldLink RX6 129 "SkiShotsModel" "tapeSize" "I") (by decide +kernel)) (fun _ h9 => h9) rfl dX6_feed_83 ?_
  refine lv_iload hx hb dX6_feed_86 (lv_at hl 1 rfl) ?_
  refine lv_iadd hx hb dX6_feed_88 ?_
  rw [show (0 + 9 : Int32) = 9 from by decide]
  refine lv_iload hx hb dX6_feed_89 (lv_at hl 0 rfl) ?_
  refine lv_bipush (v := 24) hx hb dX6_feed_91 (by decide) ?_
  refine lv_bipush (v := 8) hx hb dX6_feed_93 (by decide) ?_
  refine lv_iload hx hb dX6_feed_95 (lv_at hl 1 rfl) ?_
  refine lv_iconst (v := 4) hx hb dX6_feed_97 (by decide) ?_
  refine lv_irem hx hb dX6_feed_98 (by decide) ?_
  rw [show (9 - 9 / 4 * 4 : Int32) = 1 from by decide]
  refine lv_imul hx hb dX6_feed_99 ?_
  rw [show (8 * 1 : Int32) = 8 from by decide]
  refine lv_isub hx hb dX6_feed_100 ?_
  rw [show (24 - 8 : Int32) = 16 from by decide]
  refine lv_ishr hx hb dX6_feed_101 ?_
  refine lv_sipush (v := 255) hx hb dX6_feed_102 (by decide) ?_
  refine lv_iand hx hb dX6_feed_105 ?_
  refine va_iast hx hb hK hP hD hS 1 0 rfl rfl (by unfold vp_in; decide) dX6_feed_106 (fun H locs hP hD hS => ?_)
  obtain ⟨f_39, ef_39⟩ : ∃ g : Nat → Int32, g = upd (f_34) (Int32.toNatClampNeg 9) ((p2 >>> (16 &&& 31)) &&& 255) := ⟨_, rfl⟩
  have hP : va_P (dC, dI) vwCl [(h0, .inr (6, [.ref ((q 0)), .int 0, .int 0, .int 0, .int 0, .ref ((q 5)), .ref ((q 6)), .ref ((q 7)), .ref ((q 8)), .ref ((q 9)), .ref ((q 10)), .ref ((q 11)), .ref ((q 12)), .int 0, .int ((-1)), .int 0, .ref ((q 16)), .int 0, .ref ((q 18)), .ref ((q 19)), .ref ((q 20)), .ref ((q 21)), .ref ((q 22)), .ref ((q 23)), .ref ((q 24)), .ref ((q 25)), .ref ((q 26)), .ref ((q 27)), .ref ((q 28)), .ref ((q 29)), .ref ((q 30)), .int 0, .ref ((q 32)), .ref ((q 33)), .ref ((q 34)), .ref ((q 35)), .ref ((q 36)), .ref ((q 37)), .ref ((q 38)), .int 0, .int 0, .int 0, .int 0, .int 0, .int 0, .ref ((q 45)), .ref ((q 46)), .ref ((q 47)), .ref ((q 48)), .ref ((q 49)), .ref ((q 50)), .ref ((q 51))])), ((q 0), .inl ((cq 0), 1000, .inl (f_39)))] H := by rw [ef_39]; exact hP
  have hD : va_D A [(h0, .inr (6, [.ref ((q 0)), .int 0, .int 0, .int 0, .int 0, .ref ((q 5)), .ref ((q 6)), .ref ((q 7)), .ref ((q 8)), .ref ((q 9)), .ref ((q 10)), .ref ((q 11)), .ref ((q 12)), .int 0, .int ((-1)), .int 0, .ref ((q 16)), .int 0, .ref ((q 18)), .ref ((q 19)), .ref ((q 20)), .ref ((q 21)), .ref ((q 22)), .ref ((q 23)), .ref ((q 24)), .ref ((q 25)), .ref ((q 26)), .ref ((q 27)), .ref ((q 28)), .ref ((q 29)), .ref ((q 30)), .int 0, .ref ((q 32)), .ref ((q 33)), .ref ((q 34)), .ref ((q 35)), .ref ((q 36)), .ref ((q 37)), .ref ((q 38)), .int 0, .int 0, .int 0, .int 0, .int 0, .int 0, .ref ((q 45)), .ref ((q 46)), .ref ((q 47)), .ref ((q 48)), .ref ((q 49)), .ref ((q 50)), .ref ((q 51))])), ((q 0), .inl ((cq 0), 1000, .inl (f_39)))] := by rw [ef_39]; exact hD
  refine lv_iinc (v := 10) (lv' := [(6, .int 10), (7, .int p2), (0, .ref h0), (1, .int p0), (2, .int p1), (3, .int p2), (4, .int p3), (5, .int p4)]) hx hb dX6_feed_107 hl (k := 1) rfl (by decide) (by decide) rfl (fun ls hl => ?_)
  refine lv_goto (tgt := 23) hx hb dX6_feed_110 (by decide) ?_
  refine lv_iload hx hb dX6_feed_23 (lv_at hl 0 rfl) ?_
  refine lv_bipush (v := 20) hx hb dX6_feed_25 (by decide) ?_
  refine lv_icmp_ge (tgt := 113) hx hb dX6_feed_27 (by decide) (fun c_40 => absurd c_40 (by decide)) (fun c_40 => ?_)
  refine lv_iload hx hb dX6_feed_30 (lv_at hl 0 rfl) ?_
  refine lv_iconst (v := 4) hx hb dX6_feed_32 (by decide) ?_
  refine lv_icmp_ge (tgt := 40) hx hb dX6_feed_33 (by decide) (fun c_41 => ?_) (fun c_41 => absurd (by decide) c_41)
  refine lv_iload hx hb dX6_feed_40 (lv_at hl 0 rfl) ?_
  refine lv_bipush (v := 8) hx hb dX6_feed_42 (by decide) ?_
  refine lv_icmp_ge (tgt := 51) hx hb dX6_feed_44 (by decide) (fun c_42 => ?_) (fun c_42 => absurd (by decide) c_42)
  refine lv_iload hx hb dX6_feed_51 (lv_at hl 0 rfl) ?_
  refine lv_bipush (v := 12) hx hb dX6_feed_53 (by decide) ?_
  refine lv_icmp_ge (tgt := 62) hx hb dX6_feed_55 (by decide) (fun c_43 => absurd c_43 (by decide)) (fun c_43 => ?_)
  refine lv_iload_n hx hb dX6_feed_58 rfl (lv_at hl 5 rfl) ?_
  refine lv_goto (tgt := 76) hx hb dX6_feed_59 (by decide) ?_
  refine lv_istore (lv' := [(7, .int p2), (6, .int 10), (0, .ref h0), (1, .int p0), (2, .int p1), (3, .int p2), (4, .int p3), (5, .int p4)]) hx hb dX6_feed_76 hl (by decide) rfl (fun ls hl => ?_)
  refine lv_aload_n hx hb dX6_feed_78 rfl (lv_at hl 2 rfl) ?_
  refine va_get (D := (dC, dI)) (ci := 6) (v := .ref ((q 0))) (C := RX6) (T := TX6) (N := 52) hx hb hts hin6 hown hK hP 0 rfl rfl 0 (by decide) (hts (.fieldLink RX6 7 "SkiShotsModel" "tape" "[I") (by decide +kernel)) (fun _ h9 => h9) rfl dX6_feed_79 ?_
  refine lv_aload_n hx hb dX6_feed_82 rfl (lv_at hl 2 rfl) ?_
  refine va_get (D := (dC, dI)) (ci := 6) (v := .int 0) (C := RX6) (T := TX6) (N := 52) hx hb hts hin6 hown hK hP 0 rfl rfl 1 (by decide) (hts (.fieldLink RX6 129 "SkiShotsModel" "tapeSize" "I") (by decide +kernel)) (fun _ h9 => h9) rfl dX6_feed_83 ?_
  refine lv_iload hx hb dX6_feed_86 (lv_at hl 1 rfl) ?_
  refine lv_iadd hx hb dX6_feed_88 ?_
  rw [show (0 + 10 : Int32) = 10 from by decide]
  refine lv_iload hx hb dX6_feed_89 (lv_at hl 0 rfl) ?_
  refine lv_bipush (v := 24) hx hb dX6_feed_91 (by decide) ?_
  refine lv_bipush (v := 8) hx hb dX6_feed_93 (by decide) ?_
  refine lv_iload hx hb dX6_feed_95 (lv_at hl 1 rfl) ?_
  refine lv_iconst (v := 4) hx hb dX6_feed_97 (by decide) ?_
  refine lv_irem hx hb dX6_feed_98 (by decide) ?_
  rw [show (10 - 10 / 4 * 4 : Int32) = 2 from by decide]
  refine lv_imul hx hb dX6_feed_99 ?_
  rw [show (8 * 2 : Int32) = 16 from by decide]
  refine lv_isub hx hb dX6_feed_100 ?_
  rw [show (24 - 16 : Int32) = 8 from by decide]
  refine lv_ishr hx hb dX6_feed_101 ?_
  refine lv_sipush (v := 255) hx hb dX6_feed_102 (by decide) ?_
  refine lv_iand hx hb dX6_feed_105 ?_
  refine va_iast hx hb hK hP hD hS 1 0 rfl rfl (by unfold vp_in; decide) dX6_feed_106 (fun H locs hP hD hS => ?_)
  obtain ⟨f_44, ef_44⟩ : ∃ g : Nat → Int32, g = upd (f_39) (Int32.toNatClampNeg 10) ((p2 >>> (8 &&& 31)) &&& 255) := ⟨_, rfl⟩
  have hP : va_P (dC, dI) vwCl [(h0, .inr (6, [.ref ((q 0)), .int 0, .int 0, .int 0, .int 0, .ref ((q 5)), .ref ((q 6)), .ref ((q 7)), .ref ((q 8)), .ref ((q 9)), .ref ((q 10)), .ref ((q 11)), .ref ((q 12)), .int 0, .int ((-1)), .int 0, .ref ((q 16)), .int 0, .ref ((q 18)), .ref ((q 19)), .ref ((q 20)), .ref ((q 21)), .ref ((q 22)), .ref ((q 23)), .ref ((q 24)), .ref ((q 25)), .ref ((q 26)), .ref ((q 27)), .ref ((q 28)), .ref ((q 29)), .ref ((q 30)), .int 0, .ref ((q 32)), .ref ((q 33)), .ref ((q 34)), .ref ((q 35)), .ref ((q 36)), .ref ((q 37)), .ref ((q 38)), .int 0, .int 0, .int 0, .int 0, .int 0, .int 0, .ref ((q 45)), .ref ((q 46)), .ref ((q 47)), .ref ((q 48)), .ref ((q 49)), .ref ((q 50)), .ref ((q 51))])), ((q 0), .inl ((cq 0), 1000, .inl (f_44)))] H := by rw [ef_44]; exact hP
  have hD : va_D A [(h0, .inr (6, [.ref ((q 0)), .int 0, .int 0, .int 0, .int 0, .ref ((q 5)), .ref ((q 6)), .ref ((q 7)), .ref ((q 8)), .ref ((q 9)), .ref ((q 10)), .ref ((q 11)), .ref ((q 12)), .int 0, .int ((-1)), .int 0, .ref ((q 16)), .int 0, .ref ((q 18)), .ref ((q 19)), .ref ((q 20)), .ref ((q 21)), .ref ((q 22)), .ref ((q 23)), .ref ((q 24)), .ref ((q 25)), .ref ((q 26)), .ref ((q 27)), .ref ((q 28)), .ref ((q 29)), .ref ((q 30)), .int 0, .ref ((q 32)), .ref ((q 33)), .ref ((q 34)), .ref ((q 35)), .ref ((q 36)), .ref ((q 37)), .ref ((q 38)), .int 0, .int 0, .int 0, .int 0, .int 0, .int 0, .ref ((q 45)), .ref ((q 46)), .ref ((q 47)), .ref ((q 48)), .ref ((q 49)), .ref ((q 50)), .ref ((q 51))])), ((q 0), .inl ((cq 0), 1000, .inl (f_44)))] := by rw [ef_44]; exact hD
  refine lv_iinc (v := 11) (lv' := [(6, .int 11), (7, .int p2), (0, .ref h0), (1, .int p0), (2, .int p1), (3, .int p2), (4, .int p3), (5, .int p4)]) hx hb dX6_feed_107 hl (k := 1) rfl (by decide) (by decide) rfl (fun ls hl => ?_)
  refine lv_goto (tgt := 23) hx hb dX6_feed_110 (by decide) ?_
  refine lv_iload hx hb dX6_feed_23 (lv_at hl 0 rfl) ?_
  refine lv_bipush (v := 20) hx hb dX6_feed_25 (by decide) ?_
  refine lv_icmp_ge (tgt := 113) hx hb dX6_feed_27 (by decide) (fun c_45 => absurd c_45 (by decide)) (fun c_45 => ?_)
  refine lv_iload hx hb dX6_feed_30 (lv_at hl 0 rfl) ?_
  refine lv_iconst (v := 4) hx hb dX6_feed_32 (by decide) ?_
  refine lv_icmp_ge (tgt := 40) hx hb dX6_feed_33 (by decide) (fun c_46 => ?_) (fun c_46 => absurd (by decide) c_46)
  refine lv_iload hx hb dX6_feed_40 (lv_at hl 0 rfl) ?_
  refine lv_bipush (v := 8) hx hb dX6_feed_42 (by decide) ?_
  refine lv_icmp_ge (tgt := 51) hx hb dX6_feed_44 (by decide) (fun c_47 => ?_) (fun c_47 => absurd (by decide) c_47)
  refine lv_iload hx hb dX6_feed_51 (lv_at hl 0 rfl) ?_
  refine lv_bipush (v := 12) hx hb dX6_feed_53 (by decide) ?_
  refine lv_icmp_ge (tgt := 62) hx hb dX6_feed_55 (by decide) (fun c_48 => absurd c_48 (by decide)) (fun c_48 => ?_)
  refine lv_iload_n hx hb dX6_feed_58 rfl (lv_at hl 5 rfl) ?_
  refine lv_goto (tgt := 76) hx hb dX6_feed_59 (by decide) ?_
  refine lv_istore (lv' := [(7, .int p2), (6, .int 11), (0, .ref h0), (1, .int p0), (2, .int p1), (3, .int p2), (4, .int p3), (5, .int p4)]) hx hb dX6_feed_76 hl (by decide) rfl (fun ls hl => ?_)
  refine lv_aload_n hx hb dX6_feed_78 rfl (lv_at hl 2 rfl) ?_
  refine va_get (D := (dC, dI)) (ci := 6) (v := .ref ((q 0))) (C := RX6) (T := TX6) (N := 52) hx hb hts hin6 hown hK hP 0 rfl rfl 0 (by decide) (hts (.fieldLink RX6 7 "SkiShotsModel" "tape" "[I") (by decide +kernel)) (fun _ h9 => h9) rfl dX6_feed_79 ?_
  refine lv_aload_n hx hb dX6_feed_82 rfl (lv_at hl 2 rfl) ?_
  refine va_get (D := (dC, dI)) (ci := 6) (v := .int 0) (C := RX6) (T := TX6) (N := 52) hx hb hts hin6 hown hK hP 0 rfl rfl 1 (by decide) (hts (.fieldLink RX6 129 "SkiShotsModel" "tapeSize" "I") (by decide +kernel)) (fun _ h9 => h9) rfl dX6_feed_83 ?_
  refine lv_iload hx hb dX6_feed_86 (lv_at hl 1 rfl) ?_
  refine lv_iadd hx hb dX6_feed_88 ?_
  rw [show (0 + 11 : Int32) = 11 from by decide]
  refine lv_iload hx hb dX6_feed_89 (lv_at hl 0 rfl) ?_
  refine lv_bipush (v := 24) hx hb dX6_feed_91 (by decide) ?_
  refine lv_bipush (v := 8) hx hb dX6_feed_93 (by decide) ?_
  refine lv_iload hx hb dX6_feed_95 (lv_at hl 1 rfl) ?_
  refine lv_iconst (v := 4) hx hb dX6_feed_97 (by decide) ?_
  refine lv_irem hx hb dX6_feed_98 (by decide) ?_
  rw [show (11 - 11 / 4 * 4 : Int32) = 3 from by decide]
  refine lv_imul hx hb dX6_feed_99 ?_
  rw [show (8 * 3 : Int32) = 24 from by decide]
  refine lv_isub hx hb dX6_feed_100 ?_
  rw [show (24 - 24 : Int32) = 0 from by decide]
  refine lv_ishr hx hb dX6_feed_101 ?_
  refine lv_sipush (v := 255) hx hb dX6_feed_102 (by decide) ?_
  refine lv_iand hx hb dX6_feed_105 ?_
  refine va_iast hx hb hK hP hD hS 1 0 rfl rfl (by unfold vp_in; decide) dX6_feed_106 (fun H locs hP hD hS => ?_)
  obtain ⟨f_49, ef_49⟩ : ∃ g : Nat → Int32, g = upd (f_44) (Int32.toNatClampNeg 11) ((p2 >>> (0 &&& 31)) &&& 255) := ⟨_, rfl⟩
  have hP : va_P (dC, dI) vwCl [(h0, .inr (6, [.ref ((q 0)), .int 0, .int 0, .int 0, .int 0, .ref ((q 5)), .ref ((q 6)), .ref ((q 7)), .ref ((q 8)), .ref ((q 9)), .ref ((q 10)), .ref ((q 11)), .ref ((q 12)), .int 0, .int ((-1)), .int 0, .ref ((q 16)), .int 0, .ref ((q 18)), .ref ((q 19)), .ref ((q 20)), .ref ((q 21)), .ref ((q 22)), .ref ((q 23)), .ref ((q 24)), .ref ((q 25)), .ref ((q 26)), .ref ((q 27)), .ref ((q 28)), .ref ((q 29)), .ref ((q 30)), .int 0, .ref ((q 32)), .ref ((q 33)), .ref ((q 34)), .ref ((q 35)), .ref ((q 36)), .ref ((q 37)), .ref ((q 38)), .int 0, .int 0, .int 0, .int 0, .int 0, .int 0, .ref ((q 45)), .ref ((q 46)), .ref ((q 47)), .ref ((q 48)), .ref ((q 49)), .ref ((q 50)), .ref ((q 51))])), ((q 0), .inl ((cq 0), 1000, .inl (f_49)))] H := by rw [ef_49]; exact hP
  have hD : va_D A [(h0, .inr (6, [.ref ((q 0)), .int 0, .int 0, .int 0, .int 0, .ref ((q 5)), .ref ((q 6)), .ref ((q 7)), .ref ((q 8)), .ref ((q 9)), .ref ((q 10)), .ref ((q 11)), .ref ((q 12)), .int 0, .int ((-1)), .int 0, .ref ((q 16)), .int 0, .ref ((q 18)), .ref ((q 19)), .ref ((q 20)), .ref ((q 21)), .ref ((q 22)), .ref ((q 23)), .ref ((q 24)), .ref ((q 25)), .ref ((q 26)), .ref ((q 27)), .ref ((q 28)), .ref ((q 29)), .ref ((q 30)), .int 0, .ref ((q 32)), .ref ((q 33)), .ref ((q 34)), .ref ((q 35)), .ref ((q 36)), .ref ((q 37)), .ref ((q 38)), .int 0, .int 0, .int 0, .int 0, .int 0, .int 0, .ref ((q 45)), .ref ((q 46)), .ref ((q 47)), .ref ((q 48)), .ref ((q 49)), .ref ((q 50)), .ref ((q 51))])), ((q 0), .inl ((cq 0), 1000, .inl (f_49)))] := by rw [ef_49]; exact hD
  refine lv_iinc (v := 12) (lv' := [(6, .int 12), (7, .int p2), (0, .ref h0), (1, .int p0), (2, .int p1), (3, .int p2), (4, .int p3), (5, .int p4)]) hx hb dX6_feed_107 hl (k := 1) rfl (by decide) (by decide) rfl (fun ls hl => ?_)
  refine lv_goto (tgt := 23) hx hb dX6_feed_110 (by decide) ?_
  refine lv_iload hx hb dX6_feed_23 (lv_at hl 0 rfl) ?_
  refine lv_bipush (v := 20) hx hb dX6_feed_25 (by decide) ?_
  refine lv_icmp_ge (tgt := 113) hx hb dX6_feed_27 (by decide) (fun c_50 => absurd c_50 (by decide)) (fun c_50 => ?_)
  refine lv_iload hx hb dX6_feed_30 (lv_at hl 0 rfl) ?_
  refine lv_iconst (v := 4) hx hb dX6_feed_32 (by decide) ?_
  refine lv_icmp_ge (tgt := 40) hx hb dX6_feed_33 (by decide) (fun c_51 => ?_) (fun c_51 => absurd (by decide) c_51)
  refine lv_iload hx hb dX6_feed_40 (lv_at hl 0 rfl) ?_
  refine lv_bipush (v := 8) hx hb dX6_feed_42 (by decide) ?_
  refine lv_icmp_ge (tgt := 51) hx hb dX6_feed_44 (by decide) (fun c_52 => ?_) (fun c_52 => absurd (by decide) c_52)
  refine lv_iload hx hb dX6_feed_51 (lv_at hl 0 rfl) ?_
  refine lv_bipush (v := 12) hx hb dX6_feed_53 (by decide) ?_
  refine lv_icmp_ge (tgt := 62) hx hb dX6_feed_55 (by decide) (fun c_53 => ?_) (fun c_53 => absurd (by decide) c_53)
  refine lv_iload hx hb dX6_feed_62 (lv_at hl 0 rfl) ?_
  refine lv_bipush (v := 16) hx hb dX6_feed_64 (by decide) ?_
  refine lv_icmp_ge (tgt := 74) hx hb dX6_feed_66 (by decide) (fun c_54 => absurd c_54 (by decide)) (fun c_54 => ?_)
  refine lv_iload hx hb dX6_feed_69 (lv_at hl 6 rfl) ?_
  refine lv_goto (tgt := 76) hx hb dX6_feed_71 (by decide) ?_
  refine lv_istore (lv' := [(7, .int p3), (6, .int 12), (0, .ref h0), (1, .int p0), (2, .int p1), (3, .int p2), (4, .int p3), (5, .int p4)]) hx hb dX6_feed_76 hl (by decide) rfl (fun ls hl => ?_)
  refine lv_aload_n hx hb dX6_feed_78 rfl (lv_at hl 2 rfl) ?_
  refine va_get (D := (dC, dI)) (ci := 6) (v := .ref ((q 0))) (C := RX6) (T := TX6) (N := 52) hx hb hts hin6 hown hK hP 0 rfl rfl 0 (by decide) (hts (.fieldLink RX6 7 "SkiShotsModel" "tape" "[I") (by decide +kernel)) (fun _ h9 => h9) rfl dX6_feed_79 ?_
  refine lv_aload_n hx hb dX6_feed_82 rfl (lv_at hl 2 rfl) ?_
  refine va_get (D := (dC, dI)) (ci := 6) (v := .int 0) (C := RX6) (T := TX6) (N := 52) hx hb hts hin6 hown hK hP 0 rfl rfl 1 (by decide) (hts (.fieldLink RX6 129 "SkiShotsModel" "tapeSize" "I") (by decide +kernel)) (fun _ h9 => h9) rfl dX6_feed_83 ?_
  refine lv_iload hx hb dX6_feed_86 (lv_at hl 1 rfl) ?_
  refine lv_iadd hx hb dX6_feed_88 ?_
  rw [show (0 + 12 : Int32) = 12 from by decide]
  refine lv_iload hx hb dX6_feed_89 (lv_at hl 0 rfl) ?_
  refine lv_bipush (v := 24) hx hb dX6_feed_91 (by decide) ?_
  refine lv_bipush (v := 8) hx hb dX6_feed_93 (by decide) ?_
  refine lv_iload hx hb dX6_feed_95 (lv_at hl 1 rfl) ?_
  refine lv_iconst (v := 4) hx hb dX6_feed_97 (by decide) ?_
  refine lv_irem hx hb dX6_feed_98 (by decide) ?_
  rw [show (12 - 12 / 4 * 4 : Int32) = 0 from by decide]
  refine lv_imul hx hb dX6_feed_99 ?_
  rw [show (8 * 0 : Int32) = 0 from by decide]
  refine lv_isub hx hb dX6_feed_100 ?_
  rw [show (24 - 0 : Int32) = 24 from by decide]
  refine lv_ishr hx hb dX6_feed_101 ?_
  refine lv_sipush (v := 255) hx hb dX6_feed_102 (by decide) ?_
  refine lv_iand hx hb dX6_feed_105 ?_
  refine va_iast hx hb hK hP hD hS 1 0 rfl rfl (by unfold vp_in; decide) dX6_feed_106 (fun H locs hP hD hS => ?_)
  obtain ⟨f_55, ef_55⟩ : ∃ g : Nat → Int32, g = upd (f_49) (Int32.toNatClampNeg 12) ((p3 >>> (24 &&& 31)) &&& 255) := ⟨_, rfl⟩
  have hP : va_P (dC, dI) vwCl [(h0, .inr (6, [.ref ((q 0)), .int 0, .int 0, .int 0, .int 0, .ref ((q 5)), .ref ((q 6)), .ref ((q 7)), .ref ((q 8)), .ref ((q 9)), .ref ((q 10)), .ref ((q 11)), .ref ((q 12)), .int 0, .int ((-1)), .int 0, .ref ((q 16)), .int 0, .ref ((q 18)), .ref ((q 19)), .ref ((q 20)), .ref ((q 21)), .ref ((q 22)), .ref ((q 23)), .ref ((q 24)), .ref ((q 25)), .ref ((q 26)), .ref ((q 27)), .ref ((q 28)), .ref ((q 29)), .ref ((q 30)), .int 0, .ref ((q 32)), .ref ((q 33)), .ref ((q 34)), .ref ((q 35)), .ref ((q 36)), .ref ((q 37)), .ref ((q 38)), .int 0, .int 0, .int 0, .int 0, .int 0, .int 0, .ref ((q 45)), .ref ((q 46)), .ref ((q 47)), .ref ((q 48)), .ref ((q 49)), .ref ((q 50)), .ref ((q 51))])), ((q 0), .inl ((cq 0), 1000, .inl (f_55)))] H := by rw [ef_55]; exact hP
  have hD : va_D A [(h0, .inr (6, [.ref ((q 0)), .int 0, .int 0, .int 0, .int 0, .ref ((q 5)), .ref ((q 6)), .ref ((q 7)), .ref ((q 8)), .ref ((q 9)), .ref ((q 10)), .ref ((q 11)), .ref ((q 12)), .int 0, .int ((-1)), .int 0, .ref ((q 16)), .int 0, .ref ((q 18)), .ref ((q 19)), .ref ((q 20)), .ref ((q 21)), .ref ((q 22)), .ref ((q 23)), .ref ((q 24)), .ref ((q 25)), .ref ((q 26)), .ref ((q 27)), .ref ((q 28)), .ref ((q 29)), .ref ((q 30)), .int 0, .ref ((q 32)), .ref ((q 33)), .ref ((q 34)), .ref ((q 35)), .ref ((q 36)), .ref ((q 37)), .ref ((q 38)), .int 0, .int 0, .int 0, .int 0, .int 0, .int 0, .ref ((q 45)), .ref ((q 46)), .ref ((q 47)), .ref ((q 48)), .ref ((q 49)), .ref ((q 50)), .ref ((q 51))])), ((q 0), .inl ((cq 0), 1000, .inl (f_55)))] := by rw [ef_55]; exact hD
  refine lv_iinc (v := 13) (lv' := [(6, .int 13), (7, .int p3), (0, .ref h0), (1, .int p0), (2, .int p1), (3, .int p2), (4, .int p3), (5, .int p4)]) hx hb dX6_feed_107 hl (k := 1) rfl (by decide) (by decide) rfl (fun ls hl => ?_)
  refine lv_goto (tgt := 23) hx hb dX6_feed_110 (by decide) ?_
  refine lv_iload hx hb dX6_feed_23 (lv_at hl 0 rfl) ?_
  refine lv_bipush (v := 20) hx hb dX6_feed_25 (by decide) ?_
  refine lv_icmp_ge (tgt := 113) hx hb dX6_feed_27 (by decide) (fun c_56 => absurd c_56 (by decide)) (fun c_56 => ?_)
  refine lv_iload hx hb dX6_feed_30 (lv_at hl 0 rfl) ?_
  refine lv_iconst (v := 4) hx hb dX6_feed_32 (by decide) ?_
  refine lv_icmp_ge (tgt := 40) hx hb dX6_feed_33 (by decide) (fun c_57 => ?_) (fun c_57 => absurd (by decide) c_57)
  refine lv_iload hx hb dX6_feed_40 (lv_at hl 0 rfl) ?_
  refine lv_bipush (v := 8) hx hb dX6_feed_42 (by decide) ?_
  refine lv_icmp_ge (tgt := 51) hx hb dX6_feed_44 (by decide) (fun c_58 => ?_) (fun c_58 => absurd (by decide) c_58)
  refine lv_iload hx hb dX6_feed_51 (lv_at hl 0 rfl) ?_
  refine lv_bipush (v := 12) hx hb dX6_feed_53 (by decide) ?_
  refine lv_icmp_ge (tgt := 62) hx hb dX6_feed_55 (by decide) (fun c_59 => ?_) (fun c_59 => absurd (by decide) c_59)
  refine lv_iload hx hb dX6_feed_62 (lv_at hl 0 rfl) ?_
  refine lv_bipush (v := 16) hx hb dX6_feed_64 (by decide) ?_
  refine lv_icmp_ge (tgt := 74) hx hb dX6_feed_66 (by decide) (fun c_60 => absurd c_60 (by decide)) (fun c_60 => ?_)
  refine lv_iload hx hb dX6_feed_69 (lv_at hl 6 rfl) ?_
  refine lv_goto (tgt := 76) hx hb dX6_feed_71 (by decide) ?_
  refine lv_istore (lv' := [(7, .int p3), (6, .int 13), (0, .ref h0), (1, .int p0), (2, .int p1), (3, .int p2), (4, .int p3), (5, .int p4)]) hx hb dX6_feed_76 hl (by decide) rfl (fun ls hl => ?_)
  refine lv_aload_n hx hb dX6_feed_78 rfl (lv_at hl 2 rfl) ?_
  refine va_get (D := (dC, dI)) (ci := 6) (v := .ref ((q 0))) (C := RX6) (T := TX6) (N := 52) hx hb hts hin6 hown hK hP 0 rfl rfl 0 (by decide) (hts (.fieldLink RX6 7 "SkiShotsModel" "tape" "[I") (by decide +kernel)) (fun _ h9 => h9) rfl dX6_feed_79 ?_
  refine lv_aload_n hx hb dX6_feed_82 rfl (lv_at hl 2 rfl) ?_
  refine va_get (D := (dC, dI)) (ci := 6) (v := .int 0) (C := RX6) (T := TX6) (N := 52) hx hb hts hin6 hown hK hP 0 rfl rfl 1 (by decide) (hts (.fieldLink RX6 129 "SkiShotsModel" "tapeSize" "I") (by decide +kernel)) (fun _ h9 => h9) rfl dX6_feed_83 ?_
  refine lv_iload hx hb dX6_feed_86 (lv_at hl 1 rfl) ?_
  refine lv_iadd hx hb dX6_feed_88 ?_
  rw [show (0 + 13 : Int32) = 13 from by decide]
  refine lv_iload hx hb dX6_feed_89 (lv_at hl 0 rfl) ?_
  refine lv_bipush (v := 24) hx hb dX6_feed_91 (by decide) ?_
  refine lv_bipush (v := 8) hx hb dX6_feed_93 (by decide) ?_
  refine lv_iload hx hb dX6_feed_95 (lv_at hl 1 rfl) ?_
  refine lv_iconst (v := 4) hx hb dX6_feed_97 (by decide) ?_
  refine lv_irem hx hb dX6_feed_98 (by decide) ?_
  rw [show (13 - 13 / 4 * 4 : Int32) = 1 from by decide]
  refine lv_imul hx hb dX6_feed_99 ?_
  rw [show (8 * 1 : Int32) = 8 from by decide]
  refine lv_isub hx hb dX6_feed_100 ?_
  rw [show (24 - 8 : Int32) = 16 from by decide]
  refine lv_ishr hx hb dX6_feed_101 ?_
  refine lv_sipush (v := 255) hx hb dX6_feed_102 (by decide) ?_
  refine lv_iand hx hb dX6_feed_105 ?_
  refine va_iast hx hb hK hP hD hS 1 0 rfl rfl (by unfold vp_in; decide) dX6_feed_106 (fun H locs hP hD hS => ?_)
  obtain ⟨f_61, ef_61⟩ : ∃ g : Nat → Int32, g = upd (f_55) (Int32.toNatClampNeg 13) ((p3 >>> (16 &&& 31)) &&& 255) := ⟨_, rfl⟩
  have hP : va_P (dC, dI) vwCl [(h0, .inr (6, [.ref ((q 0)), .int 0, .int 0, .int 0, .int 0, .ref ((q 5)), .ref ((q 6)), .ref ((q 7)), .ref ((q 8)), .ref ((q 9)), .ref ((q 10)), .ref ((q 11)), .ref ((q 12)), .int 0, .int ((-1)), .int 0, .ref ((q 16)), .int 0, .ref ((q 18)), .ref ((q 19)), .ref ((q 20)), .ref ((q 21)), .ref ((q 22)), .ref ((q 23)), .ref ((q 24)), .ref ((q 25)), .ref ((q 26)), .ref ((q 27)), .ref ((q 28)), .ref ((q 29)), .ref ((q 30)), .int 0, .ref ((q 32)), .ref ((q 33)), .ref ((q 34)), .ref ((q 35)), .ref ((q 36)), .ref ((q 37)), .ref ((q 38)), .int 0, .int 0, .int 0, .int 0, .int 0, .int 0, .ref ((q 45)), .ref ((q 46)), .ref ((q 47)), .ref ((q 48)), .ref ((q 49)), .ref ((q 50)), .ref ((q 51))])), ((q 0), .inl ((cq 0), 1000, .inl (f_61)))] H := by rw [ef_61]; exact hP
  have hD : va_D A [(h0, .inr (6, [.ref ((q 0)), .int 0, .int 0, .int 0, .int 0, .ref ((q 5)), .ref ((q 6)), .ref ((q 7)), .ref ((q 8)), .ref ((q 9)), .ref ((q 10)), .ref ((q 11)), .ref ((q 12)), .int 0, .int ((-1)), .int 0, .ref ((q 16)), .int 0, .ref ((q 18)), .ref ((q 19)), .ref ((q 20)), .ref ((q 21)), .ref ((q 22)), .ref ((q 23)), .ref ((q 24)), .ref ((q 25)), .ref ((q 26)), .ref ((q 27)), .ref ((q 28)), .ref ((q 29)), .ref ((q 30)), .int 0, .ref ((q 32)), .ref ((q 33)), .ref ((q 34)), .ref ((q 35)), .ref ((q 36)), .ref ((q 37)), .ref ((q 38)), .int 0, .int 0, .int 0, .int 0, .int 0, .int 0, .ref ((q 45)), .ref ((q 46)), .ref ((q 47)), .ref ((q 48)), .ref ((q 49)), .ref ((q 50)), .ref ((q 51))])), ((q 0), .inl ((cq 0), 1000, .inl (f_61)))] := by rw [ef_61]; exact hD
  refine lv_iinc (v := 14) (lv' := [(6, .int 14), (7, .int p3), (0, .ref h0), (1, .int p0), (2, .int p1), (3, .int p2), (4, .int p3), (5, .int p4)]) hx hb dX6_feed_107 hl (k := 1) rfl (by decide) (by decide) rfl (fun ls hl => ?_)
  refine lv_goto (tgt := 23) hx hb dX6_feed_110 (by decide) ?_
  refine lv_iload hx hb dX6_feed_23 (lv_at hl 0 rfl) ?_
  refine lv_bipush (v := 20) hx hb dX6_feed_25 (by decide) ?_
  refine lv_icmp_ge (tgt := 113) hx hb dX6_feed_27 (by decide) (fun c_62 => absurd c_62 (by decide)) (fun c_62 => ?_)
  refine lv_iload hx hb dX6_feed_30 (lv_at hl 0 rfl) ?_
  refine lv_iconst (v := 4) hx hb dX6_feed_32 (by decide) ?_
  refine lv_icmp_ge (tgt := 40) hx hb dX6_feed_33 (by decide) (fun c_63 => ?_) (fun c_63 => absurd (by decide) c_63)
  refine lv_iload hx hb dX6_feed_40 (lv_at hl 0 rfl) ?_
  refine lv_bipush (v := 8) hx hb dX6_feed_42 (by decide) ?_
  refine lv_icmp_ge (tgt := 51) hx hb dX6_feed_44 (by decide) (fun c_64 => ?_) (fun c_64 => absurd (by decide) c_64)
  refine lv_iload hx hb dX6_feed_51 (lv_at hl 0 rfl) ?_
  refine lv_bipush (v := 12) hx hb dX6_feed_53 (by decide) ?_
  refine lv_icmp_ge (tgt := 62) hx hb dX6_feed_55 (by decide) (fun c_65 => ?_) (fun c_65 => absurd (by decide) c_65)
  refine lv_iload hx hb dX6_feed_62 (lv_at hl 0 rfl) ?_
  refine lv_bipush (v := 16) hx hb dX6_feed_64 (by decide) ?_
  refine lv_icmp_ge (tgt := 74) hx hb dX6_feed_66 (by decide) (fun c_66 => absurd c_66 (by decide)) (fun c_66 => ?_)
  refine lv_iload hx hb dX6_feed_69 (lv_at hl 6 rfl) ?_
  refine lv_goto (tgt := 76) hx hb dX6_feed_71 (by decide) ?_
  refine lv_istore (lv' := [(7, .int p3), (6, .int 14), (0, .ref h0), (1, .int p0), (2, .int p1), (3, .int p2), (4, .int p3), (5, .int p4)]) hx hb dX6_feed_76 hl (by decide) rfl (fun ls hl => ?_)
  refine lv_aload_n hx hb dX6_feed_78 rfl (lv_at hl 2 rfl) ?_
  refine va_get (D := (dC, dI)) (ci := 6) (v := .ref ((q 0))) (C := RX6) (T := TX6) (N := 52) hx hb hts hin6 hown hK hP 0 rfl rfl 0 (by decide) (hts (.fieldLink RX6 7 "SkiShotsModel" "tape" "[I") (by decide +kernel)) (fun _ h9 => h9) rfl dX6_feed_79 ?_
  refine lv_aload_n hx hb dX6_feed_82 rfl (lv_at hl 2 rfl) ?_
  refine va_get (D := (dC, dI)) (ci := 6) (v := .int 0) (C := RX6) (T := TX6) (N := 52) hx hb hts hin6 hown hK hP 0 rfl rfl 1 (by decide) (hts (.fieldLink RX6 129 "SkiShotsModel" "tapeSize" "I") (by decide +kernel)) (fun _ h9 => h9) rfl dX6_feed_83 ?_
  refine lv_iload hx hb dX6_feed_86 (lv_at hl 1 rfl) ?_
  refine lv_iadd hx hb dX6_feed_88 ?_
  rw [show (0 + 14 : Int32) = 14 from by decide]
  refine lv_iload hx hb dX6_feed_89 (lv_at hl 0 rfl) ?_
  refine lv_bipush (v := 24) hx hb dX6_feed_91 (by decide) ?_
  refine lv_bipush (v := 8) hx hb dX6_feed_93 (by decide) ?_
  refine lv_iload hx hb dX6_feed_95 (lv_at hl 1 rfl) ?_
  refine lv_iconst (v := 4) hx hb dX6_feed_97 (by decide) ?_
  refine lv_irem hx hb dX6_feed_98 (by decide) ?_
  rw [show (14 - 14 / 4 * 4 : Int32) = 2 from by decide]
  refine lv_imul hx hb dX6_feed_99 ?_
  rw [show (8 * 2 : Int32) = 16 from by decide]
  refine lv_isub hx hb dX6_feed_100 ?_
  rw [show (24 - 16 : Int32) = 8 from by decide]
  refine lv_ishr hx hb dX6_feed_101 ?_
  refine lv_sipush (v := 255) hx hb dX6_feed_102 (by decide) ?_
  refine lv_iand hx hb dX6_feed_105 ?_
  refine va_iast hx hb hK hP hD hS 1 0 rfl rfl (by unfold vp_in; decide) dX6_feed_106 (fun H locs hP hD hS => ?_)
  obtain ⟨f_67, ef_67⟩ : ∃ g : Nat → Int32, g = upd (f_61) (Int32.toNatClampNeg 14) ((p3 >>> (8 &&& 31)) &&& 255) := ⟨_, rfl⟩
  have hP : va_P (dC, dI) vwCl [(h0, .inr (6, [.ref ((q 0)), .int 0, .int 0, .int 0, .int 0, .ref ((q 5)), .ref ((q 6)), .ref ((q 7)), .ref ((q 8)), .ref ((q 9)), .ref ((q 10)), .ref ((q 11)), .ref ((q 12)), .int 0, .int ((-1)), .int 0, .ref ((q 16)), .int 0, .ref ((q 18)), .ref ((q 19)), .ref ((q 20)), .ref ((q 21)), .ref ((q 22)), .ref ((q 23)), .ref ((q 24)), .ref ((q 25)), .ref ((q 26)), .ref ((q 27)), .ref ((q 28)), .ref ((q 29)), .ref ((q 30)), .int 0, .ref ((q 32)), .ref ((q 33)), .ref ((q 34)), .ref ((q 35)), .ref ((q 36)), .ref ((q 37)), .ref ((q 38)), .int 0, .int 0, .int 0, .int 0, .int 0, .int 0, .ref ((q 45)), .ref ((q 46)), .ref ((q 47)), .ref ((q 48)), .ref ((q 49)), .ref ((q 50)), .ref ((q 51))])), ((q 0), .inl ((cq 0), 1000, .inl (f_67)))] H := by rw [ef_67]; exact hP
  have hD : va_D A [(h0, .inr (6, [.ref ((q 0)), .int 0, .int 0, .int 0, .int 0, .ref ((q 5)), .ref ((q 6)), .ref ((q 7)), .ref ((q 8)), .ref ((q 9)), .ref ((q 10)), .ref ((q 11)), .ref ((q 12)), .int 0, .int ((-1)), .int 0, .ref ((q 16)), .int 0, .ref ((q 18)), .ref ((q 19)), .ref ((q 20)), .ref ((q 21)), .ref ((q 22)), .ref ((q 23)), .ref ((q 24)), .ref ((q 25)), .ref ((q 26)), .ref ((q 27)), .ref ((q 28)), .ref ((q 29)), .ref ((q 30)), .int 0, .ref ((q 32)), .ref ((q 33)), .ref ((q 34)), .ref ((q 35)), .ref ((q 36)), .ref ((q 37)), .ref ((q 38)), .int 0, .int 0, .int 0, .int 0, .int 0, .int 0, .ref ((q 45)), .ref ((q 46)), .ref ((q 47)), .ref ((q 48)), .ref ((q 49)), .ref ((q 50)), .ref ((q 51))])), ((q 0), .inl ((cq 0), 1000, .inl (f_67)))] := by rw [ef_67]; exact hD
  refine lv_iinc (v := 15) (lv' := [(6, .int 15), (7, .int p3), (0, .ref h0), (1, .int p0), (2, .int p1), (3, .int p2), (4, .int p3), (5, .int p4)]) hx hb dX6_feed_107 hl (k := 1) rfl (by decide) (by decide) rfl (fun ls hl => ?_)
  refine lv_goto (tgt := 23) hx hb dX6_feed_110 (by decide) ?_
  refine lv_iload hx hb dX6_feed_23 (lv_at hl 0 rfl) ?_
  refine lv_bipush (v := 20) hx hb dX6_feed_25 (by decide) ?_
  refine lv_icmp_ge (tgt := 113) hx hb dX6_feed_27 (by decide) (fun c_68 => absurd c_68 (by decide)) (fun c_68 => ?_)
  refine lv_iload hx hb dX6_feed_30 (lv_at hl 0 rfl) ?_
  refine lv_iconst (v := 4) hx hb dX6_feed_32 (by decide) ?_
  refine lv_icmp_ge (tgt := 40) hx hb dX6_feed_33 (by decide) (fun c_69 => ?_) (fun c_69 => absurd (by decide) c_69)
  refine lv_iload hx hb dX6_feed_40 (lv_at hl 0 rfl) ?_
  refine lv_bipush (v := 8) hx hb dX6_feed_42 (by decide) ?_
  refine lv_icmp_ge (tgt := 51) hx hb dX6_feed_44 (by decide) (fun c_70 => ?_) (fun c_70 => absurd (by decide) c_70)
  refine lv_iload hx hb dX6_feed_51 (lv_at hl 0 rfl) ?_
  refine lv_bipush (v := 12) hx hb dX6_feed_53 (by decide) ?_
  refine lv_icmp_ge (tgt := 62) hx hb dX6_feed_55 (by decide) (fun c_71 => ?_) (fun c_71 => absurd (by decide) c_71)
  refine lv_iload hx hb dX6_feed_62 (lv_at hl 0 rfl) ?_
  refine lv_bipush (v := 16) hx hb dX6_feed_64 (by decide) ?_
  refine lv_icmp_ge (tgt := 74) hx hb dX6_feed_66 (by decide) (fun c_72 => absurd c_72 (by decide)) (fun c_72 => ?_)
  refine lv_iload hx hb dX6_feed_69 (lv_at hl 6 rfl) ?_
  refine lv_goto (tgt := 76) hx hb dX6_feed_71 (by decide) ?_
  refine lv_istore (lv' := [(7, .int p3), (6, .int 15), (0, .ref h0), (1, .int p0), (2, .int p1), (3, .int p2), (4, .int p3), (5, .int p4)]) hx hb dX6_feed_76 hl (by decide) rfl (fun ls hl => ?_)
  refine lv_aload_n hx hb dX6_feed_78 rfl (lv_at hl 2 rfl) ?_
  refine va_get (D := (dC, dI)) (ci := 6) (v := .ref ((q 0))) (C := RX6) (T := TX6) (N := 52) hx hb hts hin6 hown hK hP 0 rfl rfl 0 (by decide) (hts (.fieldLink RX6 7 "SkiShotsModel" "tape" "[I") (by decide +kernel)) (fun _ h9 => h9) rfl dX6_feed_79 ?_
  refine lv_aload_n hx hb dX6_feed_82 rfl (lv_at hl 2 rfl) ?_
  refine va_get (D := (dC, dI)) (ci := 6) (v := .int 0) (C := RX6) (T := TX6) (N := 52) hx hb hts hin6 hown hK hP 0 rfl rfl 1 (by decide) (hts (.fieldLink RX6 129 "SkiShotsModel" "tapeSize" "I") (by decide +kernel)) (fun _ h9 => h9) rfl dX6_feed_83 ?_
  refine lv_iload hx hb dX6_feed_86 (lv_at hl 1 rfl) ?_
  refine lv_iadd hx hb dX6_feed_88 ?_
  rw [show (0 + 15 : Int32) = 15 from by decide]
  refine lv_iload hx hb dX6_feed_89 (lv_at hl 0 rfl) ?_
  refine lv_bipush (v := 24) hx hb dX6_feed_91 (by decide) ?_
  refine lv_bipush (v := 8) hx hb dX6_feed_93 (by decide) ?_
  refine lv_iload hx hb dX6_feed_95 (lv_at hl 1 rfl) ?_
  refine lv_iconst (v := 4) hx hb dX6_feed_97 (by decide) ?_
  refine lv_irem hx hb dX6_feed_98 (by decide) ?_
  rw [show (15 - 15 / 4 * 4 : Int32) = 3 from by decide]
  refine lv_imul hx hb dX6_feed_99 ?_
  rw [show (8 * 3 : Int32) = 24 from by decide]
  refine lv_isub hx hb dX6_feed_100 ?_
  rw [show (24 - 24 : Int32) = 0 from by decide]
  refine lv_ishr hx hb dX6_feed_101 ?_
  refine lv_sipush (v := 255) hx hb dX6_feed_102 (by decide) ?_
  refine lv_iand hx hb dX6_feed_105 ?_
  refine va_iast hx hb hK hP hD hS 1 0 rfl rfl (by unfold vp_in; decide) dX6_feed_106 (fun H locs hP hD hS => ?_)
  obtain ⟨f_73, ef_73⟩ : ∃ g : Nat → Int32, g = upd (f_67) (Int32.toNatClampNeg 15) ((p3 >>> (0 &&& 31)) &&& 255) := ⟨_, rfl⟩
  have hP : va_P (dC, dI) vwCl [(h0, .inr (6, [.ref ((q 0)), .int 0, .int 0, .int 0, .int 0, .ref ((q 5)), .ref ((q 6)), .ref ((q 7)), .ref ((q 8)), .ref ((q 9)), .ref ((q 10)), .ref ((q 11)), .ref ((q 12)), .int 0, .int ((-1)), .int 0, .ref ((q 16)), .int 0, .ref ((q 18)), .ref ((q 19)), .ref ((q 20)), .ref ((q 21)), .ref ((q 22)), .ref ((q 23)), .ref ((q 24)), .ref ((q 25)), .ref ((q 26)), .ref ((q 27)), .ref ((q 28)), .ref ((q 29)), .ref ((q 30)), .int 0, .ref ((q 32)), .ref ((q 33)), .ref ((q 34)), .ref ((q 35)), .ref ((q 36)), .ref ((q 37)), .ref ((q 38)), .int 0, .int 0, .int 0, .int 0, .int 0, .int 0, .ref ((q 45)), .ref ((q 46)), .ref ((q 47)), .ref ((q 48)), .ref ((q 49)), .ref ((q 50)), .ref ((q 51))])), ((q 0), .inl ((cq 0), 1000, .inl (f_73)))] H := by rw [ef_73]; exact hP
  have hD : va_D A [(h0, .inr (6, [.ref ((q 0)), .int 0, .int 0, .int 0, .int 0, .ref ((q 5)), .ref ((q 6)), .ref ((q 7)), .ref ((q 8)), .ref ((q 9)), .ref ((q 10)), .ref ((q 11)), .ref ((q 12)), .int 0, .int ((-1)), .int 0, .ref ((q 16)), .int 0, .ref ((q 18)), .ref ((q 19)), .ref ((q 20)), .ref ((q 21)), .ref ((q 22)), .ref ((q 23)), .ref ((q 24)), .ref ((q 25)), .ref ((q 26)), .ref ((q 27)), .ref ((q 28)), .ref ((q 29)), .ref ((q 30)), .int 0, .ref ((q 32)), .ref ((q 33)), .ref ((q 34)), .ref ((q 35)), .ref ((q 36)), .ref ((q 37)), .ref ((q 38)), .int 0, .int 0, .int 0, .int 0, .int 0, .int 0, .ref ((q 45)), .ref ((q 46)), .ref ((q 47)), .ref ((q 48)), .ref ((q 49)), .ref ((q 50)), .ref ((q 51))])), ((q 0), .inl ((cq 0), 1000, .inl (f_73)))] := by rw [ef_73]; exact hD
  refine lv_iinc (v := 16) (lv' := [(6, .int 16), (7, .int p3), (0, .ref h0), (1, .int p0), (2, .int p1), (3, .int p2), (4, .int p3), (5, .int p4)]) hx hb dX6_feed_107 hl (k := 1) rfl (by decide) (by decide) rfl (fun ls hl => ?_)
  refine lv_goto (tgt := 23) hx hb dX6_feed_110 (by decide) ?_
  refine lv_iload hx hb dX6_feed_23 (lv_at hl 0 rfl) ?_
  refine lv_bipush (v := 20) hx hb dX6_feed_25 (by decide) ?_
  refine lv_icmp_ge (tgt := 113) hx hb dX6_feed_27 (by decide) (fun c_74 => absurd c_74 (by decide)) (fun c_74 => ?_)
  refine lv_iload hx hb dX6_feed_30 (lv_at hl 0 rfl) ?_
  refine lv_iconst (v := 4) hx hb dX6_feed_32 (by decide) ?_
  refine lv_icmp_ge (tgt := 40) hx hb dX6_feed_33 (by decide) (fun c_75 => ?_) (fun c_75 => absurd (by decide) c_75)
  refine lv_iload hx hb dX6_feed_40 (lv_at hl 0 rfl) ?_
  refine lv_bipush (v := 8) hx hb dX6_feed_42 (by decide) ?_
  refine lv_icmp_ge (tgt := 51) hx hb dX6_feed_44 (by decide) (fun c_76 => ?_) (fun c_76 => absurd (by decide) c_76)
  refine lv_iload hx hb dX6_feed_51 (lv_at hl 0 rfl) ?_
  refine lv_bipush (v := 12) hx hb dX6_feed_53 (by decide) ?_
  refine lv_icmp_ge (tgt := 62) hx hb dX6_feed_55 (by decide) (fun c_77 => ?_) (fun c_77 => absurd (by decide) c_77)
  refine lv_iload hx hb dX6_feed_62 (lv_at hl 0 rfl) ?_
  refine lv_bipush (v := 16) hx hb dX6_feed_64 (by decide) ?_
  refine lv_icmp_ge (tgt := 74) hx hb dX6_feed_66 (by decide) (fun c_78 => ?_) (fun c_78 => absurd (by decide) c_78)
  refine lv_iload hx hb dX6_feed_74 (lv_at hl 7 rfl) ?_
  refine lv_istore (lv' := [(7, .int p4), (6, .int 16), (0, .ref h0), (1, .int p0), (2, .int p1), (3, .int p2), (4, .int p3), (5, .int p4)]) hx hb dX6_feed_76 hl (by decide) rfl (fun ls hl => ?_)
  refine lv_aload_n hx hb dX6_feed_78 rfl (lv_at hl 2 rfl) ?_
  refine va_get (D := (dC, dI)) (ci := 6) (v := .ref ((q 0))) (C := RX6) (T := TX6) (N := 52) hx hb hts hin6 hown hK hP 0 rfl rfl 0 (by decide) (hts (.fieldLink RX6 7 "SkiShotsModel" "tape" "[I") (by decide +kernel)) (fun _ h9 => h9) rfl dX6_feed_79 ?_
  refine lv_aload_n hx hb dX6_feed_82 rfl (lv_at hl 2 rfl) ?_
  refine va_get (D := (dC, dI)) (ci := 6) (v := .int 0) (C := RX6) (T := TX6) (N := 52) hx hb hts hin6 hown hK hP 0 rfl rfl 1 (by decide) (hts (.fieldLink RX6 129 "SkiShotsModel" "tapeSize" "I") (by decide +kernel)) (fun _ h9 => h9) rfl dX6_feed_83 ?_
  refine lv_iload hx hb dX6_feed_86 (lv_at hl 1 rfl) ?_
  refine lv_iadd hx hb dX6_feed_88 ?_
  rw [show (0 + 16 : Int32) = 16 from by decide]
  refine lv_iload hx hb dX6_feed_89 (lv_at hl 0 rfl) ?_
  refine lv_bipush (v := 24) hx hb dX6_feed_91 (by decide) ?_
  refine lv_bipush (v := 8) hx hb dX6_feed_93 (by decide) ?_
  refine lv_iload hx hb dX6_feed_95 (lv_at hl 1 rfl) ?_
  refine lv_iconst (v := 4) hx hb dX6_feed_97 (by decide) ?_
  refine lv_irem hx hb dX6_feed_98 (by decide) ?_
  rw [show (16 - 16 / 4 * 4 : Int32) = 0 from by decide]
  refine lv_imul hx hb dX6_feed_99 ?_
  rw [show (8 * 0 : Int32) = 0 from by decide]
  refine lv_isub hx hb dX6_feed_100 ?_
  rw [show (24 - 0 : Int32) = 24 from by decide]
  refine lv_ishr hx hb dX6_feed_101 ?_
  refine lv_sipush (v := 255) hx hb dX6_feed_102 (by decide) ?_
  refine lv_iand hx hb dX6_feed_105 ?_
  refine va_iast hx hb hK hP hD hS 1 0 rfl rfl (by unfold vp_in; decide) dX6_feed_106 (fun H locs hP hD hS => ?_)
  obtain ⟨f_79, ef_79⟩ : ∃ g : Nat → Int32, g = upd (f_73) (Int32.toNatClampNeg 16) ((p4 >>> (24 &&& 31)) &&& 255) := ⟨_, rfl⟩
  have hP : va_P (dC, dI) vwCl [(h0, .inr (6, [.ref ((q 0)), .int 0, .int 0, .int 0, .int 0, .ref ((q 5)), .ref ((q 6)), .ref ((q 7)), .ref ((q 8)), .ref ((q 9)), .ref ((q 10)), .ref ((q 11)), .ref ((q 12)), .int 0, .int ((-1)), .int 0, .ref ((q 16)), .int 0, .ref ((q 18)), .ref ((q 19)), .ref ((q 20)), .ref ((q 21)), .ref ((q 22)), .ref ((q 23)), .ref ((q 24)), .ref ((q 25)), .ref ((q 26)), .ref ((q 27)), .ref ((q 28)), .ref ((q 29)), .ref ((q 30)), .int 0, .ref ((q 32)), .ref ((q 33)), .ref ((q 34)), .ref ((q 35)), .ref ((q 36)), .ref ((q 37)), .ref ((q 38)), .int 0, .int 0, .int 0, .int 0, .int 0, .int 0, .ref ((q 45)), .ref ((q 46)), .ref ((q 47)), .ref ((q 48)), .ref ((q 49)), .ref ((q 50)), .ref ((q 51))])), ((q 0), .inl ((cq 0), 1000, .inl (f_79)))] H := by rw [ef_79]; exact hP
  have hD : va_D A [(h0, .inr (6, [.ref ((q 0)), .int 0, .int 0, .int 0, .int 0, .ref ((q 5)), .ref ((q 6)), .ref ((q 7)), .ref ((q 8)), .ref ((q 9)), .ref ((q 10)), .ref ((q 11)), .ref ((q 12)), .int 0, .int ((-1)), .int 0, .ref ((q 16)), .int 0, .ref ((q 18)), .ref ((q 19)), .ref ((q 20)), .ref ((q 21)), .ref ((q 22)), .ref ((q 23)), .ref ((q 24)), .ref ((q 25)), .ref ((q 26)), .ref ((q 27)), .ref ((q 28)), .ref ((q 29)), .ref ((q 30)), .int 0, .ref ((q 32)), .ref ((q 33)), .ref ((q 34)), .ref ((q 35)), .ref ((q 36)), .ref ((q 37)), .ref ((q 38)), .int 0, .int 0, .int 0, .int 0, .int 0, .int 0, .ref ((q 45)), .ref ((q 46)), .ref ((q 47)), .ref ((q 48)), .ref ((q 49)), .ref ((q 50)), .ref ((q 51))])), ((q 0), .inl ((cq 0), 1000, .inl (f_79)))] := by rw [ef_79]; exact hD
  refine lv_iinc (v := 17) (lv' := [(6, .int 17), (7, .int p4), (0, .ref h0), (1, .int p0), (2, .int p1), (3, .int p2), (4, .int p3), (5, .int p4)]) hx hb dX6_feed_107 hl (k := 1) rfl (by decide) (by decide) rfl (fun ls hl => ?_)
  refine lv_goto (tgt := 23) hx hb dX6_feed_110 (by decide) ?_
  refine lv_iload hx hb dX6_feed_23 (lv_at hl 0 rfl) ?_
  refine lv_bipush (v := 20) hx hb dX6_feed_25 (by decide) ?_
  refine lv_icmp_ge (tgt := 113) hx hb dX6_feed_27 (by decide) (fun c_80 => absurd c_80 (by decide)) (fun c_80 => ?_)
  refine lv_iload hx hb dX6_feed_30 (lv_at hl 0 rfl) ?_
  refine lv_iconst (v := 4) hx hb dX6_feed_32 (by decide) ?_
  refine lv_icmp_ge (tgt := 40) hx hb dX6_feed_33 (by decide) (fun c_81 => ?_) (fun c_81 => absurd (by decide) c_81)
  refine lv_iload hx hb dX6_feed_40 (lv_at hl 0 rfl) ?_
  refine lv_bipush (v := 8) hx hb dX6_feed_42 (by decide) ?_
  refine lv_icmp_ge (tgt := 51) hx hb dX6_feed_44 (by decide) (fun c_82 => ?_) (fun c_82 => absurd (by decide) c_82)
  refine lv_iload hx hb dX6_feed_51 (lv_at hl 0 rfl) ?_
  refine lv_bipush (v := 12) hx hb dX6_feed_53 (by decide) ?_
  refine lv_icmp_ge (tgt := 62) hx hb dX6_feed_55 (by decide) (fun c_83 => ?_) (fun c_83 => absurd (by decide) c_83)
  refine lv_iload hx hb dX6_feed_62 (lv_at hl 0 rfl) ?_
  refine lv_bipush (v := 16) hx hb dX6_feed_64 (by decide) ?_
  refine lv_icmp_ge (tgt := 74) hx hb dX6_feed_66 (by decide) (fun c_84 => ?_) (fun c_84 => absurd (by decide) c_84)
  refine lv_iload hx hb dX6_feed_74 (lv_at hl 7 rfl) ?_
  refine lv_istore (lv' := [(7, .int p4), (6, .int 17), (0, .ref h0), (1, .int p0), (2, .int p1), (3, .int p2), (4, .int p3), (5, .int p4)]) hx hb dX6_feed_76 hl (by decide) rfl (fun ls hl => ?_)
  refine lv_aload_n hx hb dX6_feed_78 rfl (lv_at hl 2 rfl) ?_
  refine va_get (D := (dC, dI)) (ci := 6) (v := .ref ((q 0))) (C := RX6) (T := TX6) (N := 52) hx hb hts hin6 hown hK hP 0 rfl rfl 0 (by decide) (hts (.fieldLink RX6 7 "SkiShotsModel" "tape" "[I") (by decide +kernel)) (fun _ h9 => h9) rfl dX6_feed_79 ?_
  refine lv_aload_n hx hb dX6_feed_82 rfl (lv_at hl 2 rfl) ?_
  refine va_get (D := (dC, dI)) (ci := 6) (v := .int 0) (C := RX6) (T := TX6) (N := 52) hx hb hts hin6 hown hK hP 0 rfl rfl 1 (by decide) (hts (.fieldLink RX6 129 "SkiShotsModel" "tapeSize" "I") (by decide +kernel)) (fun _ h9 => h9) rfl dX6_feed_83 ?_
  refine lv_iload hx hb dX6_feed_86 (lv_at hl 1 rfl) ?_
  refine lv_iadd hx hb dX6_feed_88 ?_
  rw [show (0 + 17 : Int32) = 17 from by decide]
  refine lv_iload hx hb dX6_feed_89 (lv_at hl 0 rfl) ?_
  refine lv_bipush (v := 24) hx hb dX6_feed_91 (by decide) ?_
  refine lv_bipush (v := 8) hx hb dX6_feed_93 (by decide) ?_
  refine lv_iload hx hb dX6_feed_95 (lv_at hl 1 rfl) ?_
  refine lv_iconst (v := 4) hx hb dX6_feed_97 (by decide) ?_
  refine lv_irem hx hb dX6_feed_98 (by decide) ?_
  rw [show (17 - 17 / 4 * 4 : Int32) = 1 from by decide]
  refine lv_imul hx hb dX6_feed_99 ?_
  rw [show (8 * 1 : Int32) = 8 from by decide]
  refine lv_isub hx hb dX6_feed_100 ?_
  rw [show (24 - 8 : Int32) = 16 from by decide]
  refine lv_ishr hx hb dX6_feed_101 ?_
  refine lv_sipush (v := 255) hx hb dX6_feed_102 (by decide) ?_
  refine lv_iand hx hb dX6_feed_105 ?_
  refine va_iast hx hb hK hP hD hS 1 0 rfl rfl (by unfold vp_in; decide) dX6_feed_106 (fun H locs hP hD hS => ?_)
  obtain ⟨f_85, ef_85⟩ : ∃ g : Nat → Int32, g = upd (f_79) (Int32.toNatClampNeg 17) ((p4 >>> (16 &&& 31)) &&& 255) := ⟨_, rfl⟩
  have hP : va_P (dC, dI) vwCl [(h0, .inr (6, [.ref ((q 0)), .int 0, .int 0, .int 0, .int 0, .ref ((q 5)), .ref ((q 6)), .ref ((q 7)), .ref ((q 8)), .ref ((q 9)), .ref ((q 10)), .ref ((q 11)), .ref ((q 12)), .int 0, .int ((-1)), .int 0, .ref ((q 16)), .int 0, .ref ((q 18)), .ref ((q 19)), .ref ((q 20)), .ref ((q 21)), .ref ((q 22)), .ref ((q 23)), .ref ((q 24)), .ref ((q 25)), .ref ((q 26)), .ref ((q 27)), .ref ((q 28)), .ref ((q 29)), .ref ((q 30)), .int 0, .ref ((q 32)), .ref ((q 33)), .ref ((q 34)), .ref ((q 35)), .ref ((q 36)), .ref ((q 37)), .ref ((q 38)), .int 0, .int 0, .int 0, .int 0, .int 0, .int 0, .ref ((q 45)), .ref ((q 46)), .ref ((q 47)), .ref ((q 48)), .ref ((q 49)), .ref ((q 50)), .ref ((q 51))])), ((q 0), .inl ((cq 0), 1000, .inl (f_85)))] H := by rw [ef_85]; exact hP
  have hD : va_D A [(h0, .inr (6, [.ref ((q 0)), .int 0, .int 0, .int 0, .int 0, .ref ((q 5)), .ref ((q 6)), .ref ((q 7)), .ref ((q 8)), .ref ((q 9)), .ref ((q 10)), .ref ((q 11)), .ref ((q 12)), .int 0, .int ((-1)), .int 0, .ref ((q 16)), .int 0, .ref ((q 18)), .ref ((q 19)), .ref ((q 20)), .ref ((q 21)), .ref ((q 22)), .ref ((q 23)), .ref ((q 24)), .ref ((q 25)), .ref ((q 26)), .ref ((q 27)), .ref ((q 28)), .ref ((q 29)), .ref ((q 30)), .int 0, .ref ((q 32)), .ref ((q 33)), .ref ((q 34)), .ref ((q 35)), .ref ((q 36)), .ref ((q 37)), .ref ((q 38)), .int 0, .int 0, .int 0, .int 0, .int 0, .int 0, .ref ((q 45)), .ref ((q 46)), .ref ((q 47)), .ref ((q 48)), .ref ((q 49)), .ref ((q 50)), .ref ((q 51))])), ((q 0), .inl ((cq 0), 1000, .inl (f_85)))] := by rw [ef_85]; exact hD
  refine lv_iinc (v := 18) (lv' := [(6, .int 18), (7, .int p4), (0, .ref h0), (1, .int p0), (2, .int p1), (3, .int p2), (4, .int p3), (5, .int p4)]) hx hb dX6_feed_107 hl (k := 1) rfl (by decide) (by decide) rfl (fun ls hl => ?_)
  refine lv_goto (tgt := 23) hx hb dX6_feed_110 (by decide) ?_
  refine lv_iload hx hb dX6_feed_23 (lv_at hl 0 rfl) ?_
  refine lv_bipush (v := 20) hx hb dX6_feed_25 (by decide) ?_
  refine lv_icmp_ge (tgt := 113) hx hb dX6_feed_27 (by decide) (fun c_86 => absurd c_86 (by decide)) (fun c_86 => ?_)
  refine lv_iload hx hb dX6_feed_30 (lv_at hl 0 rfl) ?_
  refine lv_iconst (v := 4) hx hb dX6_feed_32 (by decide) ?_
  refine lv_icmp_ge (tgt := 40) hx hb dX6_feed_33 (by decide) (fun c_87 => ?_) (fun c_87 => absurd (by decide) c_87)
  refine lv_iload hx hb dX6_feed_40 (lv_at hl 0 rfl) ?_
  refine lv_bipush (v := 8) hx hb dX6_feed_42 (by decide) ?_
  refine lv_icmp_ge (tgt := 51) hx hb dX6_feed_44 (by decide) (fun c_88 => ?_) (fun c_88 => absurd (by decide) c_88)
  refine lv_iload hx hb dX6_feed_51 (lv_at hl 0 rfl) ?_
  refine lv_bipush (v := 12) hx hb dX6_feed_53 (by decide) ?_
  refine lv_icmp_ge (tgt := 62) hx hb dX6_feed_55 (by decide) (fun c_89 => ?_) (fun c_89 => absurd (by decide) c_89)
  refine lv_iload hx hb dX6_feed_62 (lv_at hl 0 rfl) ?_
  refine lv_bipush (v := 16) hx hb dX6_feed_64 (by decide) ?_
  refine lv_icmp_ge (tgt := 74) hx hb dX6_feed_66 (by decide) (fun c_90 => ?_) (fun c_90 => absurd (by decide) c_90)
  refine lv_iload hx hb dX6_feed_74 (lv_at hl 7 rfl) ?_
  refine lv_istore (lv' := [(7, .int p4), (6, .int 18), (0, .ref h0), (1, .int p0), (2, .int p1), (3, .int p2), (4, .int p3), (5, .int p4)]) hx hb dX6_feed_76 hl (by decide) rfl (fun ls hl => ?_)
  refine lv_aload_n hx hb dX6_feed_78 rfl (lv_at hl 2 rfl) ?_
  refine va_get (D := (dC, dI)) (ci := 6) (v := .ref ((q 0))) (C := RX6) (T := TX6) (N := 52) hx hb hts hin6 hown hK hP 0 rfl rfl 0 (by decide) (hts (.fieldLink RX6 7 "SkiShotsModel" "tape" "[I") (by decide +kernel)) (fun _ h9 => h9) rfl dX6_feed_79 ?_
  refine lv_aload_n hx hb dX6_feed_82 rfl (lv_at hl 2 rfl) ?_
  refine va_get (D := (dC, dI)) (ci := 6) (v := .int 0) (C := RX6) (T := TX6) (N := 52) hx hb hts hin6 hown hK hP 0 rfl rfl 1 (by decide) (hts (.fieldLink RX6 129 "SkiShotsModel" "tapeSize" "I") (by decide +kernel)) (fun _ h9 => h9) rfl dX6_feed_83 ?_
  refine lv_iload hx hb dX6_feed_86 (lv_at hl 1 rfl) ?_
  refine lv_iadd hx hb dX6_feed_88 ?_
  rw [show (0 + 18 : Int32) = 18 from by decide]
  refine lv_iload hx hb dX6_feed_89 (lv_at hl 0 rfl) ?_
  refine lv_bipush (v := 24) hx hb dX6_feed_91 (by decide) ?_
  refine lv_bipush (v := 8) hx hb dX6_feed_93 (by decide) ?_
  refine lv_iload hx hb dX6_feed_95 (lv_at hl 1 rfl) ?_
  refine lv_iconst (v := 4) hx hb dX6_feed_97 (by decide) ?_
  refine lv_irem hx hb dX6_feed_98 (by decide) ?_
  rw [show (18 - 18 / 4 * 4 : Int32) = 2 from by decide]
  refine lv_imul hx hb dX6_feed_99 ?_
  rw [show (8 * 2 : Int32) = 16 from by decide]
  refine lv_isub hx hb dX6_feed_100 ?_
  rw [show (24 - 16 : Int32) = 8 from by decide]
  refine lv_ishr hx hb dX6_feed_101 ?_
  refine lv_sipush (v := 255) hx hb dX6_feed_102 (by decide) ?_
  refine lv_iand hx hb dX6_feed_105 ?_
  refine va_iast hx hb hK hP hD hS 1 0 rfl rfl (by unfold vp_in; decide) dX6_feed_106 (fun H locs hP hD hS => ?_)
  obtain ⟨f_91, ef_91⟩ : ∃ g : Nat → Int32, g = upd (f_85) (Int32.toNatClampNeg 18) ((p4 >>> (8 &&& 31)) &&& 255) := ⟨_, rfl⟩
  have hP : va_P (dC, dI) vwCl [(h0, .inr (6, [.ref ((q 0)), .int 0, .int 0, .int 0, .int 0, .ref ((q 5)), .ref ((q 6)), .ref ((q 7)), .ref ((q 8)), .ref ((q 9)), .ref ((q 10)), .ref ((q 11)), .ref ((q 12)), .int 0, .int ((-1)), .int 0, .ref ((q 16)), .int 0, .ref ((q 18)), .ref ((q 19)), .ref ((q 20)), .ref ((q 21)), .ref ((q 22)), .ref ((q 23)), .ref ((q 24)), .ref ((q 25)), .ref ((q 26)), .ref ((q 27)), .ref ((q 28)), .ref ((q 29)), .ref ((q 30)), .int 0, .ref ((q 32)), .ref ((q 33)), .ref ((q 34)), .ref ((q 35)), .ref ((q 36)), .ref ((q 37)), .ref ((q 38)), .int 0, .int 0, .int 0, .int 0, .int 0, .int 0, .ref ((q 45)), .ref ((q 46)), .ref ((q 47)), .ref ((q 48)), .ref ((q 49)), .ref ((q 50)), .ref ((q 51))])), ((q 0), .inl ((cq 0), 1000, .inl (f_91)))] H := by rw [ef_91]; exact hP
  have hD : va_D A [(h0, .inr (6, [.ref ((q 0)), .int 0, .int 0, .int 0, .int 0, .ref ((q 5)), .ref ((q 6)), .ref ((q 7)), .ref ((q 8)), .ref ((q 9)), .ref ((q 10)), .ref ((q 11)), .ref ((q 12)), .int 0, .int ((-1)), .int 0, .ref ((q 16)), .int 0, .ref ((q 18)), .ref ((q 19)), .ref ((q 20)), .ref ((q 21)), .ref ((q 22)), .ref ((q 23)), .ref ((q 24)), .ref ((q 25)), .ref ((q 26)), .ref ((q 27)), .ref ((q 28)), .ref ((q 29)), .ref ((q 30)), .int 0, .ref ((q 32)), .ref ((q 33)), .ref ((q 34)), .ref ((q 35)), .ref ((q 36)), .ref ((q 37)), .ref ((q 38)), .int 0, .int 0, .int 0, .int 0, .int 0, .int 0, .ref ((q 45)), .ref ((q 46)), .ref ((q 47)), .ref ((q 48)), .ref ((q 49)), .ref ((q 50)), .ref ((q 51))])), ((q 0), .inl ((cq 0), 1000, .inl (f_91)))] := by rw [ef_91]; exact hD
  refine lv_iinc (v := 19) (lv' := [(6, .int 19), (7, .int p4), (0, .ref h0), (1, .int p0), (2, .int p1), (3, .int p2), (4, .int p3), (5, .int p4)]) hx hb dX6_feed_107 hl (k := 1) rfl (by decide) (by decide) rfl (fun ls hl => ?_)
  refine lv_goto (tgt := 23) hx hb dX6_feed_110 (by decide) ?_
  refine lv_iload hx hb dX6_feed_23 (lv_at hl 0 rfl) ?_
  refine lv_bipush (v := 20) hx hb dX6_feed_25 (by decide) ?_
  refine lv_icmp_ge (tgt := 113) hx hb dX6_feed_27 (by decide) (fun c_92 => absurd c_92 (by decide)) (fun c_92 => ?_)
  refine lv_iload hx hb dX6_feed_30 (lv_at hl 0 rfl) ?_
  refine lv_iconst (v := 4) hx hb dX6_feed_32 (by decide) ?_
  refine lv_icmp_ge (tgt := 40) hx hb dX6_feed_33 (by decide) (fun c_93 => ?_) (fun c_93 => absurd (by decide) c_93)
  refine lv_iload hx hb dX6_feed_40 (lv_at hl 0 rfl) ?_
  refine lv_bipush (v := 8) hx hb dX6_feed_42 (by decide) ?_
  refine lv_icmp_ge (tgt := 51) hx hb dX6_feed_44 (by decide) (fun c_94 => ?_) (fun c_94 => absurd (by decide) c_94)
  refine lv_iload hx hb dX6_feed_51 (lv_at hl 0 rfl) ?_
  refine lv_bipush (v := 12) hx hb dX6_feed_53 (by decide) ?_
  refine lv_icmp_ge (tgt := 62) hx hb dX6_feed_55 (by decide) (fun c_95 => ?_) (fun c_95 => absurd (by decide) c_95)
  refine lv_iload hx hb dX6_feed_62 (lv_at hl 0 rfl) ?_
  refine lv_bipush (v := 16) hx hb dX6_feed_64 (by decide) ?_
  refine lv_icmp_ge (tgt := 74) hx hb dX6_feed_66 (by decide) (fun c_96 => ?_) (fun c_96 => absurd (by decide) c_96)
  refine lv_iload hx hb dX6_feed_74 (lv_at hl 7 rfl) ?_
  refine lv_istore (lv' := [(7, .int p4), (6, .int 19), (0, .ref h0), (1, .int p0), (2, .int p1), (3, .int p2), (4, .int p3), (5, .int p4)]) hx hb dX6_feed_76 hl (by decide) rfl (fun ls hl => ?_)
  refine lv_aload_n hx hb dX6_feed_78 rfl (lv_at hl 2 rfl) ?_
  refine va_get (D := (dC, dI)) (ci := 6) (v := .ref ((q 0))) (C := RX6) (T := TX6) (N := 52) hx hb hts hin6 hown hK hP 0 rfl rfl 0 (by decide) (hts (.fieldLink RX6 7 "SkiShotsModel" "tape" "[I") (by decide +kernel)) (fun _ h9 => h9) rfl dX6_feed_79 ?_
  refine lv_aload_n hx hb dX6_feed_82 rfl (lv_at hl 2 rfl) ?_
  refine va_get (D := (dC, dI)) (ci := 6) (v := .int 0) (C := RX6) (T := TX6) (N := 52) hx hb hts hin6 hown hK hP 0 rfl rfl 1 (by decide) (hts (.fieldLink RX6 129 "SkiShotsModel" "tapeSize" "I") (by decide +kernel)) (fun _ h9 => h9) rfl dX6_feed_83 ?_
  refine lv_iload hx hb dX6_feed_86 (lv_at hl 1 rfl) ?_
  refine lv_iadd hx hb dX6_feed_88 ?_
  rw [show (0 + 19 : Int32) = 19 from by decide]
  refine lv_iload hx hb dX6_feed_89 (lv_at hl 0 rfl) ?_
  refine lv_bipush (v := 24) hx hb dX6_feed_91 (by decide) ?_
  refine lv_bipush (v := 8) hx hb dX6_feed_93 (by decide) ?_
  refine lv_iload hx hb dX6_feed_95 (lv_at hl 1 rfl) ?_
  refine lv_iconst (v := 4) hx hb dX6_feed_97 (by decide) ?_
  refine lv_irem hx hb dX6_feed_98 (by decide) ?_
  rw [show (19 - 19 / 4 * 4 : Int32) = 3 from by decide]
  refine lv_imul hx hb dX6_feed_99 ?_
  rw [show (8 * 3 : Int32) = 24 from by decide]
  refine lv_isub hx hb dX6_feed_100 ?_
  rw [show (24 - 24 : Int32) = 0 from by decide]
  refine lv_ishr hx hb dX6_feed_101 ?_
  refine lv_sipush (v := 255) hx hb dX6_feed_102 (by decide) ?_
  refine lv_iand hx hb dX6_feed_105 ?_
  refine va_iast hx hb hK hP hD hS 1 0 rfl rfl (by unfold vp_in; decide) dX6_feed_106 (fun H locs hP hD hS => ?_)
  obtain ⟨f_97, ef_97⟩ : ∃ g : Nat → Int32, g = upd (f_91) (Int32.toNatClampNeg 19) ((p4 >>> (0 &&& 31)) &&& 255) := ⟨_, rfl⟩
  have hP : va_P (dC, dI) vwCl [(h0, .inr (6, [.ref ((q 0)), .int 0, .int 0, .int 0, .int 0, .ref ((q 5)), .ref ((q 6)), .ref ((q 7)), .ref ((q 8)), .ref ((q 9)), .ref ((q 10)), .ref ((q 11)), .ref ((q 12)), .int 0, .int ((-1)), .int 0, .ref ((q 16)), .int 0, .ref ((q 18)), .ref ((q 19)), .ref ((q 20)), .ref ((q 21)), .ref ((q 22)), .ref ((q 23)), .ref ((q 24)), .ref ((q 25)), .ref ((q 26)), .ref ((q 27)), .ref ((q 28)), .ref ((q 29)), .ref ((q 30)), .int 0, .ref ((q 32)), .ref ((q 33)), .ref ((q 34)), .ref ((q 35)), .ref ((q 36)), .ref ((q 37)), .ref ((q 38)), .int 0, .int 0, .int 0, .int 0, .int 0, .int 0, .ref ((q 45)), .ref ((q 46)), .ref ((q 47)), .ref ((q 48)), .ref ((q 49)), .ref ((q 50)), .ref ((q 51))])), ((q 0), .inl ((cq 0), 1000, .inl (f_97)))] H := by rw [ef_97]; exact hP
  have hD : va_D A [(h0, .inr (6, [.ref ((q 0)), .int 0, .int 0, .int 0, .int 0, .ref ((q 5)), .ref ((q 6)), .ref ((q 7)), .ref ((q 8)), .ref ((q 9)), .ref ((q 10)), .ref ((q 11)), .ref ((q 12)), .int 0, .int ((-1)), .int 0, .ref ((q 16)), .int 0, .ref ((q 18)), .ref ((q 19)), .ref ((q 20)), .ref ((q 21)), .ref ((q 22)), .ref ((q 23)), .ref ((q 24)), .ref ((q 25)), .ref ((q 26)), .ref ((q 27)), .ref ((q 28)), .ref ((q 29)), .ref ((q 30)), .int 0, .ref ((q 32)), .ref ((q 33)), .ref ((q 34)), .ref ((q 35)), .ref ((q 36)), .ref ((q 37)), .ref ((q 38)), .int 0, .int 0, .int 0, .int 0, .int 0, .int 0, .ref ((q 45)), .ref ((q 46)), .ref ((q 47)), .ref ((q 48)), .ref ((q 49)), .ref ((q 50)), .ref ((q 51))])), ((q 0), .inl ((cq 0), 1000, .inl (f_97)))] := by rw [ef_97]; exact hD
  refine lv_iinc (v := 20) (lv' := [(6, .int 20), (7, .int p4), (0, .ref h0), (1, .int p0), (2, .int p1), (3, .int p2), (4, .int p3), (5, .int p4)]) hx hb dX6_feed_107 hl (k := 1) rfl (by decide) (by decide) rfl (fun ls hl => ?_)
  refine lv_goto (tgt := 23) hx hb dX6_feed_110 (by decide) ?_
  refine lv_iload hx hb dX6_feed_23 (lv_at hl 0 rfl) ?_
  refine lv_bipush (v := 20) hx hb dX6_feed_25 (by decide) ?_
  refine lv_icmp_ge (tgt := 113) hx hb dX6_feed_27 (by decide) (fun c_98 => ?_) (fun c_98 => absurd (by decide) c_98)
  refine lv_aload_n hx hb dX6_feed_113 rfl (lv_at hl 2 rfl) ?_
  refine lv_dup hx hb dX6_feed_114 rfl ?_
  refine va_get (D := (dC, dI)) (ci := 6) (v := .int 0) (C := RX6) (T := TX6) (N := 52) hx hb hts hin6 hown hK hP 0 rfl rfl 1 (by decide) (hts (.fieldLink RX6 129 "SkiShotsModel" "tapeSize" "I") (by decide +kernel)) (fun _ h9 => h9) rfl dX6_feed_115 ?_
  refine lv_bipush (v := 20) hx hb dX6_feed_118 (by decide) ?_
  refine lv_iadd hx hb dX6_feed_120 ?_
  rw [show (0 + 20 : Int32) = 20 from by decide]
  refine va_put (D := (dC, dI)) (ci := 6) (v := .int 20) (ty := .int) (C := RX6) (T := TX6) (N := 52) hx hb hts hin6 tyX6 tyX6_ok nmX6 hown hK hP hD hS 0 rfl rfl 1 (by decide) (hts (.fieldLink RX6 129 "SkiShotsModel" "tapeSize" "I") (by decide +kernel)) (fun _ h9 => h9) rfl (by decide +kernel) rfl rfl (Nat.le_of_ble_eq_true rfl) dX6_feed_121 (fun H locs hP hD hS => ?_)
  have hP : va_P (dC, dI) vwCl [(h0, .inr (6, [.ref ((q 0)), .int 20, .int 0, .int 0, .int 0, .ref ((q 5)), .ref ((q 6)), .ref ((q 7)), .ref ((q 8)), .ref ((q 9)), .ref ((q 10)), .ref ((q 11)), .ref ((q 12)), .int 0, .int ((-1)), .int 0, .ref ((q 16)), .int 0, .ref ((q 18)), .ref ((q 19)), .ref ((q 20)), .ref ((q 21)), .ref ((q 22)), .ref ((q 23)), .ref ((q 24)), .ref ((q 25)), .ref ((q 26)), .ref ((q 27)), .ref ((q 28)), .ref ((q 29)), .ref ((q 30)), .int 0, .ref ((q 32)), .ref ((q 33)), .ref ((q 34)), .ref ((q 35)), .ref ((q 36)), .ref ((q 37)), .ref ((q 38)), .int 0, .int 0, .int 0, .int 0, .int 0, .int 0, .ref ((q 45)), .ref ((q 46)), .ref ((q 47)), .ref ((q 48)), .ref ((q 49)), .ref ((q 50)), .ref ((q 51))])), ((q 0), .inl ((cq 0), 1000, .inl (f_97)))] H := hP
  have hD : va_D A [(h0, .inr (6, [.ref ((q 0)), .int 20, .int 0, .int 0, .int 0, .ref ((q 5)), .ref ((q 6)), .ref ((q 7)), .ref ((q 8)), .ref ((q 9)), .ref ((q 10)), .ref ((q 11)), .ref ((q 12)), .int 0, .int ((-1)), .int 0, .ref ((q 16)), .int 0, .ref ((q 18)), .ref ((q 19)), .ref ((q 20)), .ref ((q 21)), .ref ((q 22)), .ref ((q 23)), .ref ((q 24)), .ref ((q 25)), .ref ((q 26)), .ref ((q 27)), .ref ((q 28)), .ref ((q 29)), .ref ((q 30)), .int 0, .ref ((q 32)), .ref ((q 33)), .ref ((q 34)), .ref ((q 35)), .ref ((q 36)), .ref ((q 37)), .ref ((q 38)), .int 0, .int 0, .int 0, .int 0, .int 0, .int 0, .ref ((q 45)), .ref ((q 46)), .ref ((q 47)), .ref ((q 48)), .ref ((q 49)), .ref ((q 50)), .ref ((q 51))])), ((q 0), .inl ((cq 0), 1000, .inl (f_97)))] := hD
  refine lv_aload_n hx hb dX6_feed_124 rfl (lv_at hl 2 rfl) ?_
  refine va_get (D := (dC, dI)) (ci := 6) (v := .int 20) (C := RX6) (T := TX6) (N := 52) hx hb hts hin6 hown hK hP 0 rfl rfl 1 (by decide) (hts (.fieldLink RX6 129 "SkiShotsModel" "tapeSize" "I") (by decide +kernel)) (fun _ h9 => h9) rfl dX6_feed_125 ?_
  exact W.iret (v := 20) hx hb hr (fun t ht hW => ⟨⟨20, (), rfl, rfl, trivial⟩, hS.F ht⟩) hS.2.2 dX6_feed_128
