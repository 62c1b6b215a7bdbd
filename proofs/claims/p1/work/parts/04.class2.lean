def wX5_putOnTape_0 : List Cond := .code yX5_putOnTape cX5_putOnTape 3 none :: ([.fieldLink RX5 36 "SkiShots" "tapeLength" "I", .fieldLink RX5 9 "SkiShots" "tape" "[B"] ++ wsX50)
set_option maxHeartbeats 4000000 in
set_option maxRecDepth 100000 in
theorem c_X5_putOnTape_0 (l : Launch) (dC : Nat → ClassId) (dI : Nat → Nat → Nat) (h0 : Nat) (qT : Nat) (qF : Nat) (qN : Nat) (qR : Nat) (qC : Nat) (cT : ClassId) (f : Nat → Int32) (p0 : Int32) (sz : Nat) : Met l yX5_putOnTape wX5_putOnTape_0 ({ frames := 0, cells := 0, slots := 0, locals := 0 }) (va_Pc [.ref h0, .int p0] (fun U => U.heap.size = sz ∧ va_P (dC, dI) vwCl [(h0, .inr (5, [.ref qT, .int 0, .ref qF, .int 0, .int 0, .int ((-1)), .int 0, .ref qN, .int 0, .ref qR, .int 0, .int 0, .ref qC])), (qT, .inl (cT, 1000, .inl (f)))] U.heap ∧ va_K (dC, dI) vwCl [(cT, .byte)] U ∧ va_D (fun _ => True) [(h0, .inr (5, [.ref qT, .int 0, .ref qF, .int 0, .int 0, .int ((-1)), .int 0, .ref qN, .int 0, .ref qR, .int 0, .int 0, .ref qC])), (qT, .inl (cT, 1000, .inl (f)))])) (va_Qv (fun (_ : Unit) => True) (fun _ t => ∃ (f2 : Nat → Int32), va_P (dC, dI) vwCl [(h0, .inr (5, [.ref qT, .int 4, .ref qF, .int 0, .int 0, .int ((-1)), .int 0, .ref qN, .int 0, .ref qR, .int 0, .int 0, .ref qC])), (qT, .inl (cT, 1000, .inl (f2)))] t.heap ∧ va_K (dC, dI) vwCl [(cT, .byte)] t ∧ va_D (va_A [(h0, .inr (5, [.ref qT, .int 0, .ref qF, .int 0, .int 0, .int ((-1)), .int 0, .ref qN, .int 0, .ref qR, .int 0, .int 0, .ref qC])), (qT, .inl (cT, 1000, .inl (f)))] sz) [(h0, .inr (5, [.ref qT, .int 4, .ref qF, .int 0, .int 0, .int ((-1)), .int 0, .ref qN, .int 0, .ref qR, .int 0, .int 0, .ref qC])), (qT, .inl (cT, 1000, .inl (f2)))]) (va_A [(h0, .inr (5, [.ref qT, .int 0, .ref qF, .int 0, .int 0, .int ((-1)), .int 0, .ref qN, .int 0, .ref qR, .int 0, .int 0, .ref qC])), (qT, .inl (cT, 1000, .inl (f)))] sz)) 0 0 (va_A [(h0, .inr (5, [.ref qT, .int 0, .ref qF, .int 0, .int 0, .int ((-1)), .int 0, .ref qN, .int 0, .ref qR, .int 0, .int 0, .ref qC])), (qT, .inl (cT, 1000, .inl (f)))] sz) := by
  refine Met.ofW (cc := cX5_putOnTape) (maxL := 3) (ret := none) (by decide) rfl ?_
  intro p e s m args below meth c s₁ B hml hv
  obtain ⟨rfl, hsz, hP, hK, hD0⟩ := hv
  have hx := B.exec
  have hb := B.bytes
  have hr := B.returns
  have hts := atoms_spec (ws := wX5_putOnTape_0) B.pre
  have hown : s.vm.findClass RX5 = some m.cls := findClass_of_methodNamed B.named
  have hlocks := B.notSynchronized
  have hin5 : ∀ w ∈ wsX50, w ∈ wX5_putOnTape_0 := by decide +kernel
  subst hsz
  have hD := hD0.self (sz := s.heap.size)
  generalize hAe : va_A [(h0, .inr (5, [.ref qT, .int 0, .ref qF, .int 0, .int 0, .int ((-1)), .int 0, .ref qN, .int 0, .ref qR, .int 0, .int 0, .ref qC])), (qT, .inl (cT, 1000, .inl (f)))] s.heap.size = A at hD ⊢
  have hA : ∀ q : Nat, s.heap.size ≤ q → A q := fun q h => by rw [← hAe]; exact Or.inr h
  have hS : va_S A s.heap s.heap [] := va_S.rf
  have hP : va_P (dC, dI) vwCl [(h0, .inr (5, [.ref qT, .int 0, .ref qF, .int 0, .int 0, .int ((-1)), .int 0, .ref qN, .int 0, .ref qR, .int 0, .int 0, .ref qC])), (qT, .inl (cT, 1000, .inl (f)))] s.heap := hP
  have hl := lv_entry ([.ref h0, .int p0]) (n := 3) (Nat.le_of_ble_eq_true rfl)
  rw [lg_entry_eq]
  generalize (lg_sl ([.ref h0, .int p0]) ++ List.replicate (3 - (lg_sl ([.ref h0, .int p0])).length) Slot.unset).toArray = ls at hl ⊢
  have hl : lv_has ls 3 [(0, .ref h0), (1, .int p0)] := hl
  refine lv_bipush (v := 24) hx hb dX5_putOnTape_0 (by decide) ?_
  refine lv_istore_n (lv' := [(2, .int 24), (0, .ref h0), (1, .int p0)]) hx hb dX5_putOnTape_2 rfl hl (by decide) rfl (fun ls hl => ?_)
  refine lv_iload_n hx hb dX5_putOnTape_3 rfl (lv_at hl 0 rfl) ?_
  refine lv_if_lt (tgt := 46) hx hb dX5_putOnTape_4 (by decide) (fun c_1 => absurd c_1 (by decide)) (fun c_1 => ?_)
  refine lv_aload_n hx hb dX5_putOnTape_7 rfl (lv_at hl 1 rfl) ?_
  refine va_get (D := (dC, dI)) (ci := 5) (v := .int 0) (C := RX5) (T := TX5) (N := 13) hx hb hts hin5 hown hK hP 0 rfl rfl 1 (by decide) (hts (.fieldLink RX5 36 "SkiShots" "tapeLength" "I") (by decide +kernel)) (fun _ h9 => h9) rfl dX5_putOnTape_8 ?_
  refine lv_sipush (v := 1000) hx hb dX5_putOnTape_11 (by decide) ?_
  refine lv_icmp_ge (tgt := 46) hx hb dX5_putOnTape_14 (by decide) (fun c_2 => absurd c_2 (by decide)) (fun c_2 => ?_)
  refine lv_aload_n hx hb dX5_putOnTape_17 rfl (lv_at hl 1 rfl) ?_
  refine va_get (D := (dC, dI)) (ci := 5) (v := .ref qT) (C := RX5) (T := TX5) (N := 13) hx hb hts hin5 hown hK hP 0 rfl rfl 0 (by decide) (hts (.fieldLink RX5 9 "SkiShots" "tape" "[B") (by decide +kernel)) (fun _ h9 => h9) rfl dX5_putOnTape_18 ?_
  refine lv_aload_n hx hb dX5_putOnTape_21 rfl (lv_at hl 1 rfl) ?_
  refine va_get (D := (dC, dI)) (ci := 5) (v := .int 0) (C := RX5) (T := TX5) (N := 13) hx hb hts hin5 hown hK hP 0 rfl rfl 1 (by decide) (hts (.fieldLink RX5 36 "SkiShots" "tapeLength" "I") (by decide +kernel)) (fun _ h9 => h9) rfl dX5_putOnTape_22 ?_
  refine lv_iload_n hx hb dX5_putOnTape_25 rfl (lv_at hl 2 rfl) ?_
  refine lv_iload_n hx hb dX5_putOnTape_26 rfl (lv_at hl 0 rfl) ?_
  refine lv_ishr hx hb dX5_putOnTape_27 ?_
  refine lv_i2b hx hb dX5_putOnTape_28 rfl ?_
  refine va_bast hx hb hK hP hD hS 1 0 rfl rfl (by unfold vp_in; decide) dX5_putOnTape_29 (fun H locs hP hD hS => ?_)
  obtain ⟨f_3, ef_3⟩ : ∃ g : Nat → Int32, g = upd (f) (Int32.toNatClampNeg 0) (vp_nar .byte ((p0 >>> (24 &&& 31)).toInt8.toInt32)) := ⟨_, rfl⟩
  have hP : va_P (dC, dI) vwCl [(h0, .inr (5, [.ref qT, .int 0, .ref qF, .int 0, .int 0, .int ((-1)), .int 0, .ref qN, .int 0, .ref qR, .int 0, .int 0, .ref qC])), (qT, .inl (cT, 1000, .inl (f_3)))] H := by rw [ef_3]; exact hP
  have hD : va_D A [(h0, .inr (5, [.ref qT, .int 0, .ref qF, .int 0, .int 0, .int ((-1)), .int 0, .ref qN, .int 0, .ref qR, .int 0, .int 0, .ref qC])), (qT, .inl (cT, 1000, .inl (f_3)))] := by rw [ef_3]; exact hD
  refine lv_aload_n hx hb dX5_putOnTape_30 rfl (lv_at hl 1 rfl) ?_
  refine lv_dup hx hb dX5_putOnTape_31 rfl ?_
  refine va_get (D := (dC, dI)) (ci := 5) (v := .int 0) (C := RX5) (T := TX5) (N := 13) hx hb hts hin5 hown hK hP 0 rfl rfl 1 (by decide) (hts (.fieldLink RX5 36 "SkiShots" "tapeLength" "I") (by decide +kernel)) (fun _ h9 => h9) rfl dX5_putOnTape_32 ?_
  refine lv_iconst (v := 1) hx hb dX5_putOnTape_35 (by decide) ?_
  refine lv_iadd hx hb dX5_putOnTape_36 ?_
  rw [show (0 + 1 : Int32) = 1 from by decide]
  refine va_put (D := (dC, dI)) (ci := 5) (v := .int 1) (ty := .int) (C := RX5) (T := TX5) (N := 13) hx hb hts hin5 tyX5 tyX5_ok nmX5 hown hK hP hD hS 0 rfl rfl 1 (by decide) (hts (.fieldLink RX5 36 "SkiShots" "tapeLength" "I") (by decide +kernel)) (fun _ h9 => h9) rfl (by decide +kernel) rfl rfl (Nat.le_of_ble_eq_true rfl) dX5_putOnTape_37 (fun H locs hP hD hS => ?_)
  have hP : va_P (dC, dI) vwCl [(h0, .inr (5, [.ref qT, .int 1, .ref qF, .int 0, .int 0, .int ((-1)), .int 0, .ref qN, .int 0, .ref qR, .int 0, .int 0, .ref qC])), (qT, .inl (cT, 1000, .inl (f_3)))] H := hP
  have hD : va_D A [(h0, .inr (5, [.ref qT, .int 1, .ref qF, .int 0, .int 0, .int ((-1)), .int 0, .ref qN, .int 0, .ref qR, .int 0, .int 0, .ref qC])), (qT, .inl (cT, 1000, .inl (f_3)))] := hD
  refine lv_iinc (v := 16) (lv' := [(2, .int 16), (0, .ref h0), (1, .int p0)]) hx hb dX5_putOnTape_40 hl (k := 0) rfl (by decide) (by decide) rfl (fun ls hl => ?_)
  refine lv_goto (tgt := 3) hx hb dX5_putOnTape_43 (by decide) ?_
  refine lv_iload_n hx hb dX5_putOnTape_3 rfl (lv_at hl 0 rfl) ?_
  refine lv_if_lt (tgt := 46) hx hb dX5_putOnTape_4 (by decide) (fun c_4 => absurd c_4 (by decide)) (fun c_4 => ?_)
  refine lv_aload_n hx hb dX5_putOnTape_7 rfl (lv_at hl 1 rfl) ?_
  refine va_get (D := (dC, dI)) (ci := 5) (v := .int 1) (C := RX5) (T := TX5) (N := 13) hx hb hts hin5 hown hK hP 0 rfl rfl 1 (by decide) (hts (.fieldLink RX5 36 "SkiShots" "tapeLength" "I") (by decide +kernel)) (fun _ h9 => h9) rfl dX5_putOnTape_8 ?_
  refine lv_sipush (v := 1000) hx hb dX5_putOnTape_11 (by decide) ?_
  refine lv_icmp_ge (tgt := 46) hx hb dX5_putOnTape_14 (by decide) (fun c_5 => absurd c_5 (by decide)) (fun c_5 => ?_)
  refine lv_aload_n hx hb dX5_putOnTape_17 rfl (lv_at hl 1 rfl) ?_
  refine va_get (D := (dC, dI)) (ci := 5) (v := .ref qT) (C := RX5) (T := TX5) (N := 13) hx hb hts hin5 hown hK hP 0 rfl rfl 0 (by decide) (hts (.fieldLink RX5 9 "SkiShots" "tape" "[B") (by decide +kernel)) (fun _ h9 => h9) rfl dX5_putOnTape_18 ?_
  refine lv_aload_n hx hb dX5_putOnTape_21 rfl (lv_at hl 1 rfl) ?_
  refine va_get (D := (dC, dI)) (ci := 5) (v := .int 1) (C := RX5) (T := TX5) (N := 13) hx hb hts hin5 hown hK hP 0 rfl rfl 1 (by decide) (hts (.fieldLink RX5 36 "SkiShots" "tapeLength" "I") (by decide +kernel)) (fun _ h9 => h9) rfl dX5_putOnTape_22 ?_
  refine lv_iload_n hx hb dX5_putOnTape_25 rfl (lv_at hl 2 rfl) ?_
  refine lv_iload_n hx hb dX5_putOnTape_26 rfl (lv_at hl 0 rfl) ?_
  refine lv_ishr hx hb dX5_putOnTape_27 ?_
  refine lv_i2b hx hb dX5_putOnTape_28 rfl ?_
  refine va_bast hx hb hK hP hD hS 1 0 rfl rfl (by unfold vp_in; decide) dX5_putOnTape_29 (fun H locs hP hD hS => ?_)
  obtain ⟨f_6, ef_6⟩ : ∃ g : Nat → Int32, g = upd (f_3) (Int32.toNatClampNeg 1) (vp_nar .byte ((p0 >>> (16 &&& 31)).toInt8.toInt32)) := ⟨_, rfl⟩
  have hP : va_P (dC, dI) vwCl [(h0, .inr (5, [.ref qT, .int 1, .ref qF, .int 0, .int 0, .int ((-1)), .int 0, .ref qN, .int 0, .ref qR, .int 0, .int 0, .ref qC])), (qT, .inl (cT, 1000, .inl (f_6)))] H := by rw [ef_6]; exact hP
  have hD : va_D A [(h0, .inr (5, [.ref qT, .int 1, .ref qF, .int 0, .int 0, .int ((-1)), .int 0, .ref qN, .int 0, .ref qR, .int 0, .int 0, .ref qC])), (qT, .inl (cT, 1000, .inl (f_6)))] := by rw [ef_6]; exact hD
  refine lv_aload_n hx hb dX5_putOnTape_30 rfl (lv_at hl 1 rfl) ?_
  refine lv_dup hx hb dX5_putOnTape_31 rfl ?_
  refine va_get (D := (dC, dI)) (ci := 5) (v := .int 1) (C := RX5) (T := TX5) (N := 13) hx hb hts hin5 hown hK hP 0 rfl rfl 1 (by decide) (hts (.fieldLink RX5 36 "SkiShots" "tapeLength" "I") (by decide +kernel)) (fun _ h9 => h9) rfl dX5_putOnTape_32 ?_
  refine lv_iconst (v := 1) hx hb dX5_putOnTape_35 (by decide) ?_
  refine lv_iadd hx hb dX5_putOnTape_36 ?_
  rw [show (1 + 1 : Int32) = 2 from by decide]
  refine va_put (D := (dC, dI)) (ci := 5) (v := .int 2) (ty := .int) (C := RX5) (T := TX5) (N := 13) hx hb hts hin5 tyX5 tyX5_ok nmX5 hown hK hP hD hS 0 rfl rfl 1 (by decide) (hts (.fieldLink RX5 36 "SkiShots" "tapeLength" "I") (by decide +kernel)) (fun _ h9 => h9) rfl (by decide +kernel) rfl rfl (Nat.le_of_ble_eq_true rfl) dX5_putOnTape_37 (fun H locs hP hD hS => ?_)
  have hP : va_P (dC, dI) vwCl [(h0, .inr (5, [.ref qT, .int 2, .ref qF, .int 0, .int 0, .int ((-1)), .int 0, .ref qN, .int 0, .ref qR, .int 0, .int 0, .ref qC])), (qT, .inl (cT, 1000, .inl (f_6)))] H := hP
  have hD : va_D A [(h0, .inr (5, [.ref qT, .int 2, .ref qF, .int 0, .int 0, .int ((-1)), .int 0, .ref qN, .int 0, .ref qR, .int 0, .int 0, .ref qC])), (qT, .inl (cT, 1000, .inl (f_6)))] := hD
  refine lv_iinc (v := 8) (lv' := [(2, .int 8), (0, .ref h0), (1, .int p0)]) hx hb dX5_putOnTape_40 hl (k := 0) rfl (by decide) (by decide) rfl (fun ls hl => ?_)
  refine lv_goto (tgt := 3) hx hb dX5_putOnTape_43 (by decide) ?_
  refine lv_iload_n hx hb dX5_putOnTape_3 rfl (lv_at hl 0 rfl) ?_
  refine lv_if_lt (tgt := 46) hx hb dX5_putOnTape_4 (by decide) (fun c_7 => absurd c_7 (by decide)) (fun c_7 => ?_)
  refine lv_aload_n hx hb dX5_putOnTape_7 rfl (lv_at hl 1 rfl) ?_
  refine va_get (D := (dC, dI)) (ci := 5) (v := .int 2) (C := RX5) (T := TX5) (N := 13) hx hb hts hin5 hown hK hP 0 rfl rfl 1 (by decide) (hts (.fieldLink RX5 36 "SkiShots" "tapeLength" "I") (by decide +kernel)) (fun _ h9 => h9) rfl dX5_putOnTape_8 ?_
  refine lv_sipush (v := 1000) hx hb dX5_putOnTape_11 (by decide) ?_
  refine lv_icmp_ge (tgt := 46) hx hb dX5_putOnTape_14 (by decide) (fun c_8 => absurd c_8 (by decide)) (fun c_8 => ?_)
  refine lv_aload_n hx hb dX5_putOnTape_17 rfl (lv_at hl 1 rfl) ?_
  refine va_get (D := (dC, dI)) (ci := 5) (v := .ref qT) (C := RX5) (T := TX5) (N := 13) hx hb hts hin5 hown hK hP 0 rfl rfl 0 (by decide) (hts (.fieldLink RX5 9 "SkiShots" "tape" "[B") (by decide +kernel)) (fun _ h9 => h9) rfl dX5_putOnTape_18 ?_
  refine lv_aload_n hx hb dX5_putOnTape_21 rfl (lv_at hl 1 rfl) ?_
  refine va_get (D := (dC, dI)) (ci := 5) (v := .int 2) (C := RX5) (T := TX5) (N := 13) hx hb hts hin5 hown hK hP 0 rfl rfl 1 (by decide) (hts (.fieldLink RX5 36 "SkiShots" "tapeLength" "I") (by decide +kernel)) (fun _ h9 => h9) rfl dX5_putOnTape_22 ?_
  refine lv_iload_n hx hb dX5_putOnTape_25 rfl (lv_at hl 2 rfl) ?_
  refine lv_iload_n hx hb dX5_putOnTape_26 rfl (lv_at hl 0 rfl) ?_
  refine lv_ishr hx hb dX5_putOnTape_27 ?_
  refine lv_i2b hx hb dX5_putOnTape_28 rfl ?_
  refine va_bast hx hb hK hP hD hS 1 0 rfl rfl (by unfold vp_in; decide) dX5_putOnTape_29 (fun H locs hP hD hS => ?_)
  obtain ⟨f_9, ef_9⟩ : ∃ g : Nat → Int32, g = upd (f_6) (Int32.toNatClampNeg 2) (vp_nar .byte ((p0 >>> (8 &&& 31)).toInt8.toInt32)) := ⟨_, rfl⟩
  have hP : va_P (dC, dI) vwCl [(h0, .inr (5, [.ref qT, .int 2, .ref qF, .int 0, .int 0, .int ((-1)), .int 0, .ref qN, .int 0, .ref qR, .int 0, .int 0, .ref qC])), (qT, .inl (cT, 1000, .inl (f_9)))] H := by rw [ef_9]; exact hP
  have hD : va_D A [(h0, .inr (5, [.ref qT, .int 2, .ref qF, .int 0, .int 0, .int ((-1)), .int 0, .ref qN, .int 0, .ref qR, .int 0, .int 0, .ref qC])), (qT, .inl (cT, 1000, .inl (f_9)))] := by rw [ef_9]; exact hD
  refine lv_aload_n hx hb dX5_putOnTape_30 rfl (lv_at hl 1 rfl) ?_
  refine lv_dup hx hb dX5_putOnTape_31 rfl ?_
  refine va_get (D := (dC, dI)) (ci := 5) (v := .int 2) (C := RX5) (T := TX5) (N := 13) hx hb hts hin5 hown hK hP 0 rfl rfl 1 (by decide) (hts (.fieldLink RX5 36 "SkiShots" "tapeLength" "I") (by decide +kernel)) (fun _ h9 => h9) rfl dX5_putOnTape_32 ?_
  refine lv_iconst (v := 1) hx hb dX5_putOnTape_35 (by decide) ?_
  refine lv_iadd hx hb dX5_putOnTape_36 ?_
  rw [show (2 + 1 : Int32) = 3 from by decide]
  refine va_put (D := (dC, dI)) (ci := 5) (v := .int 3) (ty := .int) (C := RX5) (T := TX5) (N := 13) hx hb hts hin5 tyX5 tyX5_ok nmX5 hown hK hP hD hS 0 rfl rfl 1 (by decide) (hts (.fieldLink RX5 36 "SkiShots" "tapeLength" "I") (by decide +kernel)) (fun _ h9 => h9) rfl (by decide +kernel) rfl rfl (Nat.le_of_ble_eq_true rfl) dX5_putOnTape_37 (fun H locs hP hD hS => ?_)
  have hP : va_P (dC, dI) vwCl [(h0, .inr (5, [.ref qT, .int 3, .ref qF, .int 0, .int 0, .int ((-1)), .int 0, .ref qN, .int 0, .ref qR, .int 0, .int 0, .ref qC])), (qT, .inl (cT, 1000, .inl (f_9)))] H := hP
  have hD : va_D A [(h0, .inr (5, [.ref qT, .int 3, .ref qF, .int 0, .int 0, .int ((-1)), .int 0, .ref qN, .int 0, .ref qR, .int 0, .int 0, .ref qC])), (qT, .inl (cT, 1000, .inl (f_9)))] := hD
  refine lv_iinc (v := 0) (lv' := [(2, .int 0), (0, .ref h0), (1, .int p0)]) hx hb dX5_putOnTape_40 hl (k := 0) rfl (by decide) (by decide) rfl (fun ls hl => ?_)
  refine lv_goto (tgt := 3) hx hb dX5_putOnTape_43 (by decide) ?_
  refine lv_iload_n hx hb dX5_putOnTape_3 rfl (lv_at hl 0 rfl) ?_
  refine lv_if_lt (tgt := 46) hx hb dX5_putOnTape_4 (by decide) (fun c_10 => absurd c_10 (by decide)) (fun c_10 => ?_)
  refine lv_aload_n hx hb dX5_putOnTape_7 rfl (lv_at hl 1 rfl) ?_
  refine va_get (D := (dC, dI)) (ci := 5) (v := .int 3) (C := RX5) (T := TX5) (N := 13) hx hb hts hin5 hown hK hP 0 rfl rfl 1 (by decide) (hts (.fieldLink RX5 36 "SkiShots" "tapeLength" "I") (by decide +kernel)) (fun _ h9 => h9) rfl dX5_putOnTape_8 ?_
  refine lv_sipush (v := 1000) hx hb dX5_putOnTape_11 (by decide) ?_
  refine lv_icmp_ge (tgt := 46) hx hb dX5_putOnTape_14 (by decide) (fun c_11 => absurd c_11 (by decide)) (fun c_11 => ?_)
  refine lv_aload_n hx hb dX5_putOnTape_17 rfl (lv_at hl 1 rfl) ?_
  refine va_get (D := (dC, dI)) (ci := 5) (v := .ref qT) (C := RX5) (T := TX5) (N := 13) hx hb hts hin5 hown hK hP 0 rfl rfl 0 (by decide) (hts (.fieldLink RX5 9 "SkiShots" "tape" "[B") (by decide +kernel)) (fun _ h9 => h9) rfl dX5_putOnTape_18 ?_
  refine lv_aload_n hx hb dX5_putOnTape_21 rfl (lv_at hl 1 rfl) ?_
  refine va_get (D := (dC, dI)) (ci := 5) (v := .int 3) (C := RX5) (T := TX5) (N := 13) hx hb hts hin5 hown hK hP 0 rfl rfl 1 (by decide) (hts (.fieldLink RX5 36 "SkiShots" "tapeLength" "I") (by decide +kernel)) (fun _ h9 => h9) rfl dX5_putOnTape_22 ?_
  refine lv_iload_n hx hb dX5_putOnTape_25 rfl (lv_at hl 2 rfl) ?_
  refine lv_iload_n hx hb dX5_putOnTape_26 rfl (lv_at hl 0 rfl) ?_
  refine lv_ishr hx hb dX5_putOnTape_27 ?_
  refine lv_i2b hx hb dX5_putOnTape_28 rfl ?_
  refine va_bast hx hb hK hP hD hS 1 0 rfl rfl (by unfold vp_in; decide) dX5_putOnTape_29 (fun H locs hP hD hS => ?_)
  obtain ⟨f_12, ef_12⟩ : ∃ g : Nat → Int32, g = upd (f_9) (Int32.toNatClampNeg 3) (vp_nar .byte ((p0 >>> (0 &&& 31)).toInt8.toInt32)) := ⟨_, rfl⟩
  have hP : va_P (dC, dI) vwCl [(h0, .inr (5, [.ref qT, .int 3, .ref qF, .int 0, .int 0, .int ((-1)), .int 0, .ref qN, .int 0, .ref qR, .int 0, .int 0, .ref qC])), (qT, .inl (cT, 1000, .inl (f_12)))] H := by rw [ef_12]; exact hP
  have hD : va_D A [(h0, .inr (5, [.ref qT, .int 3, .ref qF, .int 0, .int 0, .int ((-1)), .int 0, .ref qN, .int 0, .ref qR, .int 0, .int 0, .ref qC])), (qT, .inl (cT, 1000, .inl (f_12)))] := by rw [ef_12]; exact hD
  refine lv_aload_n hx hb dX5_putOnTape_30 rfl (lv_at hl 1 rfl) ?_
  refine lv_dup hx hb dX5_putOnTape_31 rfl ?_
  refine va_get (D := (dC, dI)) (ci := 5) (v := .int 3) (C := RX5) (T := TX5) (N := 13) hx hb hts hin5 hown hK hP 0 rfl rfl 1 (by decide) (hts (.fieldLink RX5 36 "SkiShots" "tapeLength" "I") (by decide +kernel)) (fun _ h9 => h9) rfl dX5_putOnTape_32 ?_
  refine lv_iconst (v := 1) hx hb dX5_putOnTape_35 (by decide) ?_
  refine lv_iadd hx hb dX5_putOnTape_36 ?_
  rw [show (3 + 1 : Int32) = 4 from by decide]
  refine va_put (D := (dC, dI)) (ci := 5) (v := .int 4) (ty := .int) (C := RX5) (T := TX5) (N := 13) hx hb hts hin5 tyX5 tyX5_ok nmX5 hown hK hP hD hS 0 rfl rfl 1 (by decide) (hts (.fieldLink RX5 36 "SkiShots" "tapeLength" "I") (by decide +kernel)) (fun _ h9 => h9) rfl (by decide +kernel) rfl rfl (Nat.le_of_ble_eq_true rfl) dX5_putOnTape_37 (fun H locs hP hD hS => ?_)
  have hP : va_P (dC, dI) vwCl [(h0, .inr (5, [.ref qT, .int 4, .ref qF, .int 0, .int 0, .int ((-1)), .int 0, .ref qN, .int 0, .ref qR, .int 0, .int 0, .ref qC])), (qT, .inl (cT, 1000, .inl (f_12)))] H := hP
  have hD : va_D A [(h0, .inr (5, [.ref qT, .int 4, .ref qF, .int 0, .int 0, .int ((-1)), .int 0, .ref qN, .int 0, .ref qR, .int 0, .int 0, .ref qC])), (qT, .inl (cT, 1000, .inl (f_12)))] := hD
  refine lv_iinc (v := (-8)) (lv' := [(2, .int ((-8))), (0, .ref h0), (1, .int p0)]) hx hb dX5_putOnTape_40 hl (k := 0) rfl (by decide) (by decide) rfl (fun ls hl => ?_)
  refine lv_goto (tgt := 3) hx hb dX5_putOnTape_43 (by decide) ?_
  refine lv_iload_n hx hb dX5_putOnTape_3 rfl (lv_at hl 0 rfl) ?_
  refine lv_if_lt (tgt := 46) hx hb dX5_putOnTape_4 (by decide) (fun c_13 => ?_) (fun c_13 => absurd (by decide) c_13)
  have hP9 := hP.sub (ws' := [(h0, .inr (5, [.ref qT, .int 4, .ref qF, .int 0, .int 0, .int ((-1)), .int 0, .ref qN, .int 0, .ref qR, .int 0, .int 0, .ref qC])), (qT, .inl (cT, 1000, .inl (f_12)))]) [0, 1] rfl
  have hD9 := hD.sub (ws' := [(h0, .inr (5, [.ref qT, .int 4, .ref qF, .int 0, .int 0, .int ((-1)), .int 0, .ref qN, .int 0, .ref qR, .int 0, .int 0, .ref qC])), (qT, .inl (cT, 1000, .inl (f_12)))]) [0, 1] (by decide) rfl
  have hK9 := hK.sub (tys' := [(cT, .byte)]) [0] rfl
  exact W.vret hx hb hr (fun t ht hW => ⟨⟨(), rfl, trivial, f_12, by rw [ht]; exact hP9, va_K.moved hW.alike hK9, hD9⟩, hS.F ht⟩) hS.2.2 dX5_putOnTape_46
def wX5_putOnTape_4 : List Cond := .code yX5_putOnTape cX5_putOnTape 3 none :: ([.fieldLink RX5 36 "SkiShots" "tapeLength" "I", .fieldLink RX5 9 "SkiShots" "tape" "[B"] ++ wsX50)
set_option maxHeartbeats 4000000 in
set_option maxRecDepth 100000 in
theorem c_X5_putOnTape_4 (l : Launch) (dC : Nat → ClassId) (dI : Nat → Nat → Nat) (h0 : Nat) (qT : Nat) (qF : Nat) (qN : Nat) (qR : Nat) (qC : Nat) (cT : ClassId) (f : Nat → Int32) (p0 : Int32) (sz : Nat) : Met l yX5_putOnTape wX5_putOnTape_4 ({ frames := 0, cells := 0, slots := 0, locals := 0 }) (va_Pc [.ref h0, .int p0] (fun U => U.heap.size = sz ∧ va_P (dC, dI) vwCl [(h0, .inr (5, [.ref qT, .int 4, .ref qF, .int 0, .int 0, .int ((-1)), .int 0, .ref qN, .int 0, .ref qR, .int 0, .int 0, .ref qC])), (qT, .inl (cT, 1000, .inl (f)))] U.heap ∧ va_K (dC, dI) vwCl [(cT, .byte)] U ∧ va_D (fun _ => True) [(h0, .inr (5, [.ref qT, .int 4, .ref qF, .int 0, .int 0, .int ((-1)), .int 0, .ref qN, .int 0, .ref qR, .int 0, .int 0, .ref qC])), (qT, .inl (cT, 1000, .inl (f)))])) (va_Qv (fun (_ : Unit) => True) (fun _ t => ∃ (f2 : Nat → Int32), va_P (dC, dI) vwCl [(h0, .inr (5, [.ref qT, .int 8, .ref qF, .int 0, .int 0, .int ((-1)), .int 0, .ref qN, .int 0, .ref qR, .int 0, .int 0, .ref qC])), (qT, .inl (cT, 1000, .inl (f2)))] t.heap ∧ va_K (dC, dI) vwCl [(cT, .byte)] t ∧ va_D (va_A [(h0, .inr (5, [.ref qT, .int 4, .ref qF, .int 0, .int 0, .int ((-1)), .int 0, .ref qN, .int 0, .ref qR, .int 0, .int 0, .ref qC])), (qT, .inl (cT, 1000, .inl (f)))] sz) [(h0, .inr (5, [.ref qT, .int 8, .ref qF, .int 0, .int 0, .int ((-1)), .int 0, .ref qN, .int 0, .ref qR, .int 0, .int 0, .ref qC])), (qT, .inl (cT, 1000, .inl (f2)))]) (va_A [(h0, .inr (5, [.ref qT, .int 4, .ref qF, .int 0, .int 0, .int ((-1)), .int 0, .ref qN, .int 0, .ref qR, .int 0, .int 0, .ref qC])), (qT, .inl (cT, 1000, .inl (f)))] sz)) 0 0 (va_A [(h0, .inr (5, [.ref qT, .int 4, .ref qF, .int 0, .int 0, .int ((-1)), .int 0, .ref qN, .int 0, .ref qR, .int 0, .int 0, .ref qC])), (qT, .inl (cT, 1000, .inl (f)))] sz) := by
  refine Met.ofW (cc := cX5_putOnTape) (maxL := 3) (ret := none) (by decide) rfl ?_
  intro p e s m args below meth c s₁ B hml hv
  obtain ⟨rfl, hsz, hP, hK, hD0⟩ := hv
  have hx := B.exec
  have hb := B.bytes
  have hr := B.returns
  have hts := atoms_spec (ws := wX5_putOnTape_4) B.pre
  have hown : s.vm.findClass RX5 = some m.cls := findClass_of_methodNamed B.named
  have hlocks := B.notSynchronized
  have hin5 : ∀ w ∈ wsX50, w ∈ wX5_putOnTape_4 := by decide +kernel
  subst hsz
  have hD := hD0.self (sz := s.heap.size)
  generalize hAe : va_A [(h0, .inr (5, [.ref qT, .int 4, .ref qF, .int 0, .int 0, .int ((-1)), .int 0, .ref qN, .int 0, .ref qR, .int 0, .int 0, .ref qC])), (qT, .inl (cT, 1000, .inl (f)))] s.heap.size = A at hD ⊢
  have hA : ∀ q : Nat, s.heap.size ≤ q → A q := fun q h => by rw [← hAe]; exact Or.inr h
  have hS : va_S A s.heap s.heap [] := va_S.rf
  have hP : va_P (dC, dI) vwCl [(h0, .inr (5, [.ref qT, .int 4, .ref qF, .int 0, .int 0, .int ((-1)), .int 0, .ref qN, .int 0, .ref qR, .int 0, .int 0, .ref qC])), (qT, .inl (cT, 1000, .inl (f)))] s.heap := hP
  have hl := lv_entry ([.ref h0, .int p0]) (n := 3) (Nat.le_of_ble_eq_true rfl)
  rw [lg_entry_eq]
  generalize (lg_sl ([.ref h0, .int p0]) ++ List.replicate (3 - (lg_sl ([.ref h0, .int p0])).length) Slot.unset).toArray = ls at hl ⊢
  have hl : lv_has ls 3 [(0, .ref h0), (1, .int p0)] := hl
  refine lv_bipush (v := 24) hx hb dX5_putOnTape_0 (by decide) ?_
  refine lv_istore_n (lv' := [(2, .int 24), (0, .ref h0), (1, .int p0)]) hx hb dX5_putOnTape_2 rfl hl (by decide) rfl (fun ls hl => ?_)
  refine lv_iload_n hx hb dX5_putOnTape_3 rfl (lv_at hl 0 rfl) ?_
  refine lv_if_lt (tgt := 46) hx hb dX5_putOnTape_4 (by decide) (fun c_1 => absurd c_1 (by decide)) (fun c_1 => ?_)
  refine lv_aload_n hx hb dX5_putOnTape_7 rfl (lv_at hl 1 rfl) ?_
  refine va_get (D := (dC, dI)) (ci := 5) (v := .int 4) (C := RX5) (T := TX5) (N := 13) hx hb hts hin5 hown hK hP 0 rfl rfl 1 (by decide) (hts (.fieldLink RX5 36 "SkiShots" "tapeLength" "I") (by decide +kernel)) (fun _ h9 => h9) rfl dX5_putOnTape_8 ?_
  refine lv_sipush (v := 1000) hx hb dX5_putOnTape_11 (by decide) ?_
  refine lv_icmp_ge (tgt := 46) hx hb dX5_putOnTape_14 (by decide) (fun c_2 => absurd c_2 (by decide)) (fun c_2 => ?_)
  refine lv_aload_n hx hb dX5_putOnTape_17 rfl (lv_at hl 1 rfl) ?_
  refine va_get (D := (dC, dI)) (ci := 5) (v := .ref qT) (C := RX5) (T := TX5) (N := 13) hx hb hts hin5 hown hK hP 0 rfl rfl 0 (by decide) (hts (.fieldLink RX5 9 "SkiShots" "tape" "[B") (by decide +kernel)) (fun _ h9 => h9) rfl dX5_putOnTape_18 ?_
  refine lv_aload_n hx hb dX5_putOnTape_21 rfl (lv_at hl 1 rfl) ?_
  refine va_get (D := (dC, dI)) (ci := 5) (v := .int 4) (C := RX5) (T := TX5) (N := 13) hx hb hts hin5 hown hK hP 0 rfl rfl 1 (by decide) (hts (.fieldLink RX5 36 "SkiShots" "tapeLength" "I") (by decide +kernel)) (fun _ h9 => h9) rfl dX5_putOnTape_22 ?_
  refine lv_iload_n hx hb dX5_putOnTape_25 rfl (lv_at hl 2 rfl) ?_
  refine lv_iload_n hx hb dX5_putOnTape_26 rfl (lv_at hl 0 rfl) ?_
  refine lv_ishr hx hb dX5_putOnTape_27 ?_
  refine lv_i2b hx hb dX5_putOnTape_28 rfl ?_
  refine va_bast hx hb hK hP hD hS 1 0 rfl rfl (by unfold vp_in; decide) dX5_putOnTape_29 (fun H locs hP hD hS => ?_)
  obtain ⟨f_3, ef_3⟩ : ∃ g : Nat → Int32, g = upd (f) (Int32.toNatClampNeg 4) (vp_nar .byte ((p0 >>> (24 &&& 31)).toInt8.toInt32)) := ⟨_, rfl⟩
  have hP : va_P (dC, dI) vwCl [(h0, .inr (5, [.ref qT, .int 4, .ref qF, .int 0, .int 0, .int ((-1)), .int 0, .ref qN, .int 0, .ref qR, .int 0, .int 0, .ref qC])), (qT, .inl (cT, 1000, .inl (f_3)))] H := by rw [ef_3]; exact hP
  have hD : va_D A [(h0, .inr (5, [.ref qT, .int 4, .ref qF, .int 0, .int 0, .int ((-1)), .int 0, .ref qN, .int 0, .ref qR, .int 0, .int 0, .ref qC])), (qT, .inl (cT, 1000, .inl (f_3)))] := by rw [ef_3]; exact hD
  refine lv_aload_n hx hb dX5_putOnTape_30 rfl (lv_at hl 1 rfl) ?_
  refine lv_dup hx hb dX5_putOnTape_31 rfl ?_
  refine va_get (D := (dC, dI)) (ci := 5) (v := .int 4) (C := RX5) (T := TX5) (N := 13) hx hb hts hin5 hown hK hP 0 rfl rfl 1 (by decide) (hts (.fieldLink RX5 36 "SkiShots" "tapeLength" "I") (by decide +kernel)) (fun _ h9 => h9) rfl dX5_putOnTape_32 ?_
  refine lv_iconst (v := 1) hx hb dX5_putOnTape_35 (by decide) ?_
  refine lv_iadd hx hb dX5_putOnTape_36 ?_
  rw [show (4 + 1 : Int32) = 5 from by decide]
  refine va_put (D := (dC, dI)) (ci := 5) (v := .int 5) (ty := .int) (C := RX5) (T := TX5) (N := 13) hx hb hts hin5 tyX5 tyX5_ok nmX5 hown hK hP hD hS 0 rfl rfl 1 (by decide) (hts (.fieldLink RX5 36 "SkiShots" "tapeLength" "I") (by decide +kernel)) (fun _ h9 => h9) rfl (by decide +kernel) rfl rfl (Nat.le_of_ble_eq_true rfl) dX5_putOnTape_37 (fun H locs hP hD hS => ?_)
  have hP : va_P (dC, dI) vwCl [(h0, .inr (5, [.ref qT, .int 5, .ref qF, .int 0, .int 0, .int ((-1)), .int 0, .ref qN, .int 0, .ref qR, .int 0, .int 0, .ref qC])), (qT, .inl (cT, 1000, .inl (f_3)))] H := hP
  have hD : va_D A [(h0, .inr (5, [.ref qT, .int 5, .ref qF, .int 0, .int 0, .int ((-1)), .int 0, .ref qN, .int 0, .ref qR, .int 0, .int 0, .ref qC])), (qT, .inl (cT, 1000, .inl (f_3)))] := hD
  refine lv_iinc (v := 16) (lv' := [(2, .int 16), (0, .ref h0), (1, .int p0)]) hx hb dX5_putOnTape_40 hl (k := 0) rfl (by decide) (by decide) rfl (fun ls hl => ?_)
  refine lv_goto (tgt := 3) hx hb dX5_putOnTape_43 (by decide) ?_
  refine lv_iload_n hx hb dX5_putOnTape_3 rfl (lv_at hl 0 rfl) ?_
  refine lv_if_lt (tgt := 46) hx hb dX5_putOnTape_4 (by decide) (fun c_4 => absurd c_4 (by decide)) (fun c_4 => ?_)
  refine lv_aload_n hx hb dX5_putOnTape_7 rfl (lv_at hl 1 rfl) ?_
  refine va_get (D := (dC, dI)) (ci := 5) (v := .int 5) (C := RX5) (T := TX5) (N := 13) hx hb hts hin5 hown hK hP 0 rfl rfl 1 (by decide) (hts (.fieldLink RX5 36 "SkiShots" "tapeLength" "I") (by decide +kernel)) (fun _ h9 => h9) rfl dX5_putOnTape_8 ?_
  refine lv_sipush (v := 1000) hx hb dX5_putOnTape_11 (by decide) ?_
  refine lv_icmp_ge (tgt := 46) hx hb dX5_putOnTape_14 (by decide) (fun c_5 => absurd c_5 (by decide)) (fun c_5 => ?_)
  refine lv_aload_n hx hb dX5_putOnTape_17 rfl (lv_at hl 1 rfl) ?_
  refine va_get (D := (dC, dI)) (ci := 5) (v := .ref qT) (C := RX5) (T := TX5) (N := 13) hx hb hts hin5 hown hK hP 0 rfl rfl 0 (by decide) (hts (.fieldLink RX5 9 "SkiShots" "tape" "[B") (by decide +kernel)) (fun _ h9 => h9) rfl dX5_putOnTape_18 ?_
  refine lv_aload_n hx hb dX5_putOnTape_21 rfl (lv_at hl 1 rfl) ?_
  refine va_get (D := (dC, dI)) (ci := 5) (v := .int 5) (C := RX5) (T := TX5) (N := 13) hx hb hts hin5 hown hK hP 0 rfl rfl 1 (by decide) (hts (.fieldLink RX5 36 "SkiShots" "tapeLength" "I") (by decide +kernel)) (fun _ h9 => h9) rfl dX5_putOnTape_22 ?_
  refine lv_iload_n hx hb dX5_putOnTape_25 rfl (lv_at hl 2 rfl) ?_
  refine lv_iload_n hx hb dX5_putOnTape_26 rfl (lv_at hl 0 rfl) ?_
  refine lv_ishr hx hb dX5_putOnTape_27 ?_
  refine lv_i2b hx hb dX5_putOnTape_28 rfl ?_
  refine va_bast hx hb hK hP hD hS 1 0 rfl rfl (by unfold vp_in; decide) dX5_putOnTape_29 (fun H locs hP hD hS => ?_)
  obtain ⟨f_6, ef_6⟩ : ∃ g : Nat → Int32, g = upd (f_3) (Int32.toNatClampNeg 5) (vp_nar .byte ((p0 >>> (16 &&& 31)).toInt8.toInt32)) := ⟨_, rfl⟩
  have hP : va_P (dC, dI) vwCl [(h0, .inr (5, [.ref qT, .int 5, .ref qF, .int 0, .int 0, .int ((-1)), .int 0, .ref qN, .int 0, .ref qR, .int 0, .int 0, .ref qC])), (qT, .inl (cT, 1000, .inl (f_6)))] H := by rw [ef_6]; exact hP
  have hD : va_D A [(h0, .inr (5, [.ref qT, .int 5, .ref qF, .int 0, .int 0, .int ((-1)), .int 0, .ref qN, .int 0, .ref qR, .int 0, .int 0, .ref qC])), (qT, .inl (cT, 1000, .inl (f_6)))] := by rw [ef_6]; exact hD
  refine lv_aload_n hx hb dX5_putOnTape_30 rfl (lv_at hl 1 rfl) ?_
  refine lv_dup hx hb dX5_putOnTape_31 rfl ?_
  refine va_get (D := (dC, dI)) (ci := 5) (v := .int 5) (C := RX5) (T := TX5) (N := 13) hx hb hts hin5 hown hK hP 0 rfl rfl 1 (by decide) (hts (.fieldLink RX5 36 "SkiShots" "tapeLength" "I") (by decide +kernel)) (fun _ h9 => h9) rfl dX5_putOnTape_32 ?_
  refine lv_iconst (v := 1) hx hb dX5_putOnTape_35 (by decide) ?_
  refine lv_iadd hx hb dX5_putOnTape_36 ?_
  rw [show (5 + 1 : Int32) = 6 from by decide]
  refine va_put (D := (dC, dI)) (ci := 5) (v := .int 6) (ty := .int) (C := RX5) (T := TX5) (N := 13) hx hb hts hin5 tyX5 tyX5_ok nmX5 hown hK hP hD hS 0 rfl rfl 1 (by decide) (hts (.fieldLink RX5 36 "SkiShots" "tapeLength" "I") (by decide +kernel)) (fun _ h9 => h9) rfl (by decide +kernel) rfl rfl (Nat.le_of_ble_eq_true rfl) dX5_putOnTape_37 (fun H locs hP hD hS => ?_)
  have hP : va_P (dC, dI) vwCl [(h0, .inr (5, [.ref qT, .int 6, .ref qF, .int 0, .int 0, .int ((-1)), .int 0, .ref qN, .int 0, .ref qR, .int 0, .int 0, .ref qC])), (qT, .inl (cT, 1000, .inl (f_6)))] H := hP
  have hD : va_D A [(h0, .inr (5, [.ref qT, .int 6, .ref qF, .int 0, .int 0, .int ((-1)), .int 0, .ref qN, .int 0, .ref qR, .int 0, .int 0, .ref qC])), (qT, .inl (cT, 1000, .inl (f_6)))] := hD
  refine lv_iinc (v := 8) (lv' := [(2, .int 8), (0, .ref h0), (1, .int p0)]) hx hb dX5_putOnTape_40 hl (k := 0) rfl (by decide) (by decide) rfl (fun ls hl => ?_)
  refine lv_goto (tgt := 3) hx hb dX5_putOnTape_43 (by decide) ?_
  refine lv_iload_n hx hb dX5_putOnTape_3 rfl (lv_at hl 0 rfl) ?_
  refine lv_if_lt (tgt := 46) hx hb dX5_putOnTape_4 (by decide) (fun c_7 => absurd c_7 (by decide)) (fun c_7 => ?_)
  refine lv_aload_n hx hb dX5_putOnTape_7 rfl (lv_at hl 1 rfl) ?_
  refine va_get (D := (dC, dI)) (ci := 5) (v := .int 6) (C := RX5) (T := TX5) (N := 13) hx hb hts hin5 hown hK hP 0 rfl rfl 1 (by decide) (hts (.fieldLink RX5 36 "SkiShots" "tapeLength" "I") (by decide +kernel)) (fun _ h9 => h9) rfl dX5_putOnTape_8 ?_
  refine lv_sipush (v := 1000) hx hb dX5_putOnTape_11 (by decide) ?_
  refine lv_icmp_ge (tgt := 46) hx hb dX5_putOnTape_14 (by decide) (fun c_8 => absurd c_8 (by decide)) (fun c_8 => ?_)
  refine lv_aload_n hx hb dX5_putOnTape_17 rfl (lv_at hl 1 rfl) ?_
  refine va_get (D := (dC, dI)) (ci := 5) (v := .ref qT) (C := RX5) (T := TX5) (N := 13) hx hb hts hin5 hown hK hP 0 rfl rfl 0 (by decide) (hts (.fieldLink RX5 9 "SkiShots" "tape" "[B") (by decide +kernel)) (fun _ h9 => h9) rfl dX5_putOnTape_18 ?_
  refine lv_aload_n hx hb dX5_putOnTape_21 rfl (lv_at hl 1 rfl) ?_
  refine va_get (D := (dC, dI)) (ci := 5) (v := .int 6) (C := RX5) (T := TX5) (N := 13) hx hb hts hin5 hown hK hP 0 rfl rfl 1 (by decide) (hts (.fieldLink RX5 36 "SkiShots" "tapeLength" "I") (by decide +kernel)) (fun _ h9 => h9) rfl dX5_putOnTape_22 ?_
  refine lv_iload_n hx hb dX5_putOnTape_25 rfl (lv_at hl 2 rfl) ?_
  refine lv_iload_n hx hb dX5_putOnTape_26 rfl (lv_at hl 0 rfl) ?_
  refine lv_ishr hx hb dX5_putOnTape_27 ?_
  refine lv_i2b hx hb dX5_putOnTape_28 rfl ?_
  refine va_bast hx hb hK hP hD hS 1 0 rfl rfl (by unfold vp_in; decide) dX5_putOnTape_29 (fun H locs hP hD hS => ?_)
  obtain ⟨f_9, ef_9⟩ : ∃ g : Nat → Int32, g = upd (f_6) (Int32.toNatClampNeg 6) (vp_nar .byte ((p0 >>> (8 &&& 31)).toInt8.toInt32)) := ⟨_, rfl⟩
  have hP : va_P (dC, dI) vwCl [(h0, .inr (5, [.ref qT, .int 6, .ref qF, .int 0, .int 0, .int ((-1)), .int 0, .ref qN, .int 0, .ref qR, .int 0, .int 0, .ref qC])), (qT, .inl (cT, 1000, .inl (f_9)))] H := by rw [ef_9]; exact hP
  have hD : va_D A [(h0, .inr (5, [.ref qT, .int 6, .ref qF, .int 0, .int 0, .int ((-1)), .int 0, .ref qN, .int 0, .ref qR, .int 0, .int 0, .ref qC])), (qT, .inl (cT, 1000, .inl (f_9)))] := by rw [ef_9]; exact hD
  refine lv_aload_n hx hb dX5_putOnTape_30 rfl (lv_at hl 1 rfl) ?_
  refine lv_dup hx hb dX5_putOnTape_31 rfl ?_
  refine va_get (D := (dC, dI)) (ci := 5) (v := .int 6) (C := RX5) (T := TX5) (N := 13) hx hb hts hin5 hown hK hP 0 rfl rfl 1 (by decide) (hts (.fieldLink RX5 36 "SkiShots" "tapeLength" "I") (by decide +kernel)) (fun _ h9 => h9) rfl dX5_putOnTape_32 ?_
  refine lv_iconst (v := 1) hx hb dX5_putOnTape_35 (by decide) ?_
  refine lv_iadd hx hb dX5_putOnTape_36 ?_
  rw [show (6 + 1 : Int32) = 7 from by decide]
  refine va_put (D := (dC, dI)) (ci := 5) (v := .int 7) (ty := .int) (C := RX5) (T := TX5) (N := 13) hx hb hts hin5 tyX5 tyX5_ok nmX5 hown hK hP hD hS 0 rfl rfl 1 (by decide) (hts (.fieldLink RX5 36 "SkiShots" "tapeLength" "I") (by decide +kernel)) (fun _ h9 => h9) rfl (by decide +kernel) rfl rfl (Nat.le_of_ble_eq_true rfl) dX5_putOnTape_37 (fun H locs hP hD hS => ?_)
  have hP : va_P (dC, dI) vwCl [(h0, .inr (5, [.ref qT, .int 7, .ref qF, .int 0, .int 0, .int ((-1)), .int 0, .ref qN, .int 0, .ref qR, .int 0, .int 0, .ref qC])), (qT, .inl (cT, 1000, .inl (f_9)))] H := hP
  have hD : va_D A [(h0, .inr (5, [.ref qT, .int 7, .ref qF, .int 0, .int 0, .int ((-1)), .int 0, .ref qN, .int 0, .ref qR, .int 0, .int 0, .ref qC])), (qT, .inl (cT, 1000, .inl (f_9)))] := hD
  refine lv_iinc (v := 0) (lv' := [(2, .int 0), (0, .ref h0), (1, .int p0)]) hx hb dX5_putOnTape_40 hl (k := 0) rfl (by decide) (by decide) rfl (fun ls hl => ?_)
  refine lv_goto (tgt := 3) hx hb dX5_putOnTape_43 (by decide) ?_
  refine lv_iload_n hx hb dX5_putOnTape_3 rfl (lv_at hl 0 rfl) ?_
  refine lv_if_lt (tgt := 46) hx hb dX5_putOnTape_4 (by decide) (fun c_10 => absurd c_10 (by decide)) (fun c_10 => ?_)
  refine lv_aload_n hx hb dX5_putOnTape_7 rfl (lv_at hl 1 rfl) ?_
  refine va_get (D := (dC, dI)) (ci := 5) (v := .int 7) (C := RX5) (T := TX5) (N := 13) hx hb hts hin5 hown hK hP 0 rfl rfl 1 (by decide) (hts (.fieldLink RX5 36 "SkiShots" "tapeLength" "I") (by decide +kernel)) (fun _ h9 => h9) rfl dX5_putOnTape_8 ?_
  refine lv_sipush (v := 1000) hx hb dX5_putOnTape_11 (by decide) ?_
  refine lv_icmp_ge (tgt := 46) hx hb dX5_putOnTape_14 (by decide) (fun c_11 => absurd c_11 (by decide)) (fun c_11 => ?_)
  refine lv_aload_n hx hb dX5_putOnTape_17 rfl (lv_at hl 1 rfl) ?_
  refine va_get (D := (dC, dI)) (ci := 5) (v := .ref qT) (C := RX5) (T := TX5) (N := 13) hx hb hts hin5 hown hK hP 0 rfl rfl 0 (by decide) (hts (.fieldLink RX5 9 "SkiShots" "tape" "[B") (by decide +kernel)) (fun _ h9 => h9) rfl dX5_putOnTape_18 ?_
  refine lv_aload_n hx hb dX5_putOnTape_21 rfl (lv_at hl 1 rfl) ?_
  refine va_get (D := (dC, dI)) (ci := 5) (v := .int 7) (C := RX5) (T := TX5) (N := 13) hx hb hts hin5 hown hK hP 0 rfl rfl 1 (by decide) (hts (.fieldLink RX5 36 "SkiShots" "tapeLength" "I") (by decide +kernel)) (fun _ h9 => h9) rfl dX5_putOnTape_22 ?_
  refine lv_iload_n hx hb dX5_putOnTape_25 rfl (lv_at hl 2 rfl) ?_
  refine lv_iload_n hx hb dX5_putOnTape_26 rfl (lv_at hl 0 rfl) ?_
  refine lv_ishr hx hb dX5_putOnTape_27 ?_
  refine lv_i2b hx hb dX5_putOnTape_28 rfl ?_
  refine va_bast hx hb hK hP hD hS 1 0 rfl rfl (by unfold vp_in; decide) dX5_putOnTape_29 (fun H locs hP hD hS => ?_)
  obtain ⟨f_12, ef_12⟩ : ∃ g : Nat → Int32, g = upd (f_9) (Int32.toNatClampNeg 7) (vp_nar .byte ((p0 >>> (0 &&& 31)).toInt8.toInt32)) := ⟨_, rfl⟩
  have hP : va_P (dC, dI) vwCl [(h0, .inr (5, [.ref qT, .int 7, .ref qF, .int 0, .int 0, .int ((-1)), .int 0, .ref qN, .int 0, .ref qR, .int 0, .int 0, .ref qC])), (qT, .inl (cT, 1000, .inl (f_12)))] H := by rw [ef_12]; exact hP
  have hD : va_D A [(h0, .inr (5, [.ref qT, .int 7, .ref qF, .int 0, .int 0, .int ((-1)), .int 0, .ref qN, .int 0, .ref qR, .int 0, .int 0, .ref qC])), (qT, .inl (cT, 1000, .inl (f_12)))] := by rw [ef_12]; exact hD
  refine lv_aload_n hx hb dX5_putOnTape_30 rfl (lv_at hl 1 rfl) ?_
  refine lv_dup hx hb dX5_putOnTape_31 rfl ?_
  refine va_get (D := (dC, dI)) (ci := 5) (v := .int 7) (C := RX5) (T := TX5) (N := 13) hx hb hts hin5 hown hK hP 0 rfl rfl 1 (by decide) (hts (.fieldLink RX5 36 "SkiShots" "tapeLength" "I") (by decide +kernel)) (fun _ h9 => h9) rfl dX5_putOnTape_32 ?_
  refine lv_iconst (v := 1) hx hb dX5_putOnTape_35 (by decide) ?_
  refine lv_iadd hx hb dX5_putOnTape_36 ?_
  rw [show (7 + 1 : Int32) = 8 from by decide]
  refine va_put (D := (dC, dI)) (ci := 5) (v := .int 8) (ty := .int) (C := RX5) (T := TX5) (N := 13) hx hb hts hin5 tyX5 tyX5_ok nmX5 hown hK hP hD hS 0 rfl rfl 1 (by decide) (hts (.fieldLink RX5 36 "SkiShots" "tapeLength" "I") (by decide +kernel)) (fun _ h9 => h9) rfl (by decide +kernel) rfl rfl (Nat.le_of_ble_eq_true rfl) dX5_putOnTape_37 (fun H locs hP hD hS => ?_)
  have hP : va_P (dC, dI) vwCl [(h0, .inr (5, [.ref qT, .int 8, .ref qF, .int 0, .int 0, .int ((-1)), .int 0, .ref qN, .int 0, .ref qR, .int 0, .int 0, .ref qC])), (qT, .inl (cT, 1000, .inl (f_12)))] H := hP
  have hD : va_D A [(h0, .inr (5, [.ref qT, .int 8, .ref qF, .int 0, .int 0, .int ((-1)), .int 0, .ref qN, .int 0, .ref qR, .int 0, .int 0, .ref qC])), (qT, .inl (cT, 1000, .inl (f_12)))] := hD
  refine lv_iinc (v := (-8)) (lv' := [(2, .int ((-8))), (0, .ref h0), (1, .int p0)]) hx hb dX5_putOnTape_40 hl (k := 0) rfl (by decide) (by decide) rfl (fun ls hl => ?_)
  refine lv_goto (tgt := 3) hx hb dX5_putOnTape_43 (by decide) ?_
  refine lv_iload_n hx hb dX5_putOnTape_3 rfl (lv_at hl 0 rfl) ?_
  refine lv_if_lt (tgt := 46) hx hb dX5_putOnTape_4 (by decide) (fun c_13 => ?_) (fun c_13 => absurd (by decide) c_13)
  have hP9 := hP.sub (ws' := [(h0, .inr (5, [.ref qT, .int 8, .ref qF, .int 0, .int 0, .int ((-1)), .int 0, .ref qN, .int 0, .ref qR, .int 0, .int 0, .ref qC])), (qT, .inl (cT, 1000, .inl (f_12)))]) [0, 1] rfl
  have hD9 := hD.sub (ws' := [(h0, .inr (5, [.ref qT, .int 8, .ref qF, .int 0, .int 0, .int ((-1)), .int 0, .ref qN, .int 0, .ref qR, .int 0, .int 0, .ref qC])), (qT, .inl (cT, 1000, .inl (f_12)))]) [0, 1] (by decide) rfl
  have hK9 := hK.sub (tys' := [(cT, .byte)]) [0] rfl
  exact W.vret hx hb hr (fun t ht hW => ⟨⟨(), rfl, trivial, f_12, by rw [ht]; exact hP9, va_K.moved hW.alike hK9, hD9⟩, hS.F ht⟩) hS.2.2 dX5_putOnTape_46
def wX5_putOnTape_8 : List Cond := .code yX5_putOnTape cX5_putOnTape 3 none :: ([.fieldLink RX5 36 "SkiShots" "tapeLength" "I", .fieldLink RX5 9 "SkiShots" "tape" "[B"] ++ wsX50)
set_option maxHeartbeats 4000000 in
set_option maxRecDepth 100000 in
theorem c_X5_putOnTape_8 (l : Launch) (dC : Nat → ClassId) (dI : Nat → Nat → Nat) (h0 : Nat) (qT : Nat) (qF : Nat) (qN : Nat) (qR : Nat) (qC : Nat) (cT : ClassId) (f : Nat → Int32) (p0 : Int32) (sz : Nat) : Met l yX5_putOnTape wX5_putOnTape_8 ({ frames := 0, cells := 0, slots := 0, locals := 0 }) (va_Pc [.ref h0, .int p0] (fun U => U.heap.size = sz ∧ va_P (dC, dI) vwCl [(h0, .inr (5, [.ref qT, .int 8, .ref qF, .int 0, .int 0, .int ((-1)), .int 0, .ref qN, .int 0, .ref qR, .int 0, .int 0, .ref qC])), (qT, .inl (cT, 1000, .inl (f)))] U.heap ∧ va_K (dC, dI) vwCl [(cT, .byte)] U ∧ va_D (fun _ => True) [(h0, .inr (5, [.ref qT, .int 8, .ref qF, .int 0, .int 0, .int ((-1)), .int 0, .ref qN, .int 0, .ref qR, .int 0, .int 0, .ref qC])), (qT, .inl (cT, 1000, .inl (f)))])) (va_Qv (fun (_ : Unit) => True) (fun _ t => ∃ (f2 : Nat → Int32), va_P (dC, dI) vwCl [(h0, .inr (5, [.ref qT, .int 12, .ref qF, .int 0, .int 0, .int ((-1)), .int 0, .ref qN, .int 0, .ref qR, .int 0, .int 0, .ref qC])), (qT, .inl (cT, 1000, .inl (f2)))] t.heap ∧ va_K (dC, dI) vwCl [(cT, .byte)] t ∧ va_D (va_A [(h0, .inr (5, [.ref qT, .int 8, .ref qF, .int 0, .int 0, .int ((-1)), .int 0, .ref qN, .int 0, .ref qR, .int 0, .int 0, .ref qC])), (qT, .inl (cT, 1000, .inl (f)))] sz) [(h0, .inr (5, [.ref qT, .int 12, .ref qF, .int 0, .int 0, .int ((-1)), .int 0, .ref qN, .int 0, .ref qR, .int 0, .int 0, .ref qC])), (qT, .inl (cT, 1000, .inl (f2)))]) (va_A [(h0, .inr (5, [.ref qT, .int 8, .ref qF, .int 0, .int 0, .int ((-1)), .int 0, .ref qN, .int 0, .ref qR, .int 0, .int 0, .ref qC])), (qT, .inl (cT, 1000, .inl (f)))] sz)) 0 0 (va_A [(h0, .inr (5, [.ref qT, .int 8, .ref qF, .int 0, .int 0, .int ((-1)), .int 0, .ref qN, .int 0, .ref qR, .int 0, .int 0, .ref qC])), (qT, .inl (cT, 1000, .inl (f)))] sz) := by
  refine Met.ofW (cc := cX5_putOnTape) (maxL := 3) (ret := none) (by decide) rfl ?_
  intro p e s m args below meth c s₁ B hml hv
  obtain ⟨rfl, hsz, hP, hK, hD0⟩ := hv
  have hx := B.exec
  have hb := B.bytes
  have hr := B.returns
  have hts := atoms_spec (ws := wX5_putOnTape_8) B.pre
  have hown : s.vm.findClass RX5 = some m.cls := findClass_of_methodNamed B.named
  have hlocks := B.notSynchronized
  have hin5 : ∀ w ∈ wsX50, w ∈ wX5_putOnTape_8 := by decide +kernel
  subst hsz
  have hD := hD0.self (sz := s.heap.size)
  generalize hAe : va_A [(h0, .inr (5, [.ref qT, .int 8, .ref qF, .int 0, .int 0, .int ((-1)), .int 0, .ref qN, .int 0, .ref qR, .int 0, .int 0, .ref qC])), (qT, .inl (cT, 1000, .inl (f)))] s.heap.size = A at hD ⊢
  have hA : ∀ q : Nat, s.heap.size ≤ q → A q := fun q h => by rw [← hAe]; exact Or.inr h
  have hS : va_S A s.heap s.heap [] := va_S.rf
  have hP : va_P (dC, dI) vwCl [(h0, .inr (5, [.ref qT, .int 8, .ref qF, .int 0, .int 0, .int ((-1)), .int 0, .ref qN, .int 0, .ref qR, .int 0, .int 0, .ref qC])), (qT, .inl (cT, 1000, .inl (f)))] s.heap := hP
  have hl := lv_entry ([.ref h0, .int p0]) (n := 3) (Nat.le_of_ble_eq_true rfl)
  rw [lg_entry_eq]
  generalize (lg_sl ([.ref h0, .int p0]) ++ List.replicate (3 - (lg_sl ([.ref h0, .int p0])).length) Slot.unset).toArray = ls at hl ⊢
  have hl : lv_has ls 3 [(0, .ref h0), (1, .int p0)] := hl
  refine lv_bipush (v := 24) hx hb dX5_putOnTape_0 (by decide) ?_
  refine lv_istore_n (lv' := [(2, .int 24), (0, .ref h0), (1, .int p0)]) hx hb dX5_putOnTape_2 rfl hl (by decide) rfl (fun ls hl => ?_)
  refine lv_iload_n hx hb dX5_putOnTape_3 rfl (lv_at hl 0 rfl) ?_
  refine lv_if_lt (tgt := 46) hx hb dX5_putOnTape_4 (by decide) (fun c_1 => absurd c_1 (by decide)) (fun c_1 => ?_)
  refine lv_aload_n hx hb dX5_putOnTape_7 rfl (lv_at hl 1 rfl) ?_
  refine va_get (D := (dC, dI)) (ci := 5) (v := .int 8) (C := RX5) (T := TX5) (N := 13) hx hb hts hin5 hown hK hP 0 rfl rfl 1 (by decide) (hts (.fieldLink RX5 36 "SkiShots" "tapeLength" "I") (by decide +kernel)) (fun _ h9 => h9) rfl dX5_putOnTape_8 ?_
  refine lv_sipush (v := 1000) hx hb dX5_putOnTape_11 (by decide) ?_
  refine lv_icmp_ge (tgt := 46) hx hb dX5_putOnTape_14 (by decide) (fun c_2 => absurd c_2 (by decide)) (fun c_2 => ?_)
  refine lv_aload_n hx hb dX5_putOnTape_17 rfl (lv_at hl 1 rfl) ?_
  refine va_get (D := (dC, dI)) (ci := 5) (v := .ref qT) (C := RX5) (T := TX5) (N := 13) hx hb hts hin5 hown hK hP 0 rfl rfl 0 (by decide) (hts (.fieldLink RX5 9 "SkiShots" "tape" "[B") (by decide +kernel)) (fun _ h9 => h9) rfl dX5_putOnTape_18 ?_
  refine lv_aload_n hx hb dX5_putOnTape_21 rfl (lv_at hl 1 rfl) ?_
  refine va_get (D := (dC, dI)) (ci := 5) (v := .int 8) (C := RX5) (T := TX5) (N := 13) hx hb hts hin5 hown hK hP 0 rfl rfl 1 (by decide) (hts (.fieldLink RX5 36 "SkiShots" "tapeLength" "I") (by decide +kernel)) (fun _ h9 => h9) rfl dX5_putOnTape_22 ?_
  refine lv_iload_n hx hb dX5_putOnTape_25 rfl (lv_at hl 2 rfl) ?_
  refine lv_iload_n hx hb dX5_putOnTape_26 rfl (lv_at hl 0 rfl) ?_
  refine lv_ishr hx hb dX5_putOnTape_27 ?_
  refine lv_i2b hx hb dX5_putOnTape_28 rfl ?_
  refine va_bast hx hb hK hP hD hS 1 0 rfl rfl (by unfold vp_in; decide) dX5_putOnTape_29 (fun H locs hP hD hS => ?_)
  obtain ⟨f_3, ef_3⟩ : ∃ g : Nat → Int32, g = upd (f) (Int32.toNatClampNeg 8) (vp_nar .byte ((p0 >>> (24 &&& 31)).toInt8.toInt32)) := ⟨_, rfl⟩
  have hP : va_P (dC, dI) vwCl [(h0, .inr (5, [.ref qT, .int 8, .ref qF, .int 0, .int 0, .int ((-1)), .int 0, .ref qN, .int 0, .ref qR, .int 0, .int 0, .ref qC])), (qT, .inl (cT, 1000, .inl (f_3)))] H := by rw [ef_3]; exact hP
  have hD : va_D A [(h0, .inr (5, [.ref qT, .int 8, .ref qF, .int 0, .int 0, .int ((-1)), .int 0, .ref qN, .int 0, .ref qR, .int 0, .int 0, .ref qC])), (qT, .inl (cT, 1000, .inl (f_3)))] := by rw [ef_3]; exact hD
  refine lv_aload_n hx hb dX5_putOnTape_30 rfl (lv_at hl 1 rfl) ?_
  refine lv_dup hx hb dX5_putOnTape_31 rfl ?_
  refine va_get (D := (dC, dI)) (ci := 5) (v := .int 8) (C := RX5) (T := TX5) (N := 13) hx hb hts hin5 hown hK hP 0 rfl rfl 1 (by decide) (hts (.fieldLink RX5 36 "SkiShots" "tapeLength" "I") (by decide +kernel)) (fun _ h9 => h9) rfl dX5_putOnTape_32 ?_
  refine lv_iconst (v := 1) hx hb dX5_putOnTape_35 (by decide) ?_
  refine lv_iadd hx hb dX5_putOnTape_36 ?_
  rw [show (8 + 1 : Int32) = 9 from by decide]
  refine va_put (D := (dC, dI)) (ci := 5) (v := .int 9) (ty := .int) (C := RX5) (T := TX5) (N := 13) hx hb hts hin5 tyX5 tyX5_ok nmX5 hown hK hP hD hS 0 rfl rfl 1 (by decide) (hts (.fieldLink RX5 36 "SkiShots" "tapeLength" "I") (by decide +kernel)) (fun _ h9 => h9) rfl (by decide +kernel) rfl rfl (Nat.le_of_ble_eq_true rfl) dX5_putOnTape_37 (fun H locs hP hD hS => ?_)
  have hP : va_P (dC, dI) vwCl [(h0, .inr (5, [.ref qT, .int 9, .ref qF, .int 0, .int 0, .int ((-1)), .int 0, .ref qN, .int 0, .ref qR, .int 0, .int 0, .ref qC])), (qT, .inl (cT, 1000, .inl (f_3)))] H := hP
  have hD : va_D A [(h0, .inr (5, [.ref qT, .int 9, .ref qF, .int 0, .int 0, .int ((-1)), .int 0, .ref qN, .int 0, .ref qR, .int 0, .int 0, .ref qC])), (qT, .inl (cT, 1000, .inl (f_3)))] := hD
  refine lv_iinc (v := 16) (lv' := [(2, .int 16), (0, .ref h0), (1, .int p0)]) hx hb dX5_putOnTape_40 hl (k := 0) rfl (by decide) (by decide) rfl (fun ls hl => ?_)
  refine lv_goto (tgt := 3) hx hb dX5_putOnTape_43 (by decide) ?_
  refine lv_iload_n hx hb dX5_putOnTape_3 rfl (lv_at hl 0 rfl) ?_
  refine lv_if_lt (tgt := 46) hx hb dX5_putOnTape_4 (by decide) (fun c_4 => absurd c_4 (by decide)) (fun c_4 => ?_)
  refine lv_aload_n hx hb dX5_putOnTape_7 rfl (lv_at hl 1 rfl) ?_
  refine va_get (D := (dC, dI)) (ci := 5) (v := .int 9) (C := RX5) (T := TX5) (N := 13) hx hb hts hin5 hown hK hP 0 rfl rfl 1 (by decide) (hts (.fieldLink RX5 36 "SkiShots" "tapeLength" "I") (by decide +kernel)) (fun _ h9 => h9) rfl dX5_putOnTape_8 ?_
  refine lv_sipush (v := 1000) hx hb dX5_putOnTape_11 (by decide) ?_
  refine lv_icmp_ge (tgt := 46) hx hb dX5_putOnTape_14 (by decide) (fun c_5 => absurd c_5 (by decide)) (fun c_5 => ?_)
  refine lv_aload_n hx hb dX5_putOnTape_17 rfl (lv_at hl 1 rfl) ?_
  refine va_get (D := (dC, dI)) (ci := 5) (v := .ref qT) (C := RX5) (T := TX5) (N := 13) hx hb hts hin5 hown hK hP 0 rfl rfl 0 (by decide) (hts (.fieldLink RX5 9 "SkiShots" "tape" "[B") (by decide +kernel)) (fun _ h9 => h9) rfl dX5_putOnTape_18 ?_
  refine lv_aload_n hx hb dX5_putOnTape_21 rfl (lv_at hl 1 rfl) ?_
  refine va_get (D := (dC, dI)) (ci := 5) (v := .int 9) (C := RX5) (T := TX5) (N := 13) hx hb hts hin5 hown hK hP 0 rfl rfl 1 (by decide) (hts (.fieldLink RX5 36 "SkiShots" "tapeLength" "I") (by decide +kernel)) (fun _ h9 => h9) rfl dX5_putOnTape_22 ?_
  refine lv_iload_n hx hb dX5_putOnTape_25 rfl (lv_at hl 2 rfl) ?_
  refine lv_iload_n hx hb dX5_putOnTape_26 rfl (lv_at hl 0 rfl) ?_
  refine lv_ishr hx hb dX5_putOnTape_27 ?_
  refine lv_i2b hx hb dX5_putOnTape_28 rfl ?_
  refine va_bast hx hb hK hP hD hS 1 0 rfl rfl (by unfold vp_in; decide) dX5_putOnTape_29 (fun H locs hP hD hS => ?_)
  obtain ⟨f_6, ef_6⟩ : ∃ g : Nat → Int32, g = upd (f_3) (Int32.toNatClampNeg 9) (vp_nar .byte ((p0 >>> (16 &&& 31)).toInt8.toInt32)) := ⟨_, rfl⟩
  have hP : va_P (dC, dI) vwCl [(h0, .inr (5, [.ref qT, .int 9, .ref qF, .int 0, .int 0, .int ((-1)), .int 0, .ref qN, .int 0, .ref qR, .int 0, .int 0, .ref qC])), (qT, .inl (cT, 1000, .inl (f_6)))] H := by rw [ef_6]; exact hP
  have hD : va_D A [(h0, .inr (5, [.ref qT, .int 9, .ref qF, .int 0, .int 0, .int ((-1)), .int 0, .ref qN, .int 0, .ref qR, .int 0, .int 0, .ref qC])), (qT, .inl (cT, 1000, .inl (f_6)))] := by rw [ef_6]; exact hD
  refine lv_aload_n hx hb dX5_putOnTape_30 rfl (lv_at hl 1 rfl) ?_
  refine lv_dup hx hb dX5_putOnTape_31 rfl ?_
  refine va_get (D := (dC, dI)) (ci := 5) (v := .int 9) (C := RX5) (T := TX5) (N := 13) hx hb hts hin5 hown hK hP 0 rfl rfl 1 (by decide) (hts (.fieldLink RX5 36 "SkiShots" "tapeLength" "I") (by decide +kernel)) (fun _ h9 => h9) rfl dX5_putOnTape_32 ?_
  refine lv_iconst (v := 1) hx hb dX5_putOnTape_35 (by decide) ?_
  refine lv_iadd hx hb dX5_putOnTape_36 ?_
  rw [show (9 + 1 : Int32) = 10 from by decide]
  refine va_put (D := (dC, dI)) (ci := 5) (v := .int 10) (ty := .int) (C := RX5) (T := TX5) (N := 13) hx hb hts hin5 tyX5 tyX5_ok nmX5 hown hK hP hD hS 0 rfl rfl 1 (by decide) (hts (.fieldLink RX5 36 "SkiShots" "tapeLength" "I") (by decide +kernel)) (fun _ h9 => h9) rfl (by decide +kernel) rfl rfl (Nat.le_of_ble_eq_true rfl) dX5_putOnTape_37 (fun H locs hP hD hS => ?_)
  have hP : va_P (dC, dI) vwCl [(h0, .inr (5, [.ref qT, .int 10, .ref qF, .int 0, .int 0, .int ((-1)), .int 0, .ref qN, .int 0, .ref qR, .int 0, .int 0, .ref qC])), (qT, .inl (cT, 1000, .inl (f_6)))] H := hP
  have hD : va_D A [(h0, .inr (5, [.ref qT, .int 10, .ref qF, .int 0, .int 0, .int ((-1)), .int 0, .ref qN, .int 0, .ref qR, .int 0, .int 0, .ref qC])), (qT, .inl (cT, 1000, .inl (f_6)))] := hD
  refine lv_iinc (v := 8) (lv' := [(2, .int 8), (0, .ref h0), (1, .int p0)]) hx hb dX5_putOnTape_40 hl (k := 0) rfl (by decide) (by decide) rfl (fun ls hl => ?_)
  refine lv_goto (tgt := 3) hx hb dX5_putOnTape_43 (by decide) ?_
  refine lv_iload_n hx hb dX5_putOnTape_3 rfl (lv_at hl 0 rfl) ?_
  refine lv_if_lt (tgt := 46) hx hb dX5_putOnTape_4 (by decide) (fun c_7 => absurd c_7 (by decide)) (fun c_7 => ?_)
  refine lv_aload_n hx hb dX5_putOnTape_7 rfl (lv_at hl 1 rfl) ?_
  refine va_get (D := (dC, dI)) (ci := 5) (v := .int 10) (C := RX5) (T := TX5) (N := 13) hx hb hts hin5 hown hK hP 0 rfl rfl 1 (by decide) (hts (.fieldLink RX5 36 "SkiShots" "tapeLength" "I") (by decide +kernel)) (fun _ h9 => h9) rfl dX5_putOnTape_8 ?_
  refine lv_sipush (v := 1000) hx hb dX5_putOnTape_11 (by decide) ?_
  refine lv_icmp_ge (tgt := 46) hx hb dX5_putOnTape_14 (by decide) (fun c_8 => absurd c_8 (by decide)) (fun c_8 => ?_)
  refine lv_aload_n hx hb dX5_putOnTape_17 rfl (lv_at hl 1 rfl) ?_
  refine va_get (D := (dC, dI)) (ci := 5) (v := .ref qT) (C := RX5) (T := TX5) (N := 13) hx hb hts hin5 hown hK hP 0 rfl rfl 0 (by decide) (hts (.fieldLink RX5 9 "SkiShots" "tape" "[B") (by decide +kernel)) (fun _ h9 => h9) rfl dX5_putOnTape_18 ?_
  refine lv_aload_n hx hb dX5_putOnTape_21 rfl (lv_at hl 1 rfl) ?_
  refine va_get (D := (dC, dI)) (ci := 5) (v := .int 10) (C := RX5) (T := TX5) (N := 13) hx hb hts hin5 hown hK hP 0 rfl rfl 1 (by decide) (hts (.fieldLink RX5 36 "SkiShots" "tapeLength" "I") (by decide +kernel)) (fun _ h9 => h9) rfl dX5_putOnTape_22 ?_
  refine lv_iload_n hx hb dX5_putOnTape_25 rfl (lv_at hl 2 rfl) ?_
  refine lv_iload_n hx hb dX5_putOnTape_26 rfl (lv_at hl 0 rfl) ?_
  refine lv_ishr hx hb dX5_putOnTape_27 ?_
  refine lv_i2b hx hb dX5_putOnTape_28 rfl ?_
  refine va_bast hx hb hK hP hD hS 1 0 rfl rfl (by unfold vp_in; decide) dX5_putOnTape_29 (fun H locs hP hD hS => ?_)
  obtain ⟨f_9, ef_9⟩ : ∃ g : Nat → Int32, g = upd (f_6) (Int32.toNatClampNeg 10) (vp_nar .byte ((p0 >>> (8 &&& 31)).toInt8.toInt32)) := ⟨_, rfl⟩
  have hP : va_P (dC, dI) vwCl [(h0, .inr (5, [.ref qT, .int 10, .ref qF, .int 0, .int 0, .int ((-1)), .int 0, .ref qN, .int 0, .ref qR, .int 0, .int 0, .ref qC])), (qT, .inl (cT, 1000, .inl (f_9)))] H := by rw [ef_9]; exact hP
  have hD : va_D A [(h0, .inr (5, [.ref qT, .int 10, .ref qF, .int 0, .int 0, .int ((-1)), .int 0, .ref qN, .int 0, .ref qR, .int 0, .int 0, .ref qC])), (qT, .inl (cT, 1000, .inl (f_9)))] := by rw [ef_9]; exact hD
  refine lv_aload_n hx hb dX5_putOnTape_30 rfl (lv_at hl 1 rfl) ?_
  refine lv_dup hx hb dX5_putOnTape_31 rfl ?_
  refine va_get (D := (dC, dI)) (ci := 5) (v := .int 10) (C := RX5) (T := TX5) (N := 13) hx hb hts hin5 hown hK hP 0 rfl rfl 1 (by decide) (hts (.fieldLink RX5 36 "SkiShots" "tapeLength" "I") (by decide +kernel)) (fun _ h9 => h9) rfl dX5_putOnTape_32 ?_
  refine lv_iconst (v := 1) hx hb dX5_putOnTape_35 (by decide) ?_
  refine lv_iadd hx hb dX5_putOnTape_36 ?_
  rw [show (10 + 1 : Int32) = 11 from by decide]
  refine va_put (D := (dC, dI)) (ci := 5) (v := .int 11) (ty := .int) (C := RX5) (T := TX5) (N := 13) hx hb hts hin5 tyX5 tyX5_ok nmX5 hown hK hP hD hS 0 rfl rfl 1 (by decide) (hts (.fieldLink RX5 36 "SkiShots" "tapeLength" "I") (by decide +kernel)) (fun _ h9 => h9) rfl (by decide +kernel) rfl rfl (Nat.le_of_ble_eq_true rfl) dX5_putOnTape_37 (fun H locs hP hD hS => ?_)
  have hP : va_P (dC, dI) vwCl [(h0, .inr (5, [.ref qT, .int 11, .ref qF, .int 0, .int 0, .int ((-1)), .int 0, .ref qN, .int 0, .ref qR, .int 0, .int 0, .ref qC])), (qT, .inl (cT, 1000, .inl (f_9)))] H := hP
  have hD : va_D A [(h0, .inr (5, [.ref qT, .int 11, .ref qF, .int 0, .int 0, .int ((-1)), .int 0, .ref qN, .int 0, .ref qR, .int 0, .int 0, .ref qC])), (qT, .inl (cT, 1000, .inl (f_9)))] := hD
  refine lv_iinc (v := 0) (lv' := [(2, .int 0), (0, .ref h0), (1, .int p0)]) hx hb dX5_putOnTape_40 hl (k := 0) rfl (by decide) (by decide) rfl (fun ls hl => ?_)
  refine lv_goto (tgt := 3) hx hb dX5_putOnTape_43 (by decide) ?_
  refine lv_iload_n hx hb dX5_putOnTape_3 rfl (lv_at hl 0 rfl) ?_
  refine lv_if_lt (tgt := 46) hx hb dX5_putOnTape_4 (by decide) (fun c_10 => absurd c_10 (by decide)) (fun c_10 => ?_)
  refine lv_aload_n hx hb dX5_putOnTape_7 rfl (lv_at hl 1 rfl) ?_
  refine va_get (D := (dC, dI)) (ci := 5) (v := .int 11) (C := RX5) (T := TX5) (N := 13) hx hb hts hin5 hown hK hP 0 rfl rfl 1 (by decide) (hts (.fieldLink RX5 36 "SkiShots" "tapeLength" "I") (by decide +kernel)) (fun _ h9 => h9) rfl dX5_putOnTape_8 ?_
  refine lv_sipush (v := 1000) hx hb dX5_putOnTape_11 (by decide) ?_
  refine lv_icmp_ge (tgt := 46) hx hb dX5_putOnTape_14 (by decide) (fun c_11 => absurd c_11 (by decide)) (fun c_11 => ?_)
  refine lv_aload_n hx hb dX5_putOnTape_17 rfl (lv_at hl 1 rfl) ?_
  refine va_get (D := (dC, dI)) (ci := 5) (v := .ref qT) (C := RX5) (T := TX5) (N := 13) hx hb hts hin5 hown hK hP 0 rfl rfl 0 (by decide) (hts (.fieldLink RX5 9 "SkiShots" "tape" "[B") (by decide +kernel)) (fun _ h9 => h9) rfl dX5_putOnTape_18 ?_
  refine lv_aload_n hx hb dX5_putOnTape_21 rfl (lv_at hl 1 rfl) ?_
  refine va_get (D := (dC, dI)) (ci := 5) (v := .int 11) (C := RX5) (T := TX5) (N := 13) hx hb hts hin5 hown hK hP 0 rfl rfl 1 (by decide) (hts (.fieldLink RX5 36 "SkiShots" "tapeLength" "I") (by decide +kernel)) (fun _ h9 => h9) rfl dX5_putOnTape_22 ?_
  refine lv_iload_n hx hb dX5_putOnTape_25 rfl (lv_at hl 2 rfl) ?_
  refine lv_iload_n hx hb dX5_putOnTape_26 rfl (lv_at hl 0 rfl) ?_
  refine lv_ishr hx hb dX5_putOnTape_27 ?_
  refine lv_i2b hx hb dX5_putOnTape_28 rfl ?_
  refine va_bast hx hb hK hP hD hS 1 0 rfl rfl (by unfold vp_in; decide) dX5_putOnTape_29 (fun H locs hP hD hS => ?_)
  obtain ⟨f_12, ef_12⟩ : ∃ g : Nat → Int32, g = upd (f_9) (Int32.toNatClampNeg 11) (vp_nar .byte ((p0 >>> (0 &&& 31)).toInt8.toInt32)) := ⟨_, rfl⟩
  have hP : va_P (dC, dI) vwCl [(h0, .inr (5, [.ref qT, .int 11, .ref qF, .int 0, .int 0, .int ((-1)), .int 0, .ref qN, .int 0, .ref qR, .int 0, .int 0, .ref qC])), (qT, .inl (cT, 1000, .inl (f_12)))] H := by rw [ef_12]; exact hP
  have hD : va_D A [(h0, .inr (5, [.ref qT, .int 11, .ref qF, .int 0, .int 0, .int ((-1)), .int 0, .ref qN, .int 0, .ref qR, .int 0, .int 0, .ref qC])), (qT, .inl (cT, 1000, .inl (f_12)))] := by rw [ef_12]; exact hD
  refine lv_aload_n hx hb dX5_putOnTape_30 rfl (lv_at hl 1 rfl) ?_
  refine lv_dup hx hb dX5_putOnTape_31 rfl ?_
  refine va_get (D := (dC, dI)) (ci := 5) (v := .int 11) (C := RX5) (T := TX5) (N := 13) hx hb hts hin5 hown hK hP 0 rfl rfl 1 (by decide) (hts (.fieldLink RX5 36 "SkiShots" "tapeLength" "I") (by decide +kernel)) (fun _ h9 => h9) rfl dX5_putOnTape_32 ?_
  refine lv_iconst (v := 1) hx hb dX5_putOnTape_35 (by decide) ?_
  refine lv_iadd hx hb dX5_putOnTape_36 ?_
  rw [show (11 + 1 : Int32) = 12 from by decide]
  refine va_put (D := (dC, dI)) (ci := 5) (v := .int 12) (ty := .int) (C := RX5) (T := TX5) (N := 13) hx hb hts hin5 tyX5 tyX5_ok nmX5 hown hK hP hD hS 0 rfl rfl 1 (by decide) (hts (.fieldLink RX5 36 "SkiShots" "tapeLength" "I") (by decide +kernel)) (fun _ h9 => h9) rfl (by decide +kernel) rfl rfl (Nat.le_of_ble_eq_true rfl) dX5_putOnTape_37 (fun H locs hP hD hS => ?_)
  have hP : va_P (dC, dI) vwCl [(h0, .inr (5, [.ref qT, .int 12, .ref qF, .int 0, .int 0, .int ((-1)), .int 0, .ref qN, .int 0, .ref qR, .int 0, .int 0, .ref qC])), (qT, .inl (cT, 1000, .inl (f_12)))] H := hP
  have hD : va_D A [(h0, .inr (5, [.ref qT, .int 12, .ref qF, .int 0, .int 0, .int ((-1)), .int 0, .ref qN, .int 0, .ref qR, .int 0, .int 0, .ref qC])), (qT, .inl (cT, 1000, .inl (f_12)))] := hD
  refine lv_iinc (v := (-8)) (lv' := [(2, .int ((-8))), (0, .ref h0), (1, .int p0)]) hx hb dX5_putOnTape_40 hl (k := 0) rfl (by decide) (by decide) rfl (fun ls hl => ?_)
  refine lv_goto (tgt := 3) hx hb dX5_putOnTape_43 (by decide) ?_
  refine lv_iload_n hx hb dX5_putOnTape_3 rfl (lv_at hl 0 rfl) ?_
  refine lv_if_lt (tgt := 46) hx hb dX5_putOnTape_4 (by decide) (fun c_13 => ?_) (fun c_13 => absurd (by decide) c_13)
  have hP9 := hP.sub (ws' := [(h0, .inr (5, [.ref qT, .int 12, .ref qF, .int 0, .int 0, .int ((-1)), .int 0, .ref qN, .int 0, .ref qR, .int 0, .int 0, .ref qC])), (qT, .inl (cT, 1000, .inl (f_12)))]) [0, 1] rfl
  have hD9 := hD.sub (ws' := [(h0, .inr (5, [.ref qT, .int 12, .ref qF, .int 0, .int 0, .int ((-1)), .int 0, .ref qN, .int 0, .ref qR, .int 0, .int 0, .ref qC])), (qT, .inl (cT, 1000, .inl (f_12)))]) [0, 1] (by decide) rfl
  have hK9 := hK.sub (tys' := [(cT, .byte)]) [0] rfl
  exact W.vret hx hb hr (fun t ht hW => ⟨⟨(), rfl, trivial, f_12, by rw [ht]; exact hP9, va_K.moved hW.alike hK9, hD9⟩, hS.F ht⟩) hS.2.2 dX5_putOnTape_46
def wX5_putOnTape_12 : List Cond := .code yX5_putOnTape cX5_putOnTape 3 none :: ([.fieldLink RX5 36 "SkiShots" "tapeLength" "I", .fieldLink RX5 9 "SkiShots" "tape" "[B"] ++ wsX50)
set_option maxHeartbeats 4000000 in
set_option maxRecDepth 100000 in
theorem c_X5_putOnTape_12 (l : Launch) (dC : Nat → ClassId) (dI : Nat → Nat → Nat) (h0 : Nat) (qT : Nat) (qF : Nat) (qN : Nat) (qR : Nat) (qC : Nat) (cT : ClassId) (f : Nat → Int32) (p0 : Int32) (sz : Nat) : Met l yX5_putOnTape wX5_putOnTape_12 ({ frames := 0, cells := 0, slots := 0, locals := 0 }) (va_Pc [.ref h0, .int p0] (fun U => U.heap.size = sz ∧ va_P (dC, dI) vwCl [(h0, .inr (5, [.ref qT, .int 12, .ref qF, .int 0, .int 0, .int ((-1)), .int 0, .ref qN, .int 0, .ref qR, .int 0, .int 0, .ref qC])), (qT, .inl (cT, 1000, .inl (f)))] U.heap ∧ va_K (dC, dI) vwCl [(cT, .byte)] U ∧ va_D (fun _ => True) [(h0, .inr (5, [.ref qT, .int 12, .ref qF, .int 0, .int 0, .int ((-1)), .int 0, .ref qN, .int 0, .ref qR, .int 0, .int 0, .ref qC])), (qT, .inl (cT, 1000, .inl (f)))])) (va_Qv (fun (_ : Unit) => True) (fun _ t => ∃ (f2 : Nat → Int32), va_P (dC, dI) vwCl [(h0, .inr (5, [.ref qT, .int 16, .ref qF, .int 0, .int 0, .int ((-1)), .int 0, .ref qN, .int 0, .ref qR, .int 0, .int 0, .ref qC])), (qT, .inl (cT, 1000, .inl (f2)))] t.heap ∧ va_K (dC, dI) vwCl [(cT, .byte)] t ∧ va_D (va_A [(h0, .inr (5, [.ref qT, .int 12, .ref qF, .int 0, .int 0, .int ((-1)), .int 0, .ref qN, .int 0, .ref qR, .int 0, .int 0, .ref qC])), (qT, .inl (cT, 1000, .inl (f)))] sz) [(h0, .inr (5, [.ref qT, .int 16, .ref qF, .int 0, .int 0, .int ((-1)), .int 0, .ref qN, .int 0, .ref qR, .int 0, .int 0, .ref qC])), (qT, .inl (cT, 1000, .inl (f2)))]) (va_A [(h0, .inr (5, [.ref qT, .int 12, .ref qF, .int 0, .int 0, .int ((-1)), .int 0, .ref qN, .int 0, .ref qR, .int 0, .int 0, .ref qC])), (qT, .inl (cT, 1000, .inl (f)))] sz)) 0 0 (va_A [(h0, .inr (5, [.ref qT, .int 12, .ref qF, .int 0, .int 0, .int ((-1)), .int 0, .ref qN, .int 0, .ref qR, .int 0, .int 0, .ref qC])), (qT, .inl (cT, 1000, .inl (f)))] sz) := by
  refine Met.ofW (cc := cX5_putOnTape) (maxL := 3) (ret := none) (by decide) rfl ?_
  intro p e s m args below meth c s₁ B hml hv
  obtain ⟨rfl, hsz, hP, hK, hD0⟩ := hv
  have hx := B.exec
  have hb := B.bytes
  have hr := B.returns
  have hts := atoms_spec (ws := wX5_putOnTape_12) B.pre
  have hown : s.vm.findClass RX5 = some m.cls := findClass_of_methodNamed B.named
  have hlocks := B.notSynchronized
  have hin5 : ∀ w ∈ wsX50, w ∈ wX5_putOnTape_12 := by decide +kernel
  subst hsz
  have hD := hD0.self (sz := s.heap.size)
  generalize hAe : va_A [(h0, .inr (5, [.ref qT, .int 12, .ref qF, .int 0, .int 0, .int ((-1)), .int 0, .ref qN, .int 0, .ref qR, .int 0, .int 0, .ref qC])), (qT, .inl (cT, 1000, .inl (f)))] s.heap.size = A at hD ⊢
  have hA : ∀ q : Nat, s.heap.size ≤ q → A q := fun q h => by rw [← hAe]; exact Or.inr h
  have hS : va_S A s.heap s.heap [] := va_S.rf
  have hP : va_P (dC, dI) vwCl [(h0, .inr (5, [.ref qT, .int 12, .ref qF, .int 0, .int 0, .int ((-1)), .int 0, .ref qN, .int 0, .ref qR, .int 0, .int 0, .ref qC])), (qT, .inl (cT, 1000, .inl (f)))] s.heap := hP
  have hl := lv_entry ([.ref h0, .int p0]) (n := 3) (Nat.le_of_ble_eq_true rfl)
  rw [lg_entry_eq]
  generalize (lg_sl ([.ref h0, .int p0]) ++ List.replicate (3 - (lg_sl ([.ref h0, .int p0])).length) Slot.unset).toArray = ls at hl ⊢
  have hl : lv_has ls 3 [(0, .ref h0), (1, .int p0)] := hl
  refine lv_bipush (v := 24) hx hb dX5_putOnTape_0 (by decide) ?_
  refine lv_istore_n (lv' := [(2, .int 24), (0, .ref h0), (1, .int p0)]) hx hb dX5_putOnTape_2 rfl hl (by decide) rfl (fun ls hl => ?_)
  refine lv_iload_n hx hb dX5_putOnTape_3 rfl (lv_at hl 0 rfl) ?_
  refine lv_if_lt (tgt := 46) hx hb dX5_putOnTape_4 (by decide) (fun c_1 => absurd c_1 (by decide)) (fun c_1 => ?_)
  refine lv_aload_n hx hb dX5_putOnTape_7 rfl (lv_at hl 1 rfl) ?_
  refine va_get (D := (dC, dI)) (ci := 5) (v := .int 12) (C := RX5) (T := TX5) (N := 13) hx hb hts hin5 hown hK hP 0 rfl rfl 1 (by decide) (hts (.fieldLink RX5 36 "SkiShots" "tapeLength" "I") (by decide +kernel)) (fun _ h9 => h9) rfl dX5_putOnTape_8 ?_
  refine lv_sipush (v := 1000) hx hb dX5_putOnTape_11 (by decide) ?_
  refine lv_icmp_ge (tgt := 46) hx hb dX5_putOnTape_14 (by decide) (fun c_2 => absurd c_2 (by decide)) (fun c_2 => ?_)
  refine lv_aload_n hx hb dX5_putOnTape_17 rfl (lv_at hl 1 rfl) ?_
  refine va_get (D := (dC, dI)) (ci := 5) (v := .ref qT) (C := RX5) (T := TX5) (N := 13) hx hb hts hin5 hown hK hP 0 rfl rfl 0 (by decide) (hts (.fieldLink RX5 9 "SkiShots" "tape" "[B") (by decide +kernel)) (fun _ h9 => h9) rfl dX5_putOnTape_18 ?_
  refine lv_aload_n hx hb dX5_putOnTape_21 rfl (lv_at hl 1 rfl) ?_
  refine va_get (D := (dC, dI)) (ci := 5) (v := .int 12) (C := RX5) (T := TX5) (N := 13) hx hb hts hin5 hown hK hP 0 rfl rfl 1 (by decide) (hts (.fieldLink RX5 36 "SkiShots" "tapeLength" "I") (by decide +kernel)) (fun _ h9 => h9) rfl dX5_putOnTape_22 ?_
  refine lv_iload_n hx hb dX5_putOnTape_25 rfl (lv_at hl 2 rfl) ?_
  refine lv_iload_n hx hb dX5_putOnTape_26 rfl (lv_at hl 0 rfl) ?_
  refine lv_ishr hx hb dX5_putOnTape_27 ?_
  refine lv_i2b hx hb dX5_putOnTape_28 rfl ?_
  refine va_bast hx hb hK hP hD hS 1 0 rfl rfl (by unfold vp_in; decide) dX5_putOnTape_29 (fun H locs hP hD hS => ?_)
  obtain ⟨f_3, ef_3⟩ : ∃ g : Nat → Int32, g = upd (f) (Int32.toNatClampNeg 12) (vp_nar .byte ((p0 >>> (24 &&& 31)).toInt8.toInt32)) := ⟨_, rfl⟩
  have hP : va_P (dC, dI) vwCl [(h0, .inr (5, [.ref qT, .int 12, .ref qF, .int 0, .int 0, .int ((-1)), .int 0, .ref qN, .int 0, .ref qR, .int 0, .int 0, .ref qC])), (qT, .inl (cT, 1000, .inl (f_3)))] H := by rw [ef_3]; exact hP
  have hD : va_D A [(h0, .inr (5, [.ref qT, .int 12, .ref qF, .int 0, .int 0, .int ((-1)), .int 0, .ref qN, .int 0, .ref qR, .int 0, .int 0, .ref qC])), (qT, .inl (cT, 1000, .inl (f_3)))] := by rw [ef_3]; exact hD
  refine lv_aload_n hx hb dX5_putOnTape_30 rfl (lv_at hl 1 rfl) ?_
  refine lv_dup hx hb dX5_putOnTape_31 rfl ?_
  refine va_get (D := (dC, dI)) (ci := 5) (v := .int 12) (C := RX5) (T := TX5) (N := 13) hx hb hts hin5 hown hK hP 0 rfl rfl 1 (by decide) (hts (.fieldLink RX5 36 "SkiShots" "tapeLength" "I") (by decide +kernel)) (fun _ h9 => h9) rfl dX5_putOnTape_32 ?_
  refine lv_iconst (v := 1) hx hb dX5_putOnTape_35 (by decide) ?_
  refine lv_iadd hx hb dX5_putOnTape_36 ?_
  rw [show (12 + 1 : Int32) = 13 from by decide]
  refine va_put (D := (dC, dI)) (ci := 5) (v := .int 13) (ty := .int) (C := RX5) (T := TX5) (N := 13) hx hb hts hin5 tyX5 tyX5_ok nmX5 hown hK hP hD hS 0 rfl rfl 1 (by decide) (hts (.fieldLink RX5 36 "SkiShots" "tapeLength" "I") (by decide +kernel)) (fun _ h9 => h9) rfl (by decide +kernel) rfl rfl (Nat.le_of_ble_eq_true rfl) dX5_putOnTape_37 (fun H locs hP hD hS => ?_)
  have hP : va_P (dC, dI) vwCl [(h0, .inr (5, [.ref qT, .int 13, .ref qF, .int 0, .int 0, .int ((-1)), .int 0, .ref qN, .int 0, .ref qR, .int 0, .int 0, .ref qC])), (qT, .inl (cT, 1000, .inl (f_3)))] H := hP
  have hD : va_D A [(h0, .inr (5, [.ref qT, .int 13, .ref qF, .int 0, .int 0, .int ((-1)), .int 0, .ref qN, .int 0, .ref qR, .int 0, .int 0, .ref qC])), (qT, .inl (cT, 1000, .inl (f_3)))] := hD
  refine lv_iinc (v := 16) (lv' := [(2, .int 16), (0, .ref h0), (1, .int p0)]) hx hb dX5_putOnTape_40 hl (k := 0) rfl (by decide) (by decide) rfl (fun ls hl => ?_)
  refine lv_goto (tgt := 3) hx hb dX5_putOnTape_43 (by decide) ?_
  refine lv_iload_n hx hb dX5_putOnTape_3 rfl (lv_at hl 0 rfl) ?_
  refine lv_if_lt (tgt := 46) hx hb dX5_putOnTape_4 (by decide) (fun c_4 => absurd c_4 (by decide)) (fun c_4 => ?_)
  refine lv_aload_n hx hb dX5_putOnTape_7 rfl (lv_at hl 1 rfl) ?_
  refine va_get (D := (dC, dI)) (ci := 5) (v := .int 13) (C := RX5) (T := TX5) (N := 13) hx hb hts hin5 hown hK hP 0 rfl rfl 1 (by decide) (hts (.fieldLink RX5 36 "SkiShots" "tapeLength" "I") (by decide +kernel)) (fun _ h9 => h9) rfl dX5_putOnTape_8 ?_
  refine lv_sipush (v := 1000) hx hb dX5_putOnTape_11 (by decide) ?_
  refine lv_icmp_ge (tgt := 46) hx hb dX5_putOnTape_14 (by decide) (fun c_5 => absurd c_5 (by decide)) (fun c_5 => ?_)
  refine lv_aload_n hx hb dX5_putOnTape_17 rfl (lv_at hl 1 rfl) ?_
  refine va_get (D := (dC, dI)) (ci := 5) (v := .ref qT) (C := RX5) (T := TX5) (N := 13) hx hb hts hin5 hown hK hP 0 rfl rfl 0 (by decide) (hts (.fieldLink RX5 9 "SkiShots" "tape" "[B") (by decide +kernel)) (fun _ h9 => h9) rfl dX5_putOnTape_18 ?_
  refine lv_aload_n hx hb dX5_putOnTape_21 rfl (lv_at hl 1 rfl) ?_
  refine va_get (D := (dC, dI)) (ci := 5) (v := .int 13) (C := RX5) (T := TX5) (N := 13) hx hb hts hin5 hown hK hP 0 rfl rfl 1 (by decide) (hts (.fieldLink RX5 36 "SkiShots" "tapeLength" "I") (by decide +kernel)) (fun _ h9 => h9) rfl dX5_putOnTape_22 ?_
  refine lv_iload_n hx hb dX5_putOnTape_25 rfl (lv_at hl 2 rfl) ?_
  refine lv_iload_n hx hb dX5_putOnTape_26 rfl (lv_at hl 0 rfl) ?_
  refine lv_ishr hx hb dX5_putOnTape_27 ?_
  refine lv_i2b hx hb dX5_putOnTape_28 rfl ?_
  refine va_bast hx hb hK hP hD hS 1 0 rfl rfl (by unfold vp_in; decide) dX5_putOnTape_29 (fun H locs hP hD hS => ?_)
  obtain ⟨f_6, ef_6⟩ : ∃ g : Nat → Int32, g = upd (f_3) (Int32.toNatClampNeg 13) (vp_nar .byte ((p0 >>> (16 &&& 31)).toInt8.toInt32)) := ⟨_, rfl⟩
  have hP : va_P (dC, dI) vwCl [(h0, .inr (5, [.ref qT, .int 13, .ref qF, .int 0, .int 0, .int ((-1)), .int 0, .ref qN, .int 0, .ref qR, .int 0, .int 0, .ref qC])), (qT, .inl (cT, 1000, .inl (f_6)))] H := by rw [ef_6]; exact hP
  have hD : va_D A [(h0, .inr (5, [.ref qT, .int 13, .ref qF, .int 0, .int 0, .int ((-1)), .int 0, .ref qN, .int 0, .ref qR, .int 0, .int 0, .ref qC])), (qT, .inl (cT, 1000, .inl (f_6)))] := by rw [ef_6]; exact hD
  refine lv_aload_n hx hb dX5_putOnTape_30 rfl (lv_at hl 1 rfl) ?_
  refine lv_dup hx hb dX5_putOnTape_31 rfl ?_
  refine va_get (D := (dC, dI)) (ci := 5) (v := .int 13) (C := RX5) (T := TX5) (N := 13) hx hb hts hin5 hown hK hP 0 rfl rfl 1 (by decide) (hts (.fieldLink RX5 36 "SkiShots" "tapeLength" "I") (by decide +kernel)) (fun _ h9 => h9) rfl dX5_putOnTape_32 ?_
  refine lv_iconst (v := 1) hx hb dX5_putOnTape_35 (by decide) ?_
  refine lv_iadd hx hb dX5_putOnTape_36 ?_
  rw [show (13 + 1 : Int32) = 14 from by decide]
  refine va_put (D := (dC, dI)) (ci := 5) (v := .int 14) (ty := .int) (C := RX5) (T := TX5) (N := 13) hx hb hts hin5 tyX5 tyX5_ok nmX5 hown hK hP hD hS 0 rfl rfl 1 (by decide) (hts (.fieldLink RX5 36 "SkiShots" "tapeLength" "I") (by decide +kernel)) (fun _ h9 => h9) rfl (by decide +kernel) rfl rfl (Nat.le_of_ble_eq_true rfl) dX5_putOnTape_37 (fun H locs hP hD hS => ?_)
  have hP : va_P (dC, dI) vwCl [(h0, .inr (5, [.ref qT, .int 14, .ref qF, .int 0, .int 0, .int ((-1)), .int 0, .ref qN, .int 0, .ref qR, .int 0, .int 0, .ref qC])), (qT, .inl (cT, 1000, .inl (f_6)))] H := hP
  have hD : va_D A [(h0, .inr (5, [.ref qT, .int 14, .ref qF, .int 0, .int 0, .int ((-1)), .int 0, .ref qN, .int 0, .ref qR, .int 0, .int 0, .ref qC])), (qT, .inl (cT, 1000, .inl (f_6)))] := hD
  refine lv_iinc (v := 8) (lv' := [(2, .int 8), (0, .ref h0), (1, .int p0)]) hx hb dX5_putOnTape_40 hl (k := 0) rfl (by decide) (by decide) rfl (fun ls hl => ?_)
  refine lv_goto (tgt := 3) hx hb dX5_putOnTape_43 (by decide) ?_
  refine lv_iload_n hx hb dX5_putOnTape_3 rfl (lv_at hl 0 rfl) ?_
  refine lv_if_lt (tgt := 46) hx hb dX5_putOnTape_4 (by decide) (fun c_7 => absurd c_7 (by decide)) (fun c_7 => ?_)
  refine lv_aload_n hx hb dX5_putOnTape_7 rfl (lv_at hl 1 rfl) ?_
  refine va_get (D := (dC, dI)) (ci := 5) (v := .int 14) (C := RX5) (T := TX5) (N := 13) hx hb hts hin5 hown hK hP 0 rfl rfl 1 (by decide) (hts (.fieldLink RX5 36 "SkiShots" "tapeLength" "I") (by decide +kernel)) (fun _ h9 => h9) rfl dX5_putOnTape_8 ?_
  refine lv_sipush (v := 1000) hx hb dX5_putOnTape_11 (by decide) ?_
  refine lv_icmp_ge (tgt := 46) hx hb dX5_putOnTape_14 (by decide) (fun c_8 => absurd c_8 (by decide)) (fun c_8 => ?_)
  refine lv_aload_n hx hb dX5_putOnTape_17 rfl (lv_at hl 1 rfl) ?_
  refine va_get (D := (dC, dI)) (ci := 5) (v := .ref qT) (C := RX5) (T := TX5) (N := 13) hx hb hts hin5 hown hK hP 0 rfl rfl 0 (by decide) (hts (.fieldLink RX5 9 "SkiShots" "tape" "[B") (by decide +kernel)) (fun _ h9 => h9) rfl dX5_putOnTape_18 ?_
  refine lv_aload_n hx hb dX5_putOnTape_21 rfl (lv_at hl 1 rfl) ?_
  refine va_get (D := (dC, dI)) (ci := 5) (v := .int 14) (C := RX5) (T := TX5) (N := 13) hx hb hts hin5 hown hK hP 0 rfl rfl 1 (by decide) (hts (.fieldLink RX5 36 "SkiShots" "tapeLength" "I") (by decide +kernel)) (fun _ h9 => h9) rfl dX5_putOnTape_22 ?_
  refine lv_iload_n hx hb dX5_putOnTape_25 rfl (lv_at hl 2 rfl) ?_
  refine lv_iload_n hx hb dX5_putOnTape_26 rfl (lv_at hl 0 rfl) ?_
  refine lv_ishr hx hb dX5_putOnTape_27 ?_
  refine lv_i2b hx hb dX5_putOnTape_28 rfl ?_
  refine va_bast hx hb hK hP hD hS 1 0 rfl rfl (by unfold vp_in; decide) dX5_putOnTape_29 (fun H locs hP hD hS => ?_)
  obtain ⟨f_9, ef_9⟩ : ∃ g : Nat → Int32, g = upd (f_6) (Int32.toNatClampNeg 14) (vp_nar .byte ((p0 >>> (8 &&& 31)).toInt8.toInt32)) := ⟨_, rfl⟩
  have hP : va_P (dC, dI) vwCl [(h0, .inr (5, [.ref qT, .int 14, .ref qF, .int 0, .int 0, .int ((-1)), .int 0, .ref qN, .int 0, .ref qR, .int 0, .int 0, .ref qC])), (qT, .inl (cT, 1000, .inl (f_9)))] H := by rw [ef_9]; exact hP
  have hD : va_D A [(h0, .inr (5, [.ref qT, .int 14, .ref qF, .int 0, .int 0, .int ((-1)), .int 0, .ref qN, .int 0, .ref qR, .int 0, .int 0, .ref qC])), (qT, .inl (cT, 1000, .inl (f_9)))] := by rw [ef_9]; exact hD
  refine lv_aload_n hx hb dX5_putOnTape_30 rfl (lv_at hl 1 rfl) ?_
  refine lv_dup hx hb dX5_putOnTape_31 rfl ?_
  refine va_get (D := (dC, dI)) (ci := 5) (v := .int 14) (C := RX5) (T := TX5) (N := 13) hx hb hts hin5 hown hK hP 0 rfl rfl 1 (by decide) (hts (.fieldLink RX5 36 "SkiShots" "tapeLength" "I") (by decide +kernel)) (fun _ h9 => h9) rfl dX5_putOnTape_32 ?_
  refine lv_iconst (v := 1) hx hb dX5_putOnTape_35 (by decide) ?_
  refine lv_iadd hx hb dX5_putOnTape_36 ?_
  rw [show (14 + 1 : Int32) = 15 from by decide]
  refine va_put (D := (dC, dI)) (ci := 5) (v := .int 15) (ty := .int) (C := RX5) (T := TX5) (N := 13) hx hb hts hin5 tyX5 tyX5_ok nmX5 hown hK hP hD hS 0 rfl rfl 1 (by decide) (hts (.fieldLink RX5 36 "SkiShots" "tapeLength" "I") (by decide +kernel)) (fun _ h9 => h9) rfl (by decide +kernel) rfl rfl (Nat.le_of_ble_eq_true rfl) dX5_putOnTape_37 (fun H locs hP hD hS => ?_)
  have hP : va_P (dC, dI) vwCl [(h0, .inr (5, [.ref qT, .int 15, .ref qF, .int 0, .int 0, .int ((-1)), .int 0, .ref qN, .int 0, .ref qR, .int 0, .int 0, .ref qC])), (qT, .inl (cT, 1000, .inl (f_9)))] H := hP
  have hD : va_D A [(h0, .inr (5, [.ref qT, .int 15, .ref qF, .int 0, .int 0, .int ((-1)), .int 0, .ref qN, .int 0, .ref qR, .int 0, .int 0, .ref qC])), (qT, .inl (cT, 1000, .inl (f_9)))] := hD
  refine lv_iinc (v := 0) (lv' := [(2, .int 0), (0, .ref h0), (1, .int p0)]) hx hb dX5_putOnTape_40 hl (k := 0) rfl (by decide) (by decide) rfl (fun ls hl => ?_)
  refine lv_goto (tgt := 3) hx hb dX5_putOnTape_43 (by decide) ?_
  refine lv_iload_n hx hb dX5_putOnTape_3 rfl (lv_at hl 0 rfl) ?_
  refine lv_if_lt (tgt := 46) hx hb dX5_putOnTape_4 (by decide) (fun c_10 => absurd c_10 (by decide)) (fun c_10 => ?_)
  refine lv_aload_n hx hb dX5_putOnTape_7 rfl (lv_at hl 1 rfl) ?_
  refine va_get (D := (dC, dI)) (ci := 5) (v := .int 15) (C := RX5) (T := TX5) (N := 13) hx hb hts hin5 hown hK hP 0 rfl rfl 1 (by decide) (hts (.fieldLink RX5 36 "SkiShots" "tapeLength" "I") (by decide +kernel)) (fun _ h9 => h9) rfl dX5_putOnTape_8 ?_
  refine lv_sipush (v := 1000) hx hb dX5_putOnTape_11 (by decide) ?_
  refine lv_icmp_ge (tgt := 46) hx hb dX5_putOnTape_14 (by decide) (fun c_11 => absurd c_11 (by decide)) (fun c_11 => ?_)
  refine lv_aload_n hx hb dX5_putOnTape_17 rfl (lv_at hl 1 rfl) ?_
  refine va_get (D := (dC, dI)) (ci := 5) (v := .ref qT) (C := RX5) (T := TX5) (N := 13) hx hb hts hin5 hown hK hP 0 rfl rfl 0 (by decide) (hts (.fieldLink RX5 9 "SkiShots" "tape" "[B") (by decide +kernel)) (fun _ h9 => h9) rfl dX5_putOnTape_18 ?_
  refine lv_aload_n hx hb dX5_putOnTape_21 rfl (lv_at hl 1 rfl) ?_
  refine va_get (D := (dC, dI)) (ci := 5) (v := .int 15) (C := RX5) (T := TX5) (N := 13) hx hb hts hin5 hown hK hP 0 rfl rfl 1 (by decide) (hts (.fieldLink RX5 36 "SkiShots" "tapeLength" "I") (by decide +kernel)) (fun _ h9 => h9) rfl dX5_putOnTape_22 ?_
  refine lv_iload_n hx hb dX5_putOnTape_25 rfl (lv_at hl 2 rfl) ?_
  refine lv_iload_n hx hb dX5_putOnTape_26 rfl (lv_at hl 0 rfl) ?_
  refine lv_ishr hx hb dX5_putOnTape_27 ?_
  refine lv_i2b hx hb dX5_putOnTape_28 rfl ?_
  refine va_bast hx hb hK hP hD hS 1 0 rfl rfl (by unfold vp_in; decide) dX5_putOnTape_29 (fun H locs hP hD hS => ?_)
  obtain ⟨f_12, ef_12⟩ : ∃ g : Nat → Int32, g = upd (f_9) (Int32.toNatClampNeg 15) (vp_nar .byte ((p0 >>> (0 &&& 31)).toInt8.toInt32)) := ⟨_, rfl⟩
  have hP : va_P (dC, dI) vwCl [(h0, .inr (5, [.ref qT, .int 15, .ref qF, .int 0, .int 0, .int ((-1)), .int 0, .ref qN, .int 0, .ref qR, .int 0, .int 0, .ref qC])), (qT, .inl (cT, 1000, .inl (f_12)))] H := by rw [ef_12]; exact hP
  have hD : va_D A [(h0, .inr (5, [.ref qT, .int 15, .ref qF, .int 0, .int 0, .int ((-1)), .int 0, .ref qN, .int 0, .ref qR, .int 0, .int 0, .ref qC])), (qT, .inl (cT, 1000, .inl (f_12)))] := by rw [ef_12]; exact hD
  refine lv_aload_n hx hb dX5_putOnTape_30 rfl (lv_at hl 1 rfl) ?_
  refine lv_dup hx hb dX5_putOnTape_31 rfl ?_
  refine va_get (D := (dC, dI)) (ci := 5) (v := .int 15) (C := RX5) (T := TX5) (N := 13) hx hb hts hin5 hown hK hP 0 rfl rfl 1 (by decide) (hts (.fieldLink RX5 36 "SkiShots" "tapeLength" "I") (by decide +kernel)) (fun _ h9 => h9) rfl dX5_putOnTape_32 ?_
  refine lv_iconst (v := 1) hx hb dX5_putOnTape_35 (by decide) ?_
  refine lv_iadd hx hb dX5_putOnTape_36 ?_
  rw [show (15 + 1 : Int32) = 16 from by decide]
  refine va_put (D := (dC, dI)) (ci := 5) (v := .int 16) (ty := .int) (C := RX5) (T := TX5) (N := 13) hx hb hts hin5 tyX5 tyX5_ok nmX5 hown hK hP hD hS 0 rfl rfl 1 (by decide) (hts (.fieldLink RX5 36 "SkiShots" "tapeLength" "I") (by decide +kernel)) (fun _ h9 => h9) rfl (by decide +kernel) rfl rfl (Nat.le_of_ble_eq_true rfl) dX5_putOnTape_37 (fun H locs hP hD hS => ?_)
  have hP : va_P (dC, dI) vwCl [(h0, .inr (5, [.ref qT, .int 16, .ref qF, .int 0, .int 0, .int ((-1)), .int 0, .ref qN, .int 0, .ref qR, .int 0, .int 0, .ref qC])), (qT, .inl (cT, 1000, .inl (f_12)))] H := hP
  have hD : va_D A [(h0, .inr (5, [.ref qT, .int 16, .ref qF, .int 0, .int 0, .int ((-1)), .int 0, .ref qN, .int 0, .ref qR, .int 0, .int 0, .ref qC])), (qT, .inl (cT, 1000, .inl (f_12)))] := hD
  refine lv_iinc (v := (-8)) (lv' := [(2, .int ((-8))), (0, .ref h0), (1, .int p0)]) hx hb dX5_putOnTape_40 hl (k := 0) rfl (by decide) (by decide) rfl (fun ls hl => ?_)
  refine lv_goto (tgt := 3) hx hb dX5_putOnTape_43 (by decide) ?_
  refine lv_iload_n hx hb dX5_putOnTape_3 rfl (lv_at hl 0 rfl) ?_
  refine lv_if_lt (tgt := 46) hx hb dX5_putOnTape_4 (by decide) (fun c_13 => ?_) (fun c_13 => absurd (by decide) c_13)
  have hP9 := hP.sub (ws' := [(h0, .inr (5, [.ref qT, .int 16, .ref qF, .int 0, .int 0, .int ((-1)), .int 0, .ref qN, .int 0, .ref qR, .int 0, .int 0, .ref qC])), (qT, .inl (cT, 1000, .inl (f_12)))]) [0, 1] rfl
  have hD9 := hD.sub (ws' := [(h0, .inr (5, [.ref qT, .int 16, .ref qF, .int 0, .int 0, .int ((-1)), .int 0, .ref qN, .int 0, .ref qR, .int 0, .int 0, .ref qC])), (qT, .inl (cT, 1000, .inl (f_12)))]) [0, 1] (by decide) rfl
  have hK9 := hK.sub (tys' := [(cT, .byte)]) [0] rfl
  exact W.vret hx hb hr (fun t ht hW => ⟨⟨(), rfl, trivial, f_12, by rw [ht]; exact hP9, va_K.moved hW.alike hK9, hD9⟩, hS.F ht⟩) hS.2.2 dX5_putOnTape_46
def wX5_putOnTape_16 : List Cond := .code yX5_putOnTape cX5_putOnTape 3 none :: ([.fieldLink RX5 36 "SkiShots" "tapeLength" "I", .fieldLink RX5 9 "SkiShots" "tape" "[B"] ++ wsX50)
set_option maxHeartbeats 4000000 in
set_option maxRecDepth 100000 in
theorem c_X5_putOnTape_16 (l : Launch) (dC : Nat → ClassId) (dI : Nat → Nat → Nat) (h0 : Nat) (qT : Nat) (qF : Nat) (qN : Nat) (qR : Nat) (qC : Nat) (cT : ClassId) (f : Nat → Int32) (p0 : Int32) (sz : Nat) : Met l yX5_putOnTape wX5_putOnTape_16 ({ frames := 0, cells := 0, slots := 0, locals := 0 }) (va_Pc [.ref h0, .int p0] (fun U => U.heap.size = sz ∧ va_P (dC, dI) vwCl [(h0, .inr (5, [.ref qT, .int 16, .ref qF, .int 0, .int 0, .int ((-1)), .int 0, .ref qN, .int 0, .ref qR, .int 0, .int 0, .ref qC])), (qT, .inl (cT, 1000, .inl (f)))] U.heap ∧ va_K (dC, dI) vwCl [(cT, .byte)] U ∧ va_D (fun _ => True) [(h0, .inr (5, [.ref qT, .int 16, .ref qF, .int 0, .int 0, .int ((-1)), .int 0, .ref qN, .int 0, .ref qR, .int 0, .int 0, .ref qC])), (qT, .inl (cT, 1000, .inl (f)))])) (va_Qv (fun (_ : Unit) => True) (fun _ t => ∃ (f2 : Nat → Int32), va_P (dC, dI) vwCl [(h0, .inr (5, [.ref qT, .int 20, .ref qF, .int 0, .int 0, .int ((-1)), .int 0, .ref qN, .int 0, .ref qR, .int 0, .int 0, .ref qC])), (qT, .inl (cT, 1000, .inl (f2)))] t.heap ∧ va_K (dC, dI) vwCl [(cT, .byte)] t ∧ va_D (va_A [(h0, .inr (5, [.ref qT, .int 16, .ref qF, .int 0, .int 0, .int ((-1)), .int 0, .ref qN, .int 0, .ref qR, .int 0, .int 0, .ref qC])), (qT, .inl (cT, 1000, .inl (f)))] sz) [(h0, .inr (5, [.ref qT, .int 20, .ref qF, .int 0, .int 0, .int ((-1)), .int 0, .ref qN, .int 0, .ref qR, .int 0, .int 0, .ref qC])), (qT, .inl (cT, 1000, .inl (f2)))]) (va_A [(h0, .inr (5, [.ref qT, .int 16, .ref qF, .int 0, .int 0, .int ((-1)), .int 0, .ref qN, .int 0, .ref qR, .int 0, .int 0, .ref qC])), (qT, .inl (cT, 1000, .inl (f)))] sz)) 0 0 (va_A [(h0, .inr (5, [.ref qT, .int 16, .ref qF, .int 0, .int 0, .int ((-1)), .int 0, .ref qN, .int 0, .ref qR, .int 0, .int 0, .ref qC])), (qT, .inl (cT, 1000, .inl (f)))] sz) := by
  refine Met.ofW (cc := cX5_putOnTape) (maxL := 3) (ret := none) (by decide) rfl ?_
  intro p e s m args below meth c s₁ B hml hv
  obtain ⟨rfl, hsz, hP, hK, hD0⟩ := hv
  have hx := B.exec
  have hb := B.bytes
  have hr := B.returns
  have hts := atoms_spec (ws := wX5_putOnTape_16) B.pre
  have hown : s.vm.findClass RX5 = some m.cls := findClass_of_methodNamed B.named
  have hlocks := B.notSynchronized
  have hin5 : ∀ w ∈ wsX50, w ∈ wX5_putOnTape_16 := by decide +kernel
  subst hsz
  have hD := hD0.self (sz := s.heap.size)
  generalize hAe : va_A [(h0, .inr (5, [.ref qT, .int 16, .ref qF, .int 0, .int 0, .int ((-1)), .int 0, .ref qN, .int 0, .ref qR, .int 0, .int 0, .ref qC])), (qT, .inl (cT, 1000, .inl (f)))] s.heap.size = A at hD ⊢
  have hA : ∀ q : Nat, s.heap.size ≤ q → A q := fun q h => by rw [← hAe]; exact Or.inr h
  have hS : va_S A s.heap s.heap [] := va_S.rf
  have hP : va_P (dC, dI) vwCl [(h0, .inr (5, [.ref qT, .int 16, .ref qF, .int 0, .int 0, .int ((-1)), .int 0, .ref qN, .int 0, .ref qR, .int 0, .int 0, .ref qC])), (qT, .inl (cT, 1000, .inl (f)))] s.heap := hP
  have hl := lv_entry ([.ref h0, .int p0]) (n := 3) (Nat.le_of_ble_eq_true rfl)
  rw [lg_entry_eq]
  generalize (lg_sl ([.ref h0, .int p0]) ++ List.replicate (3 - (lg_sl ([.ref h0, .int p0])).length) Slot.unset).toArray = ls at hl ⊢
  have hl : lv_has ls 3 [(0, .ref h0), (1, .int p0)] := hl
  refine lv_bipush (v := 24) hx hb dX5_putOnTape_0 (by decide) ?_
  refine lv_istore_n (lv' := [(2, .int 24), (0, .ref h0), (1, .int p0)]) hx hb dX5_putOnTape_2 rfl hl (by decide) rfl (fun ls hl => ?_)
  refine lv_iload_n hx hb dX5_putOnTape_3 rfl (lv_at hl 0 rfl) ?_
  refine lv_if_lt (tgt := 46) hx hb dX5_putOnTape_4 (by decide) (fun c_1 => absurd c_1 (by decide)) (fun c_1 => ?_)
  refine lv_aload_n hx hb dX5_putOnTape_7 rfl (lv_at hl 1 rfl) ?_
  refine va_get (D := (dC, dI)) (ci := 5) (v := .int 16) (C := RX5) (T := TX5) (N := 13) hx hb hts hin5 hown hK hP 0 rfl rfl 1 (by decide) (hts (.fieldLink RX5 36 "SkiShots" "tapeLength" "I") (by decide +kernel)) (fun _ h9 => h9) rfl dX5_putOnTape_8 ?_
  refine lv_sipush (v := 1000) hx hb dX5_putOnTape_11 (by decide) ?_
  refine lv_icmp_ge (tgt := 46) hx hb dX5_putOnTape_14 (by decide) (fun c_2 => absurd c_2 (by decide)) (fun c_2 => ?_)
  refine lv_aload_n hx hb dX5_putOnTape_17 rfl (lv_at hl 1 rfl) ?_
  refine va_get (D := (dC, dI)) (ci := 5) (v := .ref qT) (C := RX5) (T := TX5) (N := 13) hx hb hts hin5 hown hK hP 0 rfl rfl 0 (by decide) (hts (.fieldLink RX5 9 "SkiShots" "tape" "[B") (by decide +kernel)) (fun _ h9 => h9) rfl dX5_putOnTape_18 ?_
  refine lv_aload_n hx hb dX5_putOnTape_21 rfl (lv_at hl 1 rfl) ?_
  refine va_get (D := (dC, dI)) (ci := 5) (v := .int 16) (C := RX5) (T := TX5) (N := 13) hx hb hts hin5 hown hK hP 0 rfl rfl 1 (by decide) (hts (.fieldLink RX5 36 "SkiShots" "tapeLength" "I") (by decide +kernel)) (fun _ h9 => h9) rfl dX5_putOnTape_22 ?_
  refine lv_iload_n hx hb dX5_putOnTape_25 rfl (lv_at hl 2 rfl) ?_
  refine lv_iload_n hx hb dX5_putOnTape_26 rfl (lv_at hl 0 rfl) ?_
  refine lv_ishr hx hb dX5_putOnTape_27 ?_
  refine lv_i2b hx hb dX5_putOnTape_28 rfl ?_
  refine va_bast hx hb hK hP hD hS 1 0 rfl rfl (by unfold vp_in; decide) dX5_putOnTape_29 (fun H locs hP hD hS => ?_)
  obtain ⟨f_3, ef_3⟩ : ∃ g : Nat → Int32, g = upd (f) (Int32.toNatClampNeg 16) (vp_nar .byte ((p0 >>> (24 &&& 31)).toInt8.toInt32)) := ⟨_, rfl⟩
  have hP : va_P (dC, dI) vwCl [(h0, .inr (5, [.ref qT, .int 16, .ref qF, .int 0, .int 0, .int ((-1)), .int 0, .ref qN, .int 0, .ref qR, .int 0, .int 0, .ref qC])), (qT, .inl (cT, 1000, .inl (f_3)))] H := by rw [ef_3]; exact hP
  have hD : va_D A [(h0, .inr (5, [.ref qT, .int 16, .ref qF, .int 0, .int 0, .int ((-1)), .int 0, .ref qN, .int 0, .ref qR, .int 0, .int 0, .ref qC])), (qT, .inl (cT, 1000, .inl (f_3)))] := by rw [ef_3]; exact hD
  refine lv_aload_n hx hb dX5_putOnTape_30 rfl (lv_at hl 1 rfl) ?_
  refine lv_dup hx hb dX5_putOnTape_31 rfl ?_
  refine va_get (D := (dC, dI)) (ci := 5) (v := .int 16) (C := RX5) (T := TX5) (N := 13) hx hb hts hin5 hown hK hP 0 rfl rfl 1 (by decide) (hts (.fieldLink RX5 36 "SkiShots" "tapeLength" "I") (by decide +kernel)) (fun _ h9 => h9) rfl dX5_putOnTape_32 ?_
  refine lv_iconst (v := 1) hx hb dX5_putOnTape_35 (by decide) ?_
  refine lv_iadd hx hb dX5_putOnTape_36 ?_
  rw [show (16 + 1 : Int32) = 17 from by decide]
  refine va_put (D := (dC, dI)) (ci := 5) (v := .int 17) (ty := .int) (C := RX5) (T := TX5) (N := 13) hx hb hts hin5 tyX5 tyX5_ok nmX5 hown hK hP hD hS 0 rfl rfl 1 (by decide) (hts (.fieldLink RX5 36 "SkiShots" "tapeLength" "I") (by decide +kernel)) (fun _ h9 => h9) rfl (by decide +kernel) rfl rfl (Nat.le_of_ble_eq_true rfl) dX5_putOnTape_37 (fun H locs hP hD hS => ?_)
  have hP : va_P (dC, dI) vwCl [(h0, .inr (5, [.ref qT, .int 17, .ref qF, .int 0, .int 0, .int ((-1)), .int 0, .ref qN, .int 0, .ref qR, .int 0, .int 0, .ref qC])), (qT, .inl (cT, 1000, .inl (f_3)))] H := hP
  have hD : va_D A [(h0, .inr (5, [.ref qT, .int 17, .ref qF, .int 0, .int 0, .int ((-1)), .int 0, .ref qN, .int 0, .ref qR, .int 0, .int 0, .ref qC])), (qT, .inl (cT, 1000, .inl (f_3)))] := hD
  refine lv_iinc (v := 16) (lv' := [(2, .int 16), (0, .ref h0), (1, .int p0)]) hx hb dX5_putOnTape_40 hl (k := 0) rfl (by decide) (by decide) rfl (fun ls hl => ?_)
  refine lv_goto (tgt := 3) hx hb dX5_putOnTape_43 (by decide) ?_
  refine lv_iload_n hx hb dX5_putOnTape_3 rfl (lv_at hl 0 rfl) ?_
  refine lv_if_lt (tgt := 46) hx hb dX5_putOnTape_4 (by decide) (fun c_4 => absurd c_4 (by decide)) (fun c_4 => ?_)
  refine lv_aload_n hx hb dX5_putOnTape_7 rfl (lv_at hl 1 rfl) ?_
  refine va_get (D := (dC, dI)) (ci := 5) (v := .int 17) (C := RX5) (T := TX5) (N := 13) hx hb hts hin5 hown hK hP 0 rfl rfl 1 (by decide) (hts (.fieldLink RX5 36 "SkiShots" "tapeLength" "I") (by decide +kernel)) (fun _ h9 => h9) rfl dX5_putOnTape_8 ?_
  refine lv_sipush (v := 1000) hx hb dX5_putOnTape_11 (by decide) ?_
  refine lv_icmp_ge (tgt := 46) hx hb dX5_putOnTape_14 (by decide) (fun c_5 => absurd c_5 (by decide)) (fun c_5 => ?_)
  refine lv_aload_n hx hb dX5_putOnTape_17 rfl (lv_at hl 1 rfl) ?_
  refine va_get (D := (dC, dI)) (ci := 5) (v := .ref qT) (C := RX5) (T := TX5) (N := 13) hx hb hts hin5 hown hK hP 0 rfl rfl 0 (by decide) (hts (.fieldLink RX5 9 "SkiShots" "tape" "[B") (by decide +kernel)) (fun _ h9 => h9) rfl dX5_putOnTape_18 ?_
  refine lv_aload_n hx hb dX5_putOnTape_21 rfl (lv_at hl 1 rfl) ?_
  refine va_get (D := (dC, dI)) (ci := 5) (v := .int 17) (C := RX5) (T := TX5) (N := 13) hx hb hts hin5 hown hK hP 0 rfl rfl 1 (by decide) (hts (.fieldLink RX5 36 "SkiShots" "tapeLength" "I") (by decide +kernel)) (fun _ h9 => h9) rfl dX5_putOnTape_22 ?_
  refine lv_iload_n hx hb dX5_putOnTape_25 rfl (lv_at hl 2 rfl) ?_
  refine lv_iload_n hx hb dX5_putOnTape_26 rfl (lv_at hl 0 rfl) ?_
  refine lv_ishr hx hb dX5_putOnTape_27 ?_
  refine lv_i2b hx hb dX5_putOnTape_28 rfl ?_
  refine va_bast hx hb hK hP hD hS 1 0 rfl rfl (by unfold vp_in; decide) dX5_putOnTape_29 (fun H locs hP hD hS => ?_)
  obtain ⟨f_6, ef_6⟩ : ∃ g : Nat → Int32, g = upd (f_3) (Int32.toNatClampNeg 17) (vp_nar .byte ((p0 >>> (16 &&& 31)).toInt8.toInt32)) := ⟨_, rfl⟩
  have hP : va_P (dC, dI) vwCl [(h0, .inr (5, [.ref qT, .int 17, .ref qF, .int 0, .int 0, .int ((-1)), .int 0, .ref qN, .int 0, .ref qR, .int 0, .int 0, .ref qC])), (qT, .inl (cT, 1000, .inl (f_6)))] H := by rw [ef_6]; exact hP
  have hD : va_D A [(h0, .inr (5, [.ref qT, .int 17, .ref qF, .int 0, .int 0, .int ((-1)), .int 0, .ref qN, .int 0, .ref qR, .int 0, .int 0, .ref qC])), (qT, .inl (cT, 1000, .inl (f_6)))] := by rw [ef_6]; exact hD
  refine lv_aload_n hx hb dX5_putOnTape_30 rfl (lv_at hl 1 rfl) ?_
  refine lv_dup hx hb dX5_putOnTape_31 rfl ?_
  refine va_get (D := (dC, dI)) (ci := 5) (v := .int 17) (C := RX5) (T := TX5) (N := 13) hx hb hts hin5 hown hK hP 0 rfl rfl 1 (by decide) (hts (.fieldLink RX5 36 "SkiShots" "tapeLength" "I") (by decide +kernel)) (fun _ h9 => h9) rfl dX5_putOnTape_32 ?_
  refine lv_iconst (v := 1) hx hb dX5_putOnTape_35 (by decide) ?_
  refine lv_iadd hx hb dX5_putOnTape_36 ?_
  rw [show (17 + 1 : Int32) = 18 from by decide]
  refine va_put (D := (dC, dI)) (ci := 5) (v := .int 18) (ty := .int) (C := RX5) (T := TX5) (N := 13) hx hb hts hin5 tyX5 tyX5_ok nmX5 hown hK hP hD hS 0 rfl rfl 1 (by decide) (hts (.fieldLink RX5 36 "SkiShots" "tapeLength" "I") (by decide +kernel)) (fun _ h9 => h9) rfl (by decide +kernel) rfl rfl (Nat.le_of_ble_eq_true rfl) dX5_putOnTape_37 (fun H locs hP hD hS => ?_)
  have hP : va_P (dC, dI) vwCl [(h0, .inr (5, [.ref qT, .int 18, .ref qF, .int 0, .int 0, .int ((-1)), .int 0, .ref qN, .int 0, .ref qR, .int 0, .int 0, .ref qC])), (qT, .inl (cT, 1000, .inl (f_6)))] H := hP
  have hD : va_D A [(h0, .inr (5, [.ref qT, .int 18, .ref qF, .int 0, .int 0, .int ((-1)), .int 0, .ref qN, .int 0, .ref qR, .int 0, .int 0, .ref qC])), (qT, .inl (cT, 1000, .inl (f_6)))] := hD
  refine lv_iinc (v := 8) (lv' := [(2, .int 8), (0, .ref h0), (1, .int p0)]) hx hb dX5_putOnTape_40 hl (k := 0) rfl (by decide) (by decide) rfl (fun ls hl => ?_)
  refine lv_goto (tgt := 3) hx hb dX5_putOnTape_43 (by decide) ?_
  refine lv_iload_n hx hb dX5_putOnTape_3 rfl (lv_at hl 0 rfl) ?_
  refine lv_if_lt (tgt := 46) hx hb dX5_putOnTape_4 (by decide) (fun c_7 => absurd c_7 (by decide)) (fun c_7 => ?_)
  refine lv_aload_n hx hb dX5_putOnTape_7 rfl (lv_at hl 1 rfl) ?_
  refine va_get (D := (dC, dI)) (ci := 5) (v := .int 18) (C := RX5) (T := TX5) (N := 13) hx hb hts hin5 hown hK hP 0 rfl rfl 1 (by decide) (hts (.fieldLink RX5 36 "SkiShots" "tapeLength" "I") (by decide +kernel)) (fun _ h9 => h9) rfl dX5_putOnTape_8 ?_
  refine lv_sipush (v := 1000) hx hb dX5_putOnTape_11 (by decide) ?_
  refine lv_icmp_ge (tgt := 46) hx hb dX5_putOnTape_14 (by decide) (fun c_8 => absurd c_8 (by decide)) (fun c_8 => ?_)
  refine lv_aload_n hx hb dX5_putOnTape_17 rfl (lv_at hl 1 rfl) ?_
  refine va_get (D := (dC, dI)) (ci := 5) (v := .ref qT) (C := RX5) (T := TX5) (N := 13) hx hb hts hin5 hown hK hP 0 rfl rfl 0 (by decide) (hts (.fieldLink RX5 9 "SkiShots" "tape" "[B") (by decide +kernel)) (fun _ h9 => h9) rfl dX5_putOnTape_18 ?_
  refine lv_aload_n hx hb dX5_putOnTape_21 rfl (lv_at hl 1 rfl) ?_
  refine va_get (D := (dC, dI)) (ci := 5) (v := .int 18) (C := RX5) (T := TX5) (N := 13) hx hb hts hin5 hown hK hP 0 rfl rfl 1 (by decide) (hts (.fieldLink RX5 36 "SkiShots" "tapeLength" "I") (by decide +kernel)) (fun _ h9 => h9) rfl dX5_putOnTape_22 ?_
  refine lv_iload_n hx hb dX5_putOnTape_25 rfl (lv_at hl 2 rfl) ?_
  refine lv_iload_n hx hb dX5_putOnTape_26 rfl (lv_at hl 0 rfl) ?_
  refine lv_ishr hx hb dX5_putOnTape_27 ?_
  refine lv_i2b hx hb dX5_putOnTape_28 rfl ?_
  refine va_bast hx hb hK hP hD hS 1 0 rfl rfl (by unfold vp_in; decide) dX5_putOnTape_29 (fun H locs hP hD hS => ?_)
  obtain ⟨f_9, ef_9⟩ : ∃ g : Nat → Int32, g = upd (f_6) (Int32.toNatClampNeg 18) (vp_nar .byte ((p0 >>> (8 &&& 31)).toInt8.toInt32)) := ⟨_, rfl⟩
  have hP : va_P (dC, dI) vwCl [(h0, .inr (5, [.ref qT, .int 18, .ref qF, .int 0, .int 0, .int ((-1)), .int 0, .ref qN, .int 0, .ref qR, .int 0, .int 0, .ref qC])), (qT, .inl (cT, 1000, .inl (f_9)))] H := by rw [ef_9]; exact hP
  have hD : va_D A [(h0, .inr (5, [.ref qT, .int 18, .ref qF, .int 0, .int 0, .int ((-1)), .int 0, .ref qN, .int 0, .ref qR, .int 0, .int 0, .ref qC])), (qT, .inl (cT, 1000, .inl (f_9)))] := by rw [ef_9]; exact hD
  refine lv_aload_n hx hb dX5_putOnTape_30 rfl (lv_at hl 1 rfl) ?_
  refine lv_dup hx hb dX5_putOnTape_31 rfl ?_
  refine va_get (D := (dC, dI)) (ci := 5) (v := .int 18) (C := RX5) (T := TX5) (N := 13) hx hb hts hin5 hown hK hP 0 rfl rfl 1 (by decide) (hts (.fieldLink RX5 36 "SkiShots" "tapeLength" "I") (by decide +kernel)) (fun _ h9 => h9) rfl dX5_putOnTape_32 ?_
  refine lv_iconst (v := 1) hx hb dX5_putOnTape_35 (by decide) ?_
  refine lv_iadd hx hb dX5_putOnTape_36 ?_
  rw [show (18 + 1 : Int32) = 19 from by decide]
  refine va_put (D := (dC, dI)) (ci := 5) (v := .int 19) (ty := .int) (C := RX5) (T := TX5) (N := 13) hx hb hts hin5 tyX5 tyX5_ok nmX5 hown hK hP hD hS 0 rfl rfl 1 (by decide) (hts (.fieldLink RX5 36 "SkiShots" "tapeLength" "I") (by decide +kernel)) (fun _ h9 => h9) rfl (by decide +kernel) rfl rfl (Nat.le_of_ble_eq_true rfl) dX5_putOnTape_37 (fun H locs hP hD hS => ?_)
  have hP : va_P (dC, dI) vwCl [(h0, .inr (5, [.ref qT, .int 19, .ref qF, .int 0, .int 0, .int ((-1)), .int 0, .ref qN, .int 0, .ref qR, .int 0, .int 0, .ref qC])), (qT, .inl (cT, 1000, .inl (f_9)))] H := hP
  have hD : va_D A [(h0, .inr (5, [.ref qT, .int 19, .ref qF, .int 0, .int 0, .int ((-1)), .int 0, .ref qN, .int 0, .ref qR, .int 0, .int 0, .ref qC])), (qT, .inl (cT, 1000, .inl (f_9)))] := hD
  refine lv_iinc (v := 0) (lv' := [(2, .int 0), (0, .ref h0), (1, .int p0)]) hx hb dX5_putOnTape_40 hl (k := 0) rfl (by decide) (by decide) rfl (fun ls hl => ?_)
  refine lv_goto (tgt := 3) hx hb dX5_putOnTape_43 (by decide) ?_
  refine lv_iload_n hx hb dX5_putOnTape_3 rfl (lv_at hl 0 rfl) ?_
  refine lv_if_lt (tgt := 46) hx hb dX5_putOnTape_4 (by decide) (fun c_10 => absurd c_10 (by decide)) (fun c_10 => ?_)
  refine lv_aload_n hx hb dX5_putOnTape_7 rfl (lv_at hl 1 rfl) ?_
  refine va_get (D := (dC, dI)) (ci := 5) (v := .int 19) (C := RX5) (T := TX5) (N := 13) hx hb hts hin5 hown hK hP 0 rfl rfl 1 (by decide) (hts (.fieldLink RX5 36 "SkiShots" "tapeLength" "I") (by decide +kernel)) (fun _ h9 => h9) rfl dX5_putOnTape_8 ?_
  refine lv_sipush (v := 1000) hx hb dX5_putOnTape_11 (by decide) ?_
  refine lv_icmp_ge (tgt := 46) hx hb dX5_putOnTape_14 (by decide) (fun c_11 => absurd c_11 (by decide)) (fun c_11 => ?_)
  refine lv_aload_n hx hb dX5_putOnTape_17 rfl (lv_at hl 1 rfl) ?_
  refine va_get (D := (dC, dI)) (ci := 5) (v := .ref qT) (C := RX5) (T := TX5) (N := 13) hx hb hts hin5 hown hK hP 0 rfl rfl 0 (by decide) (hts (.fieldLink RX5 9 "SkiShots" "tape" "[B") (by decide +kernel)) (fun _ h9 => h9) rfl dX5_putOnTape_18 ?_
  refine lv_aload_n hx hb dX5_putOnTape_21 rfl (lv_at hl 1 rfl) ?_
  refine va_get (D := (dC, dI)) (ci := 5) (v := .int 19) (C := RX5) (T := TX5) (N := 13) hx hb hts hin5 hown hK hP 0 rfl rfl 1 (by decide) (hts (.fieldLink RX5 36 "SkiShots" "tapeLength" "I") (by decide +kernel)) (fun _ h9 => h9) rfl dX5_putOnTape_22 ?_
  refine lv_iload_n hx hb dX5_putOnTape_25 rfl (lv_at hl 2 rfl) ?_
  refine lv_iload_n hx hb dX5_putOnTape_26 rfl (lv_at hl 0 rfl) ?_
  refine lv_ishr hx hb dX5_putOnTape_27 ?_
  refine lv_i2b hx hb dX5_putOnTape_28 rfl ?_
  refine va_bast hx hb hK hP hD hS 1 0 rfl rfl (by unfold vp_in; decide) dX5_putOnTape_29 (fun H locs hP hD hS => ?_)
  obtain ⟨f_12, ef_12⟩ : ∃ g : Nat → Int32, g = upd (f_9) (Int32.toNatClampNeg 19) (vp_nar .byte ((p0 >>> (0 &&& 31)).toInt8.toInt32)) := ⟨_, rfl⟩
  have hP : va_P (dC, dI) vwCl [(h0, .inr (5, [.ref qT, .int 19, .ref qF, .int 0, .int 0, .int ((-1)), .int 0, .ref qN, .int 0, .ref qR, .int 0, .int 0, .ref qC])), (qT, .inl (cT, 1000, .inl (f_12)))] H := by rw [ef_12]; exact hP
  have hD : va_D A [(h0, .inr (5, [.ref qT, .int 19, .ref qF, .int 0, .int 0, .int ((-1)), .int 0, .ref qN, .int 0, .ref qR, .int 0, .int 0, .ref qC])), (qT, .inl (cT, 1000, .inl (f_12)))] := by rw [ef_12]; exact hD
  refine lv_aload_n hx hb dX5_putOnTape_30 rfl (lv_at hl 1 rfl) ?_
  refine lv_dup hx hb dX5_putOnTape_31 rfl ?_
  refine va_get (D := (dC, dI)) (ci := 5) (v := .int 19) (C := RX5) (T := TX5) (N := 13) hx hb hts hin5 hown hK hP 0 rfl rfl 1 (by decide) (hts (.fieldLink RX5 36 "SkiShots" "tapeLength" "I") (by decide +kernel)) (fun _ h9 => h9) rfl dX5_putOnTape_32 ?_
  refine lv_iconst (v := 1) hx hb dX5_putOnTape_35 (by decide) ?_
  refine lv_iadd hx hb dX5_putOnTape_36 ?_
  rw [show (19 + 1 : Int32) = 20 from by decide]
  refine va_put (D := (dC, dI)) (ci := 5) (v := .int 20) (ty := .int) (C := RX5) (T := TX5) (N := 13) hx hb hts hin5 tyX5 tyX5_ok nmX5 hown hK hP hD hS 0 rfl rfl 1 (by decide) (hts (.fieldLink RX5 36 "SkiShots" "tapeLength" "I") (by decide +kernel)) (fun _ h9 => h9) rfl (by decide +kernel) rfl rfl (Nat.le_of_ble_eq_true rfl) dX5_putOnTape_37 (fun H locs hP hD hS => ?_)
  have hP : va_P (dC, dI) vwCl [(h0, .inr (5, [.ref qT, .int 20, .ref qF, .int 0, .int 0, .int ((-1)), .int 0, .ref qN, .int 0, .ref qR, .int 0, .int 0, .ref qC])), (qT, .inl (cT, 1000, .inl (f_12)))] H := hP
  have hD : va_D A [(h0, .inr (5, [.ref qT, .int 20, .ref qF, .int 0, .int 0, .int ((-1)), .int 0, .ref qN, .int 0, .ref qR, .int 0, .int 0, .ref qC])), (qT, .inl (cT, 1000, .inl (f_12)))] := hD
  refine lv_iinc (v := (-8)) (lv' := [(2, .int ((-8))), (0, .ref h0), (1, .int p0)]) hx hb dX5_putOnTape_40 hl (k := 0) rfl (by decide) (by decide) rfl (fun ls hl => ?_)
  refine lv_goto (tgt := 3) hx hb dX5_putOnTape_43 (by decide) ?_
  refine lv_iload_n hx hb dX5_putOnTape_3 rfl (lv_at hl 0 rfl) ?_
  refine lv_if_lt (tgt := 46) hx hb dX5_putOnTape_4 (by decide) (fun c_13 => ?_) (fun c_13 => absurd (by decide) c_13)
  have hP9 := hP.sub (ws' := [(h0, .inr (5, [.ref qT, .int 20, .ref qF, .int 0, .int 0, .int ((-1)), .int 0, .ref qN, .int 0, .ref qR, .int 0, .int 0, .ref qC])), (qT, .inl (cT, 1000, .inl (f_12)))]) [0, 1] rfl
  have hD9 := hD.sub (ws' := [(h0, .inr (5, [.ref qT, .int 20, .ref qF, .int 0, .int 0, .int ((-1)), .int 0, .ref qN, .int 0, .ref qR, .int 0, .int 0, .ref qC])), (qT, .inl (cT, 1000, .inl (f_12)))]) [0, 1] (by decide) rfl
  have hK9 := hK.sub (tys' := [(cT, .byte)]) [0] rfl
  exact W.vret hx hb hr (fun t ht hW => ⟨⟨(), rfl, trivial, f_12, by rw [ht]; exact hP9, va_K.moved hW.alike hK9, hD9⟩, hS.F ht⟩) hS.2.2 dX5_putOnTape_46
def wX5_feed : List Cond := .code yX5_feed cX5_feed 6 (some .int) :: ([.fieldLink RX5 36 "SkiShots" "tapeLength" "I", .methodLink RX5 39 yX5_putOnTape, .instanceMethod yX5_putOnTape, .selects RX5 yX5_putOnTape yX5_putOnTape, .initialized RX5, .code yX5_putOnTape cX5_putOnTape 3 none, .fieldLink RX5 9 "SkiShots" "tape" "[B"] ++ wsX50)
set_option maxRecDepth 20000 in
theorem gX5_feed_c_X5_putOnTape_0_3 : GoodIn wX5_feed (wsV RX5 39 RX5 yX5_putOnTape wX5_putOnTape_0) := goodIn_p _ [6] rfl (by decide +kernel)
set_option maxRecDepth 20000 in
theorem gX5_feed_c_X5_putOnTape_4_7 : GoodIn wX5_feed (wsV RX5 39 RX5 yX5_putOnTape wX5_putOnTape_4) := goodIn_p _ [6] rfl (by decide +kernel)
set_option maxRecDepth 20000 in
theorem gX5_feed_c_X5_putOnTape_8_11 : GoodIn wX5_feed (wsV RX5 39 RX5 yX5_putOnTape wX5_putOnTape_8) := goodIn_p _ [6] rfl (by decide +kernel)
set_option maxRecDepth 20000 in
theorem gX5_feed_c_X5_putOnTape_12_15 : GoodIn wX5_feed (wsV RX5 39 RX5 yX5_putOnTape wX5_putOnTape_12) := goodIn_p _ [6] rfl (by decide +kernel)
set_option maxRecDepth 20000 in
theorem gX5_feed_c_X5_putOnTape_16_19 : GoodIn wX5_feed (wsV RX5 39 RX5 yX5_putOnTape wX5_putOnTape_16) := goodIn_p _ [6] rfl (by decide +kernel)
set_option maxHeartbeats 4000000 in
set_option maxRecDepth 100000 in
theorem c_X5_feed (l : Launch) (dC : Nat → ClassId) (dI : Nat → Nat → Nat) (h0 : Nat) (qT : Nat) (qF : Nat) (qN : Nat) (qR : Nat) (qC : Nat) (cT : ClassId) (f : Nat → Int32) (p0 : Int32) (p1 : Int32) (p2 : Int32) (p3 : Int32) (p4 : Int32) (sz : Nat) : Met l yX5_feed wX5_feed ({ frames := 1, cells := 0, slots := 0, locals := 22 }) (va_Pc [.ref h0, .int p0, .int p1, .int p2, .int p3, .int p4] (fun U => U.heap.size = sz ∧ va_P (dC, dI) vwCl [(h0, .inr (5, [.ref qT, .int 0, .ref qF, .int 0, .int 0, .int ((-1)), .int 0, .ref qN, .int 0, .ref qR, .int 0, .int 0, .ref qC])), (qT, .inl (cT, 1000, .inl (f)))] U.heap ∧ va_K (dC, dI) vwCl [(cT, .byte)] U ∧ va_D (fun _ => True) [(h0, .inr (5, [.ref qT, .int 0, .ref qF, .int 0, .int 0, .int ((-1)), .int 0, .ref qN, .int 0, .ref qR, .int 0, .int 0, .ref qC])), (qT, .inl (cT, 1000, .inl (f)))])) (va_Qi (fun (r : Int32) (_ : Unit) => r = 20) (fun _ t => True) (va_A [(h0, .inr (5, [.ref qT, .int 0, .ref qF, .int 0, .int 0, .int ((-1)), .int 0, .ref qN, .int 0, .ref qR, .int 0, .int 0, .ref qC])), (qT, .inl (cT, 1000, .inl (f)))] sz)) 0 0 (va_A [(h0, .inr (5, [.ref qT, .int 0, .ref qF, .int 0, .int 0, .int ((-1)), .int 0, .ref qN, .int 0, .ref qR, .int 0, .int 0, .ref qC])), (qT, .inl (cT, 1000, .inl (f)))] sz) := by
  refine Met.ofW (cc := cX5_feed) (maxL := 6) (ret := (some .int)) (by decide) rfl ?_
  intro p e s m args below meth c s₁ B hml hv
  obtain ⟨rfl, hsz, hP, hK, hD0⟩ := hv
  have hx := B.exec
  have hb := B.bytes
  have hr := B.returns
  have hts := atoms_spec (ws := wX5_feed) B.pre
  have hown : s.vm.findClass RX5 = some m.cls := findClass_of_methodNamed B.named
  have hlocks := B.notSynchronized
  have hin5 : ∀ w ∈ wsX50, w ∈ wX5_feed := by decide +kernel
  subst hsz
  have hD := hD0.self (sz := s.heap.size)
  generalize hAe : va_A [(h0, .inr (5, [.ref qT, .int 0, .ref qF, .int 0, .int 0, .int ((-1)), .int 0, .ref qN, .int 0, .ref qR, .int 0, .int 0, .ref qC])), (qT, .inl (cT, 1000, .inl (f)))] s.heap.size = A at hD ⊢
  have hA : ∀ q : Nat, s.heap.size ≤ q → A q := fun q h => by rw [← hAe]; exact Or.inr h
  have hS : va_S A s.heap s.heap [] := va_S.rf
  have hP : va_P (dC, dI) vwCl [(h0, .inr (5, [.ref qT, .int 0, .ref qF, .int 0, .int 0, .int ((-1)), .int 0, .ref qN, .int 0, .ref qR, .int 0, .int 0, .ref qC])), (qT, .inl (cT, 1000, .inl (f)))] s.heap := hP
  have hl := lv_entry ([.ref h0, .int p0, .int p1, .int p2, .int p3, .int p4]) (n := 6) (Nat.le_of_ble_eq_true rfl)
  rw [lg_entry_eq]
  generalize (lg_sl ([.ref h0, .int p0, .int p1, .int p2, .int p3, .int p4]) ++ List.replicate (6 - (lg_sl ([.ref h0, .int p0, .int p1, .int p2, .int p3, .int p4])).length) Slot.unset).toArray = ls at hl ⊢
  have hl : lv_has ls 6 [(0, .ref h0), (1, .int p0), (2, .int p1), (3, .int p2), (4, .int p3), (5, .int p4)] := hl
  refine lv_aload_n hx hb dX5_feed_0 rfl (lv_at hl 0 rfl) ?_
  refine va_get (D := (dC, dI)) (ci := 5) (v := .int 0) (C := RX5) (T := TX5) (N := 13) hx hb hts hin5 hown hK hP 0 rfl rfl 1 (by decide) (hts (.fieldLink RX5 36 "SkiShots" "tapeLength" "I") (by decide +kernel)) (fun _ h9 => h9) rfl dX5_feed_1 ?_
  refine lv_bipush (v := 20) hx hb dX5_feed_4 (by decide) ?_
  refine lv_iadd hx hb dX5_feed_6 ?_
  rw [show (0 + 20 : Int32) = 20 from by decide]
  refine lv_sipush (v := 1000) hx hb dX5_feed_7 (by decide) ?_
  refine lv_icmp_le (tgt := 15) hx hb dX5_feed_10 (by decide) (fun c_1 => ?_) (fun c_1 => absurd (by decide) c_1)
  refine lv_aload_n hx hb dX5_feed_15 rfl (lv_at hl 0 rfl) ?_
  refine lv_iload_n hx hb dX5_feed_16 rfl (lv_at hl 1 rfl) ?_
  have hPc := hP.sub (ws' := [(h0, .inr (5, [.ref qT, .int 0, .ref qF, .int 0, .int 0, .int ((-1)), .int 0, .ref qN, .int 0, .ref qR, .int 0, .int 0, .ref qC])), (qT, .inl (cT, 1000, .inl (f)))]) [0, 1] rfl
  have hDc := hD.sub (ws' := [(h0, .inr (5, [.ref qT, .int 0, .ref qF, .int 0, .int 0, .int ((-1)), .int 0, .ref qN, .int 0, .ref qR, .int 0, .int 0, .ref qC])), (qT, .inl (cT, 1000, .inl (f)))]) [0, 1] (by decide) rfl
  have hKc := hK.sub (tys' := [(cT, .byte)]) [0] rfl
  have hFc := va_free (wc := [(h0, .inr (5, [.ref qT, .int 0, .ref qF, .int 0, .int 0, .int ((-1)), .int 0, .ref qN, .int 0, .ref qR, .int 0, .int 0, .ref qC])), (qT, .inl (cT, 1000, .inl (f)))]) hD hS hA [0, 1] rfl
  refine va_callv (va_runV (As := [.int p0]) (rest := []) ⟨hx, hb, hml, hown, hts⟩ (c_X5_putOnTape_0 l dC dI h0 qT qF qN qR qC cT (f) p0 s.heap.size) (cwV 1 hts gX5_feed_c_X5_putOnTape_0_3 rfl rfl rfl (by decide +kernel) ⟨Nat.le_of_ble_eq_true rfl, Nat.le_of_ble_eq_true rfl⟩) ⟨fun a U g mk q => by obtain ⟨q0, q1, qP, qK, qD⟩ := q; exact ⟨q0, q1, qP, va_K.moved (u := U) (U := U.calling g mk a) (Vm.Alike.refl U.vm) qK, qD⟩, va_recv hKc hPc (ci := 5) (q0 := 0) rfl rfl, fun U hU hW => ⟨rfl, by rw [hU], by rw [hU]; exact hPc, va_K.moved hW.alike hKc, hDc.weaken (fun _ _ _ _ => trivial)⟩⟩ rfl rfl hl.1 rfl (lv_room (Nat.le_of_ble_eq_true rfl)) dX5_feed_17 ⟨show (0 + 0 : Nat) ≤ 0 from by omega, show (0 + 0 : Nat) ≤ 0 from by omega⟩) hS (fun q _ h => hFc q h) hFc (fun u t H1 locs ht hvm hw hB hz1 hk1 hS => ?_)
  obtain ⟨f2_4, hP1, hK1, hD1⟩ := hB
  rw [ht] at hP1
  have hK1 := va_K.moved hvm.symm hK1
  try dsimp only at hw
  obtain ⟨hP, hD⟩ := va_join (wr := []) (w1 := [(h0, .inr (5, [.ref qT, .int 4, .ref qF, .int 0, .int 0, .int ((-1)), .int 0, .ref qN, .int 0, .ref qR, .int 0, .int 0, .ref qC])), (qT, .inl (cT, 1000, .inl (f2_4)))]) hP hD [0, 1] [] rfl rfl (by decide) (by decide) hk1 hFc hP1 hD1
  generalize H1 = H at hP hS ⊢
  have hP : va_P (dC, dI) vwCl [(h0, .inr (5, [.ref qT, .int 4, .ref qF, .int 0, .int 0, .int ((-1)), .int 0, .ref qN, .int 0, .ref qR, .int 0, .int 0, .ref qC])), (qT, .inl (cT, 1000, .inl (f2_4)))] H := hP
  have hD : va_D A [(h0, .inr (5, [.ref qT, .int 4, .ref qF, .int 0, .int 0, .int ((-1)), .int 0, .ref qN, .int 0, .ref qR, .int 0, .int 0, .ref qC])), (qT, .inl (cT, 1000, .inl (f2_4)))] := hD
  have hw_5 := hw
  refine lv_aload_n hx hb dX5_feed_20 rfl (lv_at hl 0 rfl) ?_
  refine lv_iload_n hx hb dX5_feed_21 rfl (lv_at hl 2 rfl) ?_
  have hPc := hP.sub (ws' := [(h0, .inr (5, [.ref qT, .int 4, .ref qF, .int 0, .int 0, .int ((-1)), .int 0, .ref qN, .int 0, .ref qR, .int 0, .int 0, .ref qC])), (qT, .inl (cT, 1000, .inl (f2_4)))]) [0, 1] rfl
  have hDc := hD.sub (ws' := [(h0, .inr (5, [.ref qT, .int 4, .ref qF, .int 0, .int 0, .int ((-1)), .int 0, .ref qN, .int 0, .ref qR, .int 0, .int 0, .ref qC])), (qT, .inl (cT, 1000, .inl (f2_4)))]) [0, 1] (by decide) rfl
  have hKc := hK.sub (tys' := [(cT, .byte)]) [0] rfl
  have hFc := va_free (wc := [(h0, .inr (5, [.ref qT, .int 4, .ref qF, .int 0, .int 0, .int ((-1)), .int 0, .ref qN, .int 0, .ref qR, .int 0, .int 0, .ref qC])), (qT, .inl (cT, 1000, .inl (f2_4)))]) hD hS hA [0, 1] rfl
  refine va_callv (va_runV (As := [.int p1]) (rest := []) ⟨hx, hb, hml, hown, hts⟩ (c_X5_putOnTape_4 l dC dI h0 qT qF qN qR qC cT (f2_4) p1 H.size) (cwV 1 hts gX5_feed_c_X5_putOnTape_4_7 rfl rfl rfl (by decide +kernel) ⟨Nat.le_of_ble_eq_true rfl, Nat.le_of_ble_eq_true rfl⟩) ⟨fun a U g mk q => by obtain ⟨q0, q1, qP, qK, qD⟩ := q; exact ⟨q0, q1, qP, va_K.moved (u := U) (U := U.calling g mk a) (Vm.Alike.refl U.vm) qK, qD⟩, va_recv hKc hPc (ci := 5) (q0 := 0) rfl rfl, fun U hU hW => ⟨rfl, by rw [hU], by rw [hU]; exact hPc, va_K.moved hW.alike hKc, hDc.weaken (fun _ _ _ _ => trivial)⟩⟩ rfl rfl hl.1 rfl (lv_room (Nat.le_of_ble_eq_true rfl)) dX5_feed_22 ⟨show (0 + 0 : Nat) ≤ 0 from by omega, show (0 + 0 : Nat) ≤ 0 from by omega⟩) hS (fun q _ h => hFc q h) hFc (fun u t H1 locs ht hvm hw hB hz1 hk1 hS => ?_)
  obtain ⟨f2_8, hP1, hK1, hD1⟩ := hB
  rw [ht] at hP1
  have hK1 := va_K.moved hvm.symm hK1
  try dsimp only at hw
  obtain ⟨hP, hD⟩ := va_join (wr := []) (w1 := [(h0, .inr (5, [.ref qT, .int 8, .ref qF, .int 0, .int 0, .int ((-1)), .int 0, .ref qN, .int 0, .ref qR, .int 0, .int 0, .ref qC])), (qT, .inl (cT, 1000, .inl (f2_8)))]) hP hD [0, 1] [] rfl rfl (by decide) (by decide) hk1 hFc hP1 hD1
  generalize H1 = H at hP hS ⊢
  have hP : va_P (dC, dI) vwCl [(h0, .inr (5, [.ref qT, .int 8, .ref qF, .int 0, .int 0, .int ((-1)), .int 0, .ref qN, .int 0, .ref qR, .int 0, .int 0, .ref qC])), (qT, .inl (cT, 1000, .inl (f2_8)))] H := hP
  have hD : va_D A [(h0, .inr (5, [.ref qT, .int 8, .ref qF, .int 0, .int 0, .int ((-1)), .int 0, .ref qN, .int 0, .ref qR, .int 0, .int 0, .ref qC])), (qT, .inl (cT, 1000, .inl (f2_8)))] := hD
  have hw_9 := hw
  refine lv_aload_n hx hb dX5_feed_25 rfl (lv_at hl 0 rfl) ?_
  refine lv_iload_n hx hb dX5_feed_26 rfl (lv_at hl 3 rfl) ?_
  have hPc := hP.sub (ws' := [(h0, .inr (5, [.ref qT, .int 8, .ref qF, .int 0, .int 0, .int ((-1)), .int 0, .ref qN, .int 0, .ref qR, .int 0, .int 0, .ref qC])), (qT, .inl (cT, 1000, .inl (f2_8)))]) [0, 1] rfl
  have hDc := hD.sub (ws' := [(h0, .inr (5, [.ref qT, .int 8, .ref qF, .int 0, .int 0, .int ((-1)), .int 0, .ref qN, .int 0, .ref qR, .int 0, .int 0, .ref qC])), (qT, .inl (cT, 1000, .inl (f2_8)))]) [0, 1] (by decide) rfl
  have hKc := hK.sub (tys' := [(cT, .byte)]) [0] rfl
  have hFc := va_free (wc := [(h0, .inr (5, [.ref qT, .int 8, .ref qF, .int 0, .int 0, .int ((-1)), .int 0, .ref qN, .int 0, .ref qR, .int 0, .int 0, .ref qC])), (qT, .inl (cT, 1000, .inl (f2_8)))]) hD hS hA [0, 1] rfl
  refine va_callv (va_runV (As := [.int p2]) (rest := []) ⟨hx, hb, hml, hown, hts⟩ (c_X5_putOnTape_8 l dC dI h0 qT qF qN qR qC cT (f2_8) p2 H.size) (cwV 1 hts gX5_feed_c_X5_putOnTape_8_11 rfl rfl rfl (by decide +kernel) ⟨Nat.le_of_ble_eq_true rfl, Nat.le_of_ble_eq_true rfl⟩) ⟨fun a U g mk q => by obtain ⟨q0, q1, qP, qK, qD⟩ := q; exact ⟨q0, q1, qP, va_K.moved (u := U) (U := U.calling g mk a) (Vm.Alike.refl U.vm) qK, qD⟩, va_recv hKc hPc (ci := 5) (q0 := 0) rfl rfl, fun U hU hW => ⟨rfl, by rw [hU], by rw [hU]; exact hPc, va_K.moved hW.alike hKc, hDc.weaken (fun _ _ _ _ => trivial)⟩⟩ rfl rfl hl.1 rfl (lv_room (Nat.le_of_ble_eq_true rfl)) dX5_feed_27 ⟨show (0 + 0 : Nat) ≤ 0 from by omega, show (0 + 0 : Nat) ≤ 0 from by omega⟩) hS (fun q _ h => hFc q h) hFc (fun u t H1 locs ht hvm hw hB hz1 hk1 hS => ?_)
  obtain ⟨f2_12, hP1, hK1, hD1⟩ := hB
  rw [ht] at hP1
  have hK1 := va_K.moved hvm.symm hK1
  try dsimp only at hw
  obtain ⟨hP, hD⟩ := va_join (wr := []) (w1 := [(h0, .inr (5, [.ref qT, .int 12, .ref qF, .int 0, .int 0, .int ((-1)), .int 0, .ref qN, .int 0, .ref qR, .int 0, .int 0, .ref qC])), (qT, .inl (cT, 1000, .inl (f2_12)))]) hP hD [0, 1] [] rfl rfl (by decide) (by decide) hk1 hFc hP1 hD1
  generalize H1 = H at hP hS ⊢
  have hP : va_P (dC, dI) vwCl [(h0, .inr (5, [.ref qT, .int 12, .ref qF, .int 0, .int 0, .int ((-1)), .int 0, .ref qN, .int 0, .ref qR, .int 0, .int 0, .ref qC])), (qT, .inl (cT, 1000, .inl (f2_12)))] H := hP
  have hD : va_D A [(h0, .inr (5, [.ref qT, .int 12, .ref qF, .int 0, .int 0, .int ((-1)), .int 0, .ref qN, .int 0, .ref qR, .int 0, .int 0, .ref qC])), (qT, .inl (cT, 1000, .inl (f2_12)))] := hD
  have hw_13 := hw
  refine lv_aload_n hx hb dX5_feed_30 rfl (lv_at hl 0 rfl) ?_
  refine lv_iload hx hb dX5_feed_31 (lv_at hl 4 rfl) ?_
  have hPc := hP.sub (ws' := [(h0, .inr (5, [.ref qT, .int 12, .ref qF, .int 0, .int 0, .int ((-1)), .int 0, .ref qN, .int 0, .ref qR, .int 0, .int 0, .ref qC])), (qT, .inl (cT, 1000, .inl (f2_12)))]) [0, 1] rfl
  have hDc := hD.sub (ws' := [(h0, .inr (5, [.ref qT, .int 12, .ref qF, .int 0, .int 0, .int ((-1)), .int 0, .ref qN, .int 0, .ref qR, .int 0, .int 0, .ref qC])), (qT, .inl (cT, 1000, .inl (f2_12)))]) [0, 1] (by decide) rfl
  have hKc := hK.sub (tys' := [(cT, .byte)]) [0] rfl
  have hFc := va_free (wc := [(h0, .inr (5, [.ref qT, .int 12, .ref qF, .int 0, .int 0, .int ((-1)), .int 0, .ref qN, .int 0, .ref qR, .int 0, .int 0, .ref qC])), (qT, .inl (cT, 1000, .inl (f2_12)))]) hD hS hA [0, 1] rfl
  refine va_callv (va_runV (As := [.int p3]) (rest := []) ⟨hx, hb, hml, hown, hts⟩ (c_X5_putOnTape_12 l dC dI h0 qT qF qN qR qC cT (f2_12) p3 H.size) (cwV 1 hts gX5_feed_c_X5_putOnTape_12_15 rfl rfl rfl (by decide +kernel) ⟨Nat.le_of_ble_eq_true rfl, Nat.le_of_ble_eq_true rfl⟩) ⟨fun a U g mk q => by obtain ⟨q0, q1, qP, qK, qD⟩ := q; exact ⟨q0, q1, qP, va_K.moved (u := U) (U := U.calling g mk a) (Vm.Alike.refl U.vm) qK, qD⟩, va_recv hKc hPc (ci := 5) (q0 := 0) rfl rfl, fun U hU hW => ⟨rfl, by rw [hU], by rw [hU]; exact hPc, va_K.moved hW.alike hKc, hDc.weaken (fun _ _ _ _ => trivial)⟩⟩ rfl rfl hl.1 rfl (lv_room (Nat.le_of_ble_eq_true rfl)) dX5_feed_33 ⟨show (0 + 0 : Nat) ≤ 0 from by omega, show (0 + 0 : Nat) ≤ 0 from by omega⟩) hS (fun q _ h => hFc q h) hFc (fun u t H1 locs ht hvm hw hB hz1 hk1 hS => ?_)
  obtain ⟨f2_16, hP1, hK1, hD1⟩ := hB
  rw [ht] at hP1
  have hK1 := va_K.moved hvm.symm hK1
  try dsimp only at hw
  obtain ⟨hP, hD⟩ := va_join (wr := []) (w1 := [(h0, .inr (5, [.ref qT, .int 16, .ref qF, .int 0, .int 0, .int ((-1)), .int 0, .ref qN, .int 0, .ref qR, .int 0, .int 0, .ref qC])), (qT, .inl (cT, 1000, .inl (f2_16)))]) hP hD [0, 1] [] rfl rfl (by decide) (by decide) hk1 hFc hP1 hD1
  generalize H1 = H at hP hS ⊢
  have hP : va_P (dC, dI) vwCl [(h0, .inr (5, [.ref qT, .int 16, .ref qF, .int 0, .int 0, .int ((-1)), .int 0, .ref qN, .int 0, .ref qR, .int 0, .int 0, .ref qC])), (qT, .inl (cT, 1000, .inl (f2_16)))] H := hP
  have hD : va_D A [(h0, .inr (5, [.ref qT, .int 16, .ref qF, .int 0, .int 0, .int ((-1)), .int 0, .ref qN, .int 0, .ref qR, .int 0, .int 0, .ref qC])), (qT, .inl (cT, 1000, .inl (f2_16)))] := hD
  have hw_17 := hw
  refine lv_aload_n hx hb dX5_feed_36 rfl (lv_at hl 0 rfl) ?_
  refine lv_iload hx hb dX5_feed_37 (lv_at hl 5 rfl) ?_
  have hPc := hP.sub (ws' := [(h0, .inr (5, [.ref qT, .int 16, .ref qF, .int 0, .int 0, .int ((-1)), .int 0, .ref qN, .int 0, .ref qR, .int 0, .int 0, .ref qC])), (qT, .inl (cT, 1000, .inl (f2_16)))]) [0, 1] rfl
  have hDc := hD.sub (ws' := [(h0, .inr (5, [.ref qT, .int 16, .ref qF, .int 0, .int 0, .int ((-1)), .int 0, .ref qN, .int 0, .ref qR, .int 0, .int 0, .ref qC])), (qT, .inl (cT, 1000, .inl (f2_16)))]) [0, 1] (by decide) rfl
  have hKc := hK.sub (tys' := [(cT, .byte)]) [0] rfl
  have hFc := va_free (wc := [(h0, .inr (5, [.ref qT, .int 16, .ref qF, .int 0, .int 0, .int ((-1)), .int 0, .ref qN, .int 0, .ref qR, .int 0, .int 0, .ref qC])), (qT, .inl (cT, 1000, .inl (f2_16)))]) hD hS hA [0, 1] rfl
  refine va_callv (va_runV (As := [.int p4]) (rest := []) ⟨hx, hb, hml, hown, hts⟩ (c_X5_putOnTape_16 l dC dI h0 qT qF qN qR qC cT (f2_16) p4 H.size) (cwV 1 hts gX5_feed_c_X5_putOnTape_16_19 rfl rfl rfl (by decide +kernel) ⟨Nat.le_of_ble_eq_true rfl, Nat.le_of_ble_eq_true rfl⟩) ⟨fun a U g mk q => by obtain ⟨q0, q1, qP, qK, qD⟩ := q; exact ⟨q0, q1, qP, va_K.moved (u := U) (U := U.calling g mk a) (Vm.Alike.refl U.vm) qK, qD⟩, va_recv hKc hPc (ci := 5) (q0 := 0) rfl rfl, fun U hU hW => ⟨rfl, by rw [hU], by rw [hU]; exact hPc, va_K.moved hW.alike hKc, hDc.weaken (fun _ _ _ _ => trivial)⟩⟩ rfl rfl hl.1 rfl (lv_room (Nat.le_of_ble_eq_true rfl)) dX5_feed_39 ⟨show (0 + 0 : Nat) ≤ 0 from by omega, show (0 + 0 : Nat) ≤ 0 from by omega⟩) hS (fun q _ h => hFc q h) hFc (fun u t H1 locs ht hvm hw hB hz1 hk1 hS => ?_)
  obtain ⟨f2_20, hP1, hK1, hD1⟩ := hB
  rw [ht] at hP1
  have hK1 := va_K.moved hvm.symm hK1
  try dsimp only at hw
  obtain ⟨hP, hD⟩ := va_join (wr := []) (w1 := [(h0, .inr (5, [.ref qT, .int 20, .ref qF, .int 0, .int 0, .int ((-1)), .int 0, .ref qN, .int 0, .ref qR, .int 0, .int 0, .ref qC])), (qT, .inl (cT, 1000, .inl (f2_20)))]) hP hD [0, 1] [] rfl rfl (by decide) (by decide) hk1 hFc hP1 hD1
  generalize H1 = H at hP hS ⊢
  have hP : va_P (dC, dI) vwCl [(h0, .inr (5, [.ref qT, .int 20, .ref qF, .int 0, .int 0, .int ((-1)), .int 0, .ref qN, .int 0, .ref qR, .int 0, .int 0, .ref qC])), (qT, .inl (cT, 1000, .inl (f2_20)))] H := hP
  have hD : va_D A [(h0, .inr (5, [.ref qT, .int 20, .ref qF, .int 0, .int 0, .int ((-1)), .int 0, .ref qN, .int 0, .ref qR, .int 0, .int 0, .ref qC])), (qT, .inl (cT, 1000, .inl (f2_20)))] := hD
  have hw_21 := hw
  refine lv_aload_n hx hb dX5_feed_42 rfl (lv_at hl 0 rfl) ?_
  refine va_get (D := (dC, dI)) (ci := 5) (v := .int 20) (C := RX5) (T := TX5) (N := 13) hx hb hts hin5 hown hK hP 0 rfl rfl 1 (by decide) (hts (.fieldLink RX5 36 "SkiShots" "tapeLength" "I") (by decide +kernel)) (fun _ h9 => h9) rfl dX5_feed_43 ?_
  exact W.iret (v := 20) hx hb hr (fun t ht hW => ⟨⟨20, (), rfl, rfl, trivial⟩, hS.F ht⟩) hS.2.2 dX5_feed_46
def wX4_sortAt : List Cond := .code yX4_sortAt cX4_sortAt 3 (some .int) :: ([.fieldLink RX4 21 "SkiShots$Reader" "length" "I"] ++ wsX40)
set_option maxHeartbeats 4000000 in
set_option maxRecDepth 100000 in
theorem c_X4_sortAt (l : Launch) (dC : Nat → ClassId) (dI : Nat → Nat → Nat) (h0 : Nat) (qX : Nat) (qY : Nat) (sz : Nat) : Met l yX4_sortAt wX4_sortAt ({ frames := 0, cells := 0, slots := 0, locals := 0 }) (va_Pc [.ref h0, .int 0] (fun U => U.heap.size = sz ∧ va_P (dC, dI) vwCl [(h0, .inr (4, [.ref qX, .int 0, .ref qY, .int 0, .int 0, .int ((-1)), .int 0, .int 0, .int 0, .int 0]))] U.heap ∧ va_K (dC, dI) vwCl [] U ∧ va_D (fun _ => True) [(h0, .inr (4, [.ref qX, .int 0, .ref qY, .int 0, .int 0, .int ((-1)), .int 0, .int 0, .int 0, .int 0]))])) (va_Qi (fun (r : Int32) (_ : Unit) => r = 0) (fun _ t => va_P (dC, dI) vwCl [(h0, .inr (4, [.ref qX, .int 0, .ref qY, .int 0, .int 0, .int ((-1)), .int 0, .int 0, .int 0, .int 0]))] t.heap ∧ va_K (dC, dI) vwCl [] t ∧ va_D (va_A [(h0, .inr (4, [.ref qX, .int 0, .ref qY, .int 0, .int 0, .int ((-1)), .int 0, .int 0, .int 0, .int 0]))] sz) [(h0, .inr (4, [.ref qX, .int 0, .ref qY, .int 0, .int 0, .int ((-1)), .int 0, .int 0, .int 0, .int 0]))]) (va_A [(h0, .inr (4, [.ref qX, .int 0, .ref qY, .int 0, .int 0, .int ((-1)), .int 0, .int 0, .int 0, .int 0]))] sz)) 0 0 (va_A [(h0, .inr (4, [.ref qX, .int 0, .ref qY, .int 0, .int 0, .int ((-1)), .int 0, .int 0, .int 0, .int 0]))] sz) := by
  refine Met.ofW (cc := cX4_sortAt) (maxL := 3) (ret := (some .int)) (by decide) rfl ?_
  intro p e s m args below meth c s₁ B hml hv
  obtain ⟨rfl, hsz, hP, hK, hD0⟩ := hv
  have hx := B.exec
  have hb := B.bytes
  have hr := B.returns
  have hts := atoms_spec (ws := wX4_sortAt) B.pre
  have hown : s.vm.findClass RX4 = some m.cls := findClass_of_methodNamed B.named
  have hlocks := B.notSynchronized
  have hin4 : ∀ w ∈ wsX40, w ∈ wX4_sortAt := by decide +kernel
  subst hsz
  have hD := hD0.self (sz := s.heap.size)
  generalize hAe : va_A [(h0, .inr (4, [.ref qX, .int 0, .ref qY, .int 0, .int 0, .int ((-1)), .int 0, .int 0, .int 0, .int 0]))] s.heap.size = A at hD ⊢
  have hA : ∀ q : Nat, s.heap.size ≤ q → A q := fun q h => by rw [← hAe]; exact Or.inr h
  have hS : va_S A s.heap s.heap [] := va_S.rf
  have hP : va_P (dC, dI) vwCl [(h0, .inr (4, [.ref qX, .int 0, .ref qY, .int 0, .int 0, .int ((-1)), .int 0, .int 0, .int 0, .int 0]))] s.heap := hP
  have hl := lv_entry ([.ref h0, .int 0]) (n := 3) (Nat.le_of_ble_eq_true rfl)
  rw [lg_entry_eq]
  generalize (lg_sl ([.ref h0, .int 0]) ++ List.replicate (3 - (lg_sl ([.ref h0, .int 0])).length) Slot.unset).toArray = ls at hl ⊢
  have hl : lv_has ls 3 [(0, .ref h0), (1, .int 0)] := hl
  refine lv_iload_n hx hb dX4_sortAt_0 rfl (lv_at hl 1 rfl) ?_
  refine lv_if_lt (tgt := 12) hx hb dX4_sortAt_1 (by decide) (fun c_1 => absurd c_1 (by decide)) (fun c_1 => ?_)
  refine lv_iload_n hx hb dX4_sortAt_4 rfl (lv_at hl 1 rfl) ?_
  refine lv_aload_n hx hb dX4_sortAt_5 rfl (lv_at hl 0 rfl) ?_
  refine va_get (D := (dC, dI)) (ci := 4) (v := .int 0) (C := RX4) (T := TX4) (N := 10) hx hb hts hin4 hown hK hP 0 rfl rfl 1 (by decide) (hts (.fieldLink RX4 21 "SkiShots$Reader" "length" "I") (by decide +kernel)) (fun _ h9 => h9) rfl dX4_sortAt_6 ?_
  refine lv_icmp_lt (tgt := 14) hx hb dX4_sortAt_9 (by decide) (fun c_2 => absurd c_2 (by decide)) (fun c_2 => ?_)
  refine lv_iconst (v := 0) hx hb dX4_sortAt_12 (by decide) ?_
  have hP9 := hP.sub (ws' := [(h0, .inr (4, [.ref qX, .int 0, .ref qY, .int 0, .int 0, .int ((-1)), .int 0, .int 0, .int 0, .int 0]))]) [0] rfl
  have hD9 := hD.sub (ws' := [(h0, .inr (4, [.ref qX, .int 0, .ref qY, .int 0, .int 0, .int ((-1)), .int 0, .int 0, .int 0, .int 0]))]) [0] (by decide) rfl
  have hK9 := hK.sub (tys' := []) [] rfl
  exact W.iret (v := 0) hx hb hr (fun t ht hW => ⟨⟨0, (), rfl, rfl, by rw [ht]; exact hP9, va_K.moved hW.alike hK9, hD9⟩, hS.F ht⟩) hS.2.2 dX4_sortAt_13
def wX4_step : List Cond := .code yX4_step cX4_step 1 none :: ([.fieldLink RX4 133 "SkiShots$Reader" "behind" "I", .fieldLink RX4 54 "SkiShots$Reader" "place" "I", .fieldLink RX4 21 "SkiShots$Reader" "length" "I", .fieldLink RX4 37 "SkiShots$Reader" "sort" "I", .methodLink RX4 15 Lib.Math.min.name, .static Lib.Math.min.name, .initialized "java/lang/Math", .code Lib.Math.min.name Lib.Math.min.code 2 (some .int), .methodLink RX4 149 yX4_sortAt, .instanceMethod yX4_sortAt, .selects RX4 yX4_sortAt yX4_sortAt, .initialized RX4, .code yX4_sortAt cX4_sortAt 3 (some .int)] ++ wsX40)
set_option maxRecDepth 20000 in
theorem gX4_step_c_X4_sortAt_3 : GoodIn wX4_step (wsV RX4 149 RX4 yX4_sortAt wX4_sortAt) := goodIn_p _ [13] rfl (by decide +kernel)
set_option maxHeartbeats 4000000 in
set_option maxRecDepth 100000 in
theorem c_X4_step (l : Launch) (dC : Nat → ClassId) (dI : Nat → Nat → Nat) (h0 : Nat) (qX : Nat) (qY : Nat) (sz : Nat) : Met l yX4_step wX4_step ({ frames := 1, cells := 0, slots := 0, locals := 22 }) (va_Pc [.ref h0] (fun U => U.heap.size = sz ∧ va_P (dC, dI) vwCl [(h0, .inr (4, [.ref qX, .int 0, .ref qY, .int 0, .int 0, .int ((-1)), .int 0, .int 0, .int 0, .int 0]))] U.heap ∧ va_K (dC, dI) vwCl [] U ∧ va_D (fun _ => True) [(h0, .inr (4, [.ref qX, .int 0, .ref qY, .int 0, .int 0, .int ((-1)), .int 0, .int 0, .int 0, .int 0]))])) (va_Qv (fun (_ : Unit) => True) (fun _ t => va_P (dC, dI) vwCl [(h0, .inr (4, [.ref qX, .int 0, .ref qY, .int 0, .int 0, .int ((-1)), .int 0, .int 0, .int 0, .int 0]))] t.heap ∧ va_K (dC, dI) vwCl [] t ∧ va_D (va_A [(h0, .inr (4, [.ref qX, .int 0, .ref qY, .int 0, .int 0, .int ((-1)), .int 0, .int 0, .int 0, .int 0]))] sz) [(h0, .inr (4, [.ref qX, .int 0, .ref qY, .int 0, .int 0, .int ((-1)), .int 0, .int 0, .int 0, .int 0]))]) (va_A [(h0, .inr (4, [.ref qX, .int 0, .ref qY, .int 0, .int 0, .int ((-1)), .int 0, .int 0, .int 0, .int 0]))] sz)) 0 0 (va_A [(h0, .inr (4, [.ref qX, .int 0, .ref qY, .int 0, .int 0, .int ((-1)), .int 0, .int 0, .int 0, .int 0]))] sz) := by
  refine Met.ofW (cc := cX4_step) (maxL := 1) (ret := none) (by decide) rfl ?_
  intro p e s m args below meth c s₁ B hml hv
  obtain ⟨rfl, hsz, hP, hK, hD0⟩ := hv
  have hx := B.exec
  have hb := B.bytes
  have hr := B.returns
  have hts := atoms_spec (ws := wX4_step) B.pre
  have hown : s.vm.findClass RX4 = some m.cls := findClass_of_methodNamed B.named
  have hlocks := B.notSynchronized
  have hin4 : ∀ w ∈ wsX40, w ∈ wX4_step := by decide +kernel
  subst hsz
  have hD := hD0.self (sz := s.heap.size)
  generalize hAe : va_A [(h0, .inr (4, [.ref qX, .int 0, .ref qY, .int 0, .int 0, .int ((-1)), .int 0, .int 0, .int 0, .int 0]))] s.heap.size = A at hD ⊢
  have hA : ∀ q : Nat, s.heap.size ≤ q → A q := fun q h => by rw [← hAe]; exact Or.inr h
  have hS : va_S A s.heap s.heap [] := va_S.rf
  have hP : va_P (dC, dI) vwCl [(h0, .inr (4, [.ref qX, .int 0, .ref qY, .int 0, .int 0, .int ((-1)), .int 0, .int 0, .int 0, .int 0]))] s.heap := hP
  have hl := lv_entry ([.ref h0]) (n := 1) (Nat.le_of_ble_eq_true rfl)
  rw [lg_entry_eq]
  generalize (lg_sl ([.ref h0]) ++ List.replicate (1 - (lg_sl ([.ref h0])).length) Slot.unset).toArray = ls at hl ⊢
  have hl : lv_has ls 1 [(0, .ref h0)] := hl
  refine lv_aload_n hx hb dX4_step_0 rfl (lv_at hl 0 rfl) ?_
  refine lv_aload_n hx hb dX4_step_1 rfl (lv_at hl 0 rfl) ?_
  refine va_get (D := (dC, dI)) (ci := 4) (v := .int 0) (C := RX4) (T := TX4) (N := 10) hx hb hts hin4 hown hK hP 0 rfl rfl 8 (by decide) (hts (.fieldLink RX4 133 "SkiShots$Reader" "behind" "I") (by decide +kernel)) (fun _ h9 => h9) rfl dX4_step_2 ?_
  refine va_put (D := (dC, dI)) (ci := 4) (v := .int 0) (ty := .int) (C := RX4) (T := TX4) (N := 10) hx hb hts hin4 tyX4 tyX4_ok nmX4 hown hK hP hD hS 0 rfl rfl 7 (by decide) (hts (.fieldLink RX4 54 "SkiShots$Reader" "place" "I") (by decide +kernel)) (fun _ h9 => h9) rfl (by decide +kernel) rfl rfl (Nat.le_of_ble_eq_true rfl) dX4_step_5 (fun H locs hP hD hS => ?_)
  have hP : va_P (dC, dI) vwCl [(h0, .inr (4, [.ref qX, .int 0, .ref qY, .int 0, .int 0, .int ((-1)), .int 0, .int 0, .int 0, .int 0]))] H := hP
  have hD : va_D A [(h0, .inr (4, [.ref qX, .int 0, .ref qY, .int 0, .int 0, .int ((-1)), .int 0, .int 0, .int 0, .int 0]))] := hD
  refine lv_aload_n hx hb dX4_step_8 rfl (lv_at hl 0 rfl) ?_
  refine va_get (D := (dC, dI)) (ci := 4) (v := .int 0) (C := RX4) (T := TX4) (N := 10) hx hb hts hin4 hown hK hP 0 rfl rfl 7 (by decide) (hts (.fieldLink RX4 54 "SkiShots$Reader" "place" "I") (by decide +kernel)) (fun _ h9 => h9) rfl dX4_step_9 ?_
  refine lv_aload_n hx hb dX4_step_12 rfl (lv_at hl 0 rfl) ?_
  refine va_get (D := (dC, dI)) (ci := 4) (v := .int 0) (C := RX4) (T := TX4) (N := 10) hx hb hts hin4 hown hK hP 0 rfl rfl 1 (by decide) (hts (.fieldLink RX4 21 "SkiShots$Reader" "length" "I") (by decide +kernel)) (fun _ h9 => h9) rfl dX4_step_13 ?_
  refine lv_icmp_ge (tgt := 44) hx hb dX4_step_16 (by decide) (fun c_1 => ?_) (fun c_1 => absurd (by decide) c_1)
  refine lv_aload_n hx hb dX4_step_44 rfl (lv_at hl 0 rfl) ?_
  refine lv_aload_n hx hb dX4_step_45 rfl (lv_at hl 0 rfl) ?_
  refine lv_aload_n hx hb dX4_step_46 rfl (lv_at hl 0 rfl) ?_
  refine va_get (D := (dC, dI)) (ci := 4) (v := .int 0) (C := RX4) (T := TX4) (N := 10) hx hb hts hin4 hown hK hP 0 rfl rfl 7 (by decide) (hts (.fieldLink RX4 54 "SkiShots$Reader" "place" "I") (by decide +kernel)) (fun _ h9 => h9) rfl dX4_step_47 ?_
  have hPc := hP.sub (ws' := [(h0, .inr (4, [.ref qX, .int 0, .ref qY, .int 0, .int 0, .int ((-1)), .int 0, .int 0, .int 0, .int 0]))]) [0] rfl
  have hDc := hD.sub (ws' := [(h0, .inr (4, [.ref qX, .int 0, .ref qY, .int 0, .int 0, .int ((-1)), .int 0, .int 0, .int 0, .int 0]))]) [0] (by decide) rfl
  have hKc := hK.sub (tys' := []) [] rfl
  have hFc := va_free (wc := [(h0, .inr (4, [.ref qX, .int 0, .ref qY, .int 0, .int 0, .int ((-1)), .int 0, .int 0, .int 0, .int 0]))]) hD hS hA [0] rfl
  refine va_calli (va_runV (As := [.int 0]) (rest := [.ref h0]) ⟨hx, hb, hml, hown, hts⟩ (c_X4_sortAt l dC dI h0 qX qY H.size) (cwV 1 hts gX4_step_c_X4_sortAt_3 rfl rfl rfl (by decide +kernel) ⟨Nat.le_of_ble_eq_true rfl, Nat.le_of_ble_eq_true rfl⟩) ⟨fun a U g mk q => by obtain ⟨q0, q1, qP, qK, qD⟩ := q; exact ⟨q0, q1, qP, va_K.moved (u := U) (U := U.calling g mk a) (Vm.Alike.refl U.vm) qK, qD⟩, va_recv hKc hPc (ci := 4) (q0 := 0) rfl rfl, fun U hU hW => ⟨rfl, by rw [hU], by rw [hU]; exact hPc, va_K.moved hW.alike hKc, hDc.weaken (fun _ _ _ _ => trivial)⟩⟩ rfl rfl hl.1 rfl (lv_room (Nat.le_of_ble_eq_true rfl)) dX4_step_50 ⟨show (0 + 0 : Nat) ≤ 0 from by omega, show (0 + 0 : Nat) ≤ 0 from by omega⟩) hS (fun q _ h => hFc q h) hFc (fun r_2 u t H1 locs ht hvm hw hB hz1 hk1 hS => ?_)
  obtain ⟨hP1, hK1, hD1⟩ := hB
  rw [ht] at hP1
  have hK1 := va_K.moved hvm.symm hK1
  try dsimp only at hw
  obtain ⟨hP, hD⟩ := va_join (wr := []) (w1 := [(h0, .inr (4, [.ref qX, .int 0, .ref qY, .int 0, .int 0, .int ((-1)), .int 0, .int 0, .int 0, .int 0]))]) hP hD [0] [] rfl rfl (by decide) (by decide) hk1 hFc hP1 hD1
  generalize H1 = H at hP hS ⊢
  have hP : va_P (dC, dI) vwCl [(h0, .inr (4, [.ref qX, .int 0, .ref qY, .int 0, .int 0, .int ((-1)), .int 0, .int 0, .int 0, .int 0]))] H := hP
  have hD : va_D A [(h0, .inr (4, [.ref qX, .int 0, .ref qY, .int 0, .int 0, .int ((-1)), .int 0, .int 0, .int 0, .int 0]))] := hD
  have hw_4 := hw
  subst hw_4
  refine va_put (D := (dC, dI)) (ci := 4) (v := .int 0) (ty := .int) (C := RX4) (T := TX4) (N := 10) hx hb hts hin4 tyX4 tyX4_ok nmX4 hown hK hP hD hS 0 rfl rfl 6 (by decide) (hts (.fieldLink RX4 37 "SkiShots$Reader" "sort" "I") (by decide +kernel)) (fun _ h9 => h9) rfl (by decide +kernel) rfl rfl (Nat.le_of_ble_eq_true rfl) dX4_step_53 (fun H locs hP hD hS => ?_)
  have hP : va_P (dC, dI) vwCl [(h0, .inr (4, [.ref qX, .int 0, .ref qY, .int 0, .int 0, .int ((-1)), .int 0, .int 0, .int 0, .int 0]))] H := hP
  have hD : va_D A [(h0, .inr (4, [.ref qX, .int 0, .ref qY, .int 0, .int 0, .int ((-1)), .int 0, .int 0, .int 0, .int 0]))] := hD
  refine lv_aload_n hx hb dX4_step_56 rfl (lv_at hl 0 rfl) ?_
  refine lv_aload_n hx hb dX4_step_57 rfl (lv_at hl 0 rfl) ?_
  refine va_get (D := (dC, dI)) (ci := 4) (v := .int 0) (C := RX4) (T := TX4) (N := 10) hx hb hts hin4 hown hK hP 0 rfl rfl 7 (by decide) (hts (.fieldLink RX4 54 "SkiShots$Reader" "place" "I") (by decide +kernel)) (fun _ h9 => h9) rfl dX4_step_58 ?_
  refine lv_iconst (v := 1) hx hb dX4_step_61 (by decide) ?_
  refine lv_iadd hx hb dX4_step_62 ?_
  rw [show (0 + 1 : Int32) = 1 from by decide]
  refine lv_aload_n hx hb dX4_step_63 rfl (lv_at hl 0 rfl) ?_
  refine va_get (D := (dC, dI)) (ci := 4) (v := .int 0) (C := RX4) (T := TX4) (N := 10) hx hb hts hin4 hown hK hP 0 rfl rfl 1 (by decide) (hts (.fieldLink RX4 21 "SkiShots$Reader" "length" "I") (by decide +kernel)) (fun _ h9 => h9) rfl dX4_step_64 ?_
  refine va_mmin hx hb (hml.trans hl.1.symm) hown (hts (.methodLink RX4 15 Lib.Math.min.name) (by decide +kernel)) (hts (.static Lib.Math.min.name) (by decide +kernel)) (hts (.initialized "java/lang/Math") (by decide +kernel)) (hts (.code Lib.Math.min.name Lib.Math.min.code 2 (some .int)) (by decide +kernel)) (Nat.le_of_ble_eq_true rfl) (Nat.le_of_ble_eq_true rfl) (Nat.le_of_ble_eq_true rfl) (Nat.le_of_ble_eq_true rfl) dX4_step_67 ?_
  rw [show ((if (0 : Int32) < 1 then 0 else 1 : Int32)) = 0 from by decide]
  refine va_put (D := (dC, dI)) (ci := 4) (v := .int 0) (ty := .int) (C := RX4) (T := TX4) (N := 10) hx hb hts hin4 tyX4 tyX4_ok nmX4 hown hK hP hD hS 0 rfl rfl 8 (by decide) (hts (.fieldLink RX4 133 "SkiShots$Reader" "behind" "I") (by decide +kernel)) (fun _ h9 => h9) rfl (by decide +kernel) rfl rfl (Nat.le_of_ble_eq_true rfl) dX4_step_70 (fun H locs hP hD hS => ?_)
  have hP : va_P (dC, dI) vwCl [(h0, .inr (4, [.ref qX, .int 0, .ref qY, .int 0, .int 0, .int ((-1)), .int 0, .int 0, .int 0, .int 0]))] H := hP
  have hD : va_D A [(h0, .inr (4, [.ref qX, .int 0, .ref qY, .int 0, .int 0, .int ((-1)), .int 0, .int 0, .int 0, .int 0]))] := hD
  refine lv_aload_n hx hb dX4_step_73 rfl (lv_at hl 0 rfl) ?_
  refine va_get (D := (dC, dI)) (ci := 4) (v := .int 0) (C := RX4) (T := TX4) (N := 10) hx hb hts hin4 hown hK hP 0 rfl rfl 6 (by decide) (hts (.fieldLink RX4 37 "SkiShots$Reader" "sort" "I") (by decide +kernel)) (fun _ h9 => h9) rfl dX4_step_74 ?_
  refine lv_iconst (v := 1) hx hb dX4_step_77 (by decide) ?_
  refine lv_icmp_eq (tgt := 89) hx hb dX4_step_78 (by decide) (fun c_5 => absurd c_5 (by decide)) (fun c_5 => ?_)
  refine lv_aload_n hx hb dX4_step_81 rfl (lv_at hl 0 rfl) ?_
  refine va_get (D := (dC, dI)) (ci := 4) (v := .int 0) (C := RX4) (T := TX4) (N := 10) hx hb hts hin4 hown hK hP 0 rfl rfl 6 (by decide) (hts (.fieldLink RX4 37 "SkiShots$Reader" "sort" "I") (by decide +kernel)) (fun _ h9 => h9) rfl dX4_step_82 ?_
  refine lv_iconst (v := 2) hx hb dX4_step_85 (by decide) ?_
  refine lv_icmp_ne (tgt := 128) hx hb dX4_step_86 (by decide) (fun c_6 => ?_) (fun c_6 => absurd c_6 (by decide))
  have hP9 := hP.sub (ws' := [(h0, .inr (4, [.ref qX, .int 0, .ref qY, .int 0, .int 0, .int ((-1)), .int 0, .int 0, .int 0, .int 0]))]) [0] rfl
  have hD9 := hD.sub (ws' := [(h0, .inr (4, [.ref qX, .int 0, .ref qY, .int 0, .int 0, .int ((-1)), .int 0, .int 0, .int 0, .int 0]))]) [0] (by decide) rfl
  have hK9 := hK.sub (tys' := []) [] rfl
  exact W.vret hx hb hr (fun t ht hW => ⟨⟨(), rfl, trivial, by rw [ht]; exact hP9, va_K.moved hW.alike hK9, hD9⟩, hS.F ht⟩) hS.2.2 dX4_step_128
def wX4_readFormats : List Cond := .code yX4_readFormats cX4_readFormats 2 (some .boolean) :: ([.fieldLink RX4 37 "SkiShots$Reader" "sort" "I", .methodLink RX4 34 yX4_step, .instanceMethod yX4_step, .selects RX4 yX4_step yX4_step, .initialized RX4, .code yX4_step cX4_step 1 none, .fieldLink RX4 133 "SkiShots$Reader" "behind" "I", .fieldLink RX4 54 "SkiShots$Reader" "place" "I", .fieldLink RX4 21 "SkiShots$Reader" "length" "I", .methodLink RX4 15 Lib.Math.min.name, .static Lib.Math.min.name, .initialized "java/lang/Math", .code Lib.Math.min.name Lib.Math.min.code 2 (some .int), .methodLink RX4 149 yX4_sortAt, .instanceMethod yX4_sortAt, .selects RX4 yX4_sortAt yX4_sortAt, .code yX4_sortAt cX4_sortAt 3 (some .int)] ++ wsX40)
set_option maxRecDepth 20000 in
theorem gX4_readFormats_c_X4_step_2 : GoodIn wX4_readFormats (wsV RX4 34 RX4 yX4_step wX4_step) := goodIn_p _ [6, 13, 17] rfl (by decide +kernel)
set_option maxHeartbeats 4000000 in
set_option maxRecDepth 100000 in
theorem c_X4_readFormats (l : Launch) (dC : Nat → ClassId) (dI : Nat → Nat → Nat) (h0 : Nat) (qX : Nat) (qY : Nat) (sz : Nat) : Met l yX4_readFormats wX4_readFormats ({ frames := 2, cells := 0, slots := 0, locals := 42 }) (va_Pc [.ref h0] (fun U => U.heap.size = sz ∧ va_P (dC, dI) vwCl [(h0, .inr (4, [.ref qX, .int 0, .ref qY, .int 0, .int 0, .int ((-1)), .int 0, .int 0, .int 0, .int 0]))] U.heap ∧ va_K (dC, dI) vwCl [] U ∧ va_D (fun _ => True) [(h0, .inr (4, [.ref qX, .int 0, .ref qY, .int 0, .int 0, .int ((-1)), .int 0, .int 0, .int 0, .int 0]))])) (va_Qi (fun (r : Int32) (_ : Unit) => r = 1) (fun _ t => va_P (dC, dI) vwCl [(h0, .inr (4, [.ref qX, .int 0, .ref qY, .int 0, .int 0, .int ((-1)), .int 0, .int 0, .int 0, .int 0]))] t.heap ∧ va_K (dC, dI) vwCl [] t ∧ va_D (va_A [(h0, .inr (4, [.ref qX, .int 0, .ref qY, .int 0, .int 0, .int ((-1)), .int 0, .int 0, .int 0, .int 0]))] sz) [(h0, .inr (4, [.ref qX, .int 0, .ref qY, .int 0, .int 0, .int ((-1)), .int 0, .int 0, .int 0, .int 0]))]) (va_A [(h0, .inr (4, [.ref qX, .int 0, .ref qY, .int 0, .int 0, .int ((-1)), .int 0, .int 0, .int 0, .int 0]))] sz)) 0 0 (va_A [(h0, .inr (4, [.ref qX, .int 0, .ref qY, .int 0, .int 0, .int ((-1)), .int 0, .int 0, .int 0, .int 0]))] sz) := by
  refine Met.ofW (cc := cX4_readFormats) (maxL := 2) (ret := (some .boolean)) (by decide) rfl ?_
  intro p e s m args below meth c s₁ B hml hv
  obtain ⟨rfl, hsz, hP, hK, hD0⟩ := hv
  have hx := B.exec
  have hb := B.bytes
  have hr := B.returns
  have hts := atoms_spec (ws := wX4_readFormats) B.pre
  have hown : s.vm.findClass RX4 = some m.cls := findClass_of_methodNamed B.named
  have hlocks := B.notSynchronized
  have hin4 : ∀ w ∈ wsX40, w ∈ wX4_readFormats := by decide +kernel
  subst hsz
  have hD := hD0.self (sz := s.heap.size)
  generalize hAe : va_A [(h0, .inr (4, [.ref qX, .int 0, .ref qY, .int 0, .int 0, .int ((-1)), .int 0, .int 0, .int 0, .int 0]))] s.heap.size = A at hD ⊢
  have hA : ∀ q : Nat, s.heap.size ≤ q → A q := fun q h => by rw [← hAe]; exact Or.inr h
  have hS : va_S A s.heap s.heap [] := va_S.rf
  have hP : va_P (dC, dI) vwCl [(h0, .inr (4, [.ref qX, .int 0, .ref qY, .int 0, .int 0, .int ((-1)), .int 0, .int 0, .int 0, .int 0]))] s.heap := hP
  have hl := lv_entry ([.ref h0]) (n := 2) (Nat.le_of_ble_eq_true rfl)
  rw [lg_entry_eq]
  generalize (lg_sl ([.ref h0]) ++ List.replicate (2 - (lg_sl ([.ref h0])).length) Slot.unset).toArray = ls at hl ⊢
  have hl : lv_has ls 2 [(0, .ref h0)] := hl
  refine lv_aload_n hx hb dX4_readFormats_0 rfl (lv_at hl 0 rfl) ?_
  have hPc := hP.sub (ws' := [(h0, .inr (4, [.ref qX, .int 0, .ref qY, .int 0, .int 0, .int ((-1)), .int 0, .int 0, .int 0, .int 0]))]) [0] rfl
  have hDc := hD.sub (ws' := [(h0, .inr (4, [.ref qX, .int 0, .ref qY, .int 0, .int 0, .int ((-1)), .int 0, .int 0, .int 0, .int 0]))]) [0] (by decide) rfl
  have hKc := hK.sub (tys' := []) [] rfl
  have hFc := va_free (wc := [(h0, .inr (4, [.ref qX, .int 0, .ref qY, .int 0, .int 0, .int ((-1)), .int 0, .int 0, .int 0, .int 0]))]) hD hS hA [0] rfl
  refine va_callv (va_runV (As := []) (rest := []) ⟨hx, hb, hml, hown, hts⟩ (c_X4_step l dC dI h0 qX qY s.heap.size) (cwV 0 hts gX4_readFormats_c_X4_step_2 rfl rfl rfl (by decide +kernel) ⟨Nat.le_of_ble_eq_true rfl, Nat.le_of_ble_eq_true rfl⟩) ⟨fun a U g mk q => by obtain ⟨q0, q1, qP, qK, qD⟩ := q; exact ⟨q0, q1, qP, va_K.moved (u := U) (U := U.calling g mk a) (Vm.Alike.refl U.vm) qK, qD⟩, va_recv hKc hPc (ci := 4) (q0 := 0) rfl rfl, fun U hU hW => ⟨rfl, by rw [hU], by rw [hU]; exact hPc, va_K.moved hW.alike hKc, hDc.weaken (fun _ _ _ _ => trivial)⟩⟩ rfl rfl hl.1 rfl (lv_room (Nat.le_of_ble_eq_true rfl)) dX4_readFormats_1 ⟨show (0 + 0 : Nat) ≤ 0 from by omega, show (0 + 0 : Nat) ≤ 0 from by omega⟩) hS (fun q _ h => hFc q h) hFc (fun u t H1 locs ht hvm hw hB hz1 hk1 hS => ?_)
  obtain ⟨hP1, hK1, hD1⟩ := hB
  rw [ht] at hP1
  have hK1 := va_K.moved hvm.symm hK1
  try dsimp only at hw
  obtain ⟨hP, hD⟩ := va_join (wr := []) (w1 := [(h0, .inr (4, [.ref qX, .int 0, .ref qY, .int 0, .int 0, .int ((-1)), .int 0, .int 0, .int 0, .int 0]))]) hP hD [0] [] rfl rfl (by decide) (by decide) hk1 hFc hP1 hD1
  generalize H1 = H at hP hS ⊢
  have hP : va_P (dC, dI) vwCl [(h0, .inr (4, [.ref qX, .int 0, .ref qY, .int 0, .int 0, .int ((-1)), .int 0, .int 0, .int 0, .int 0]))] H := hP
  have hD : va_D A [(h0, .inr (4, [.ref qX, .int 0, .ref qY, .int 0, .int 0, .int ((-1)), .int 0, .int 0, .int 0, .int 0]))] := hD
  have hw_3 := hw
  refine lv_iconst (v := 0) hx hb dX4_readFormats_4 (by decide) ?_
  refine lv_istore_n (lv' := [(1, .int 0), (0, .ref h0)]) hx hb dX4_readFormats_5 rfl hl (by decide) rfl (fun ls hl => ?_)
  refine lv_iload_n hx hb dX4_readFormats_6 rfl (lv_at hl 0 rfl) ?_
  refine lv_bipush (v := 8) hx hb dX4_readFormats_7 (by decide) ?_
  refine lv_icmp_ge (tgt := 34) hx hb dX4_readFormats_9 (by decide) (fun c_4 => absurd c_4 (by decide)) (fun c_4 => ?_)
  refine lv_aload_n hx hb dX4_readFormats_12 rfl (lv_at hl 1 rfl) ?_
  refine va_get (D := (dC, dI)) (ci := 4) (v := .int 0) (C := RX4) (T := TX4) (N := 10) hx hb hts hin4 hown hK hP 0 rfl rfl 6 (by decide) (hts (.fieldLink RX4 37 "SkiShots$Reader" "sort" "I") (by decide +kernel)) (fun _ h9 => h9) rfl dX4_readFormats_13 ?_
  refine lv_if_eq (tgt := 34) hx hb dX4_readFormats_16 (by decide) (fun c_5 => ?_) (fun c_5 => absurd (by decide) c_5)
  refine lv_aload_n hx hb dX4_readFormats_34 rfl (lv_at hl 1 rfl) ?_
  refine va_get (D := (dC, dI)) (ci := 4) (v := .int 0) (C := RX4) (T := TX4) (N := 10) hx hb hts hin4 hown hK hP 0 rfl rfl 6 (by decide) (hts (.fieldLink RX4 37 "SkiShots$Reader" "sort" "I") (by decide +kernel)) (fun _ h9 => h9) rfl dX4_readFormats_35 ?_
  refine lv_if_eq (tgt := 49) hx hb dX4_readFormats_38 (by decide) (fun c_6 => ?_) (fun c_6 => absurd (by decide) c_6)
  refine lv_iconst (v := 1) hx hb dX4_readFormats_49 (by decide) ?_
  refine lv_goto (tgt := 54) hx hb dX4_readFormats_50 (by decide) ?_
  have hP9 := hP.sub (ws' := [(h0, .inr (4, [.ref qX, .int 0, .ref qY, .int 0, .int 0, .int ((-1)), .int 0, .int 0, .int 0, .int 0]))]) [0] rfl
  have hD9 := hD.sub (ws' := [(h0, .inr (4, [.ref qX, .int 0, .ref qY, .int 0, .int 0, .int ((-1)), .int 0, .int 0, .int 0, .int 0]))]) [0] (by decide) rfl
  have hK9 := hK.sub (tys' := []) [] rfl
  exact W.zret (v := 1) (ty := .boolean) hx hb hr rfl (fun t ht hW => ⟨⟨1, (), rfl, rfl, by rw [ht]; exact hP9, va_K.moved hW.alike hK9, hD9⟩, hS.F ht⟩) hS.2.2 dX4_readFormats_54
def wX4_init : List Cond := .code yX4_init cX4_init 3 none :: ([.methodLink RX4 3 objectInit, .instanceMethod objectInit, .code objectInit ⟨#[0xb1]⟩ 1 none, .fieldLink RX4 9 "SkiShots$Reader" "text" "[B", .methodLink RX4 15 Lib.Math.min.name, .static Lib.Math.min.name, .initialized "java/lang/Math", .code Lib.Math.min.name Lib.Math.min.code 2 (some .int), .fieldLink RX4 21 "SkiShots$Reader" "length" "I", .classLink RX4 25 RX2, .fieldLink RX4 27 "SkiShots$Reader" "found" "[LSkiShots$Format;", .fieldLink RX4 31 "SkiShots$Reader" "faultPlace" "I"] ++ wsX40)
set_option maxHeartbeats 4000000 in
set_option maxRecDepth 100000 in
theorem c_X4_init (l : Launch) (dC : Nat → ClassId) (dI : Nat → Nat → Nat) (h0 : Nat) (qX : Nat) (cX : ClassId) (f : Nat → Int32) (sz : Nat) : Met l yX4_init wX4_init ({ frames := 1, cells := 1, slots := 8, locals := 14 }) (va_Pc [.ref h0, .ref qX, .int 0] (fun U => U.heap.size = sz ∧ va_P (dC, dI) vwCl [(h0, .inr (4, [.null, .int 0, .null, .int 0, .int 0, .int 0, .int 0, .int 0, .int 0, .int 0])), (qX, .inl (cX, 1000, .inl (f)))] U.heap ∧ va_K (dC, dI) vwCl [(cX, .byte)] U ∧ va_D (fun _ => True) [(h0, .inr (4, [.null, .int 0, .null, .int 0, .int 0, .int 0, .int 0, .int 0, .int 0, .int 0])), (qX, .inl (cX, 1000, .inl (f)))] ∧ va_AO RX2 U)) (va_Qv (fun (_ : Unit) => True) (fun _ t => ∃ (qY : Nat) (cY : ClassId), va_P (dC, dI) vwCl [(h0, .inr (4, [.ref qX, .int 0, .ref qY, .int 0, .int 0, .int ((-1)), .int 0, .int 0, .int 0, .int 0])), (qX, .inl (cX, 1000, .inl (f))), (qY, .inl (cY, 8, .inr (.inr (.inr (.inr (fun _ => none))))))] t.heap ∧ va_K (dC, dI) vwCl [(cX, .byte), (cY, .object RX2)] t ∧ va_D (va_A [(h0, .inr (4, [.null, .int 0, .null, .int 0, .int 0, .int 0, .int 0, .int 0, .int 0, .int 0])), (qX, .inl (cX, 1000, .inl (f)))] sz) [(h0, .inr (4, [.ref qX, .int 0, .ref qY, .int 0, .int 0, .int ((-1)), .int 0, .int 0, .int 0, .int 0])), (qX, .inl (cX, 1000, .inl (f))), (qY, .inl (cY, 8, .inr (.inr (.inr (.inr (fun _ => none))))))]) (va_A [(h0, .inr (4, [.null, .int 0, .null, .int 0, .int 0, .int 0, .int 0, .int 0, .int 0, .int 0])), (qX, .inl (cX, 1000, .inl (f)))] sz)) 1 8 (va_A [(h0, .inr (4, [.null, .int 0, .null, .int 0, .int 0, .int 0, .int 0, .int 0, .int 0, .int 0])), (qX, .inl (cX, 1000, .inl (f)))] sz) := by
  refine Met.ofW (cc := cX4_init) (maxL := 3) (ret := none) (by decide) rfl ?_
  intro p e s m args below meth c s₁ B hml hv
  obtain ⟨rfl, hsz, hP, hK, hD0, hE⟩ := hv
  have hx := B.exec
  have hb := B.bytes
  have hr := B.returns
  have hts := atoms_spec (ws := wX4_init) B.pre
  have hown : s.vm.findClass RX4 = some m.cls := findClass_of_methodNamed B.named
  have hlocks := B.notSynchronized
  have hin : meth.name = "<init>" := (name_of_methodNamed B.named B.method).1
  have hin4 : ∀ w ∈ wsX40, w ∈ wX4_init := by decide +kernel
  subst hsz
  have hD := hD0.self (sz := s.heap.size)
  generalize hAe : va_A [(h0, .inr (4, [.null, .int 0, .null, .int 0, .int 0, .int 0, .int 0, .int 0, .int 0, .int 0])), (qX, .inl (cX, 1000, .inl (f)))] s.heap.size = A at hD ⊢
  have hA : ∀ q : Nat, s.heap.size ≤ q → A q := fun q h => by rw [← hAe]; exact Or.inr h
  have hS : va_S A s.heap s.heap [] := va_S.rf
  have hP : va_P (dC, dI) vwCl [(h0, .inr (4, [.null, .int 0, .null, .int 0, .int 0, .int 0, .int 0, .int 0, .int 0, .int 0])), (qX, .inl (cX, 1000, .inl (f)))] s.heap := hP
  have hl := lv_entry ([.ref h0, .ref qX, .int 0]) (n := 3) (Nat.le_of_ble_eq_true rfl)
  rw [lg_entry_eq]
  generalize (lg_sl ([.ref h0, .ref qX, .int 0]) ++ List.replicate (3 - (lg_sl ([.ref h0, .ref qX, .int 0])).length) Slot.unset).toArray = ls at hl ⊢
  have hl : lv_has ls 3 [(0, .ref h0), (1, .ref qX), (2, .int 0)] := hl
  refine lv_aload_n hx hb dX4_init_0 rfl (lv_at hl 0 rfl) ?_
  refine W.objInit hx hb hown (hts (.methodLink RX4 3 objectInit) (by decide +kernel)) (hts (.instanceMethod objectInit) (by decide +kernel)) (hts (.code objectInit ⟨#[0xb1]⟩ 1 none) (by decide +kernel)) rfl (by rw [hml]; exact hl.1) rfl dX4_init_1 (Nat.le_of_ble_eq_true rfl) (Nat.le_of_ble_eq_true rfl) ?_
  refine W.eq (g2 := F0 m 4 ls []) rfl ?_
  refine lv_aload_n hx hb dX4_init_4 rfl (lv_at hl 0 rfl) ?_
  refine lv_aload_n hx hb dX4_init_5 rfl (lv_at hl 1 rfl) ?_
  refine va_putF (D := (dC, dI)) (ci := 4) (v := .ref qX) (ty := .array .byte) (C := RX4) (T := TX4) (N := 10) hx hb hts hin4 tyX4 tyX4_ok nmX4 hown hK hP hD hS 0 rfl rfl 0 (by decide) (hts (.fieldLink RX4 9 "SkiShots$Reader" "text" "[B") (by decide +kernel)) (fun _ h9 => h9) rfl hin rfl (by decide +kernel) rfl rfl (Nat.le_of_ble_eq_true rfl) dX4_init_6 (fun H locs hP hD hS => ?_)
  have hP : va_P (dC, dI) vwCl [(h0, .inr (4, [.ref qX, .int 0, .null, .int 0, .int 0, .int 0, .int 0, .int 0, .int 0, .int 0])), (qX, .inl (cX, 1000, .inl (f)))] H := hP
  have hD : va_D A [(h0, .inr (4, [.ref qX, .int 0, .null, .int 0, .int 0, .int 0, .int 0, .int 0, .int 0, .int 0])), (qX, .inl (cX, 1000, .inl (f)))] := hD
  refine lv_aload_n hx hb dX4_init_9 rfl (lv_at hl 0 rfl) ?_
  refine lv_iload_n hx hb dX4_init_10 rfl (lv_at hl 2 rfl) ?_
  refine lv_aload_n hx hb dX4_init_11 rfl (lv_at hl 1 rfl) ?_
  refine va_alen (v := 1000) hx hb hK hP 1 0 rfl rfl rfl dX4_init_12 ?_
  refine va_mmin hx hb (hml.trans hl.1.symm) hown (hts (.methodLink RX4 15 Lib.Math.min.name) (by decide +kernel)) (hts (.static Lib.Math.min.name) (by decide +kernel)) (hts (.initialized "java/lang/Math") (by decide +kernel)) (hts (.code Lib.Math.min.name Lib.Math.min.code 2 (some .int)) (by decide +kernel)) (Nat.le_of_ble_eq_true rfl) (Nat.le_of_ble_eq_true rfl) (Nat.le_of_ble_eq_true rfl) (Nat.le_of_ble_eq_true rfl) dX4_init_13 ?_
  rw [show ((if (1000 : Int32) < 0 then 1000 else 0 : Int32)) = 0 from by decide]
  refine va_putF (D := (dC, dI)) (ci := 4) (v := .int 0) (ty := .int) (C := RX4) (T := TX4) (N := 10) hx hb hts hin4 tyX4 tyX4_ok nmX4 hown hK hP hD hS 0 rfl rfl 1 (by decide) (hts (.fieldLink RX4 21 "SkiShots$Reader" "length" "I") (by decide +kernel)) (fun _ h9 => h9) rfl hin rfl (by decide +kernel) rfl rfl (Nat.le_of_ble_eq_true rfl) dX4_init_16 (fun H locs hP hD hS => ?_)
  have hP : va_P (dC, dI) vwCl [(h0, .inr (4, [.ref qX, .int 0, .null, .int 0, .int 0, .int 0, .int 0, .int 0, .int 0, .int 0])), (qX, .inl (cX, 1000, .inl (f)))] H := hP
  have hD : va_D A [(h0, .inr (4, [.ref qX, .int 0, .null, .int 0, .int 0, .int 0, .int 0, .int 0, .int 0, .int 0])), (qX, .inl (cX, 1000, .inl (f)))] := hD
  refine lv_aload_n hx hb dX4_init_19 rfl (lv_at hl 0 rfl) ?_
  refine lv_bipush (v := 8) hx hb dX4_init_20 (by decide) ?_
  refine va_newq (N' := 8) hx hb hown (hts (.classLink RX4 25 RX2) (by decide +kernel)) (hE) hK hP hD hS hA (by decide +kernel) (by decide +kernel) (by decide +kernel) (show (0 + 1 : Nat) ≤ 1 from by omega) (show (0 + 8 : Nat) ≤ 8 from by omega) dX4_init_22 (fun q22 cA22 H hK hP hD hS => ?_)
  have hP : va_P (dC, dI) vwCl [(h0, .inr (4, [.ref qX, .int 0, .null, .int 0, .int 0, .int 0, .int 0, .int 0, .int 0, .int 0])), (qX, .inl (cX, 1000, .inl (f))), (q22, .inl (cA22, 8, .inr (.inr (.inr (.inr (fun _ => none))))))] H := hP
  have hD : va_D A [(h0, .inr (4, [.ref qX, .int 0, .null, .int 0, .int 0, .int 0, .int 0, .int 0, .int 0, .int 0])), (qX, .inl (cX, 1000, .inl (f))), (q22, .inl (cA22, 8, .inr (.inr (.inr (.inr (fun _ => none))))))] := hD
  have hK : va_K (dC, dI) vwCl [(cX, .byte), (cA22, .object RX2)] s := hK
  refine W.widen (k := 1) (n := 8) (by omega) (by omega) ?_
  refine va_putF (D := (dC, dI)) (ci := 4) (v := .ref q22) (ty := .array (.object "SkiShots$Format")) (C := RX4) (T := TX4) (N := 10) hx hb hts hin4 tyX4 tyX4_ok nmX4 hown hK hP hD hS 0 rfl rfl 2 (by decide) (hts (.fieldLink RX4 27 "SkiShots$Reader" "found" "[LSkiShots$Format;") (by decide +kernel)) (fun _ h9 => h9) rfl hin rfl (by decide +kernel) rfl rfl (Nat.le_of_ble_eq_true rfl) dX4_init_25 (fun H locs hP hD hS => ?_)
  have hP : va_P (dC, dI) vwCl [(h0, .inr (4, [.ref qX, .int 0, .ref q22, .int 0, .int 0, .int 0, .int 0, .int 0, .int 0, .int 0])), (qX, .inl (cX, 1000, .inl (f))), (q22, .inl (cA22, 8, .inr (.inr (.inr (.inr (fun _ => none))))))] H := hP
  have hD : va_D A [(h0, .inr (4, [.ref qX, .int 0, .ref q22, .int 0, .int 0, .int 0, .int 0, .int 0, .int 0, .int 0])), (qX, .inl (cX, 1000, .inl (f))), (q22, .inl (cA22, 8, .inr (.inr (.inr (.inr (fun _ => none))))))] := hD
  refine lv_aload_n hx hb dX4_init_28 rfl (lv_at hl 0 rfl) ?_
  refine lv_iconst (v := (-1)) hx hb dX4_init_29 (by decide) ?_
  refine va_put (D := (dC, dI)) (ci := 4) (v := .int ((-1))) (ty := .int) (C := RX4) (T := TX4) (N := 10) hx hb hts hin4 tyX4 tyX4_ok nmX4 hown hK hP hD hS 0 rfl rfl 5 (by decide) (hts (.fieldLink RX4 31 "SkiShots$Reader" "faultPlace" "I") (by decide +kernel)) (fun _ h9 => h9) rfl (by decide +kernel) rfl rfl (Nat.le_of_ble_eq_true rfl) dX4_init_30 (fun H locs hP hD hS => ?_)
  have hP : va_P (dC, dI) vwCl [(h0, .inr (4, [.ref qX, .int 0, .ref q22, .int 0, .int 0, .int ((-1)), .int 0, .int 0, .int 0, .int 0])), (qX, .inl (cX, 1000, .inl (f))), (q22, .inl (cA22, 8, .inr (.inr (.inr (.inr (fun _ => none))))))] H := hP
  have hD : va_D A [(h0, .inr (4, [.ref qX, .int 0, .ref q22, .int 0, .int 0, .int ((-1)), .int 0, .int 0, .int 0, .int 0])), (qX, .inl (cX, 1000, .inl (f))), (q22, .inl (cA22, 8, .inr (.inr (.inr (.inr (fun _ => none))))))] := hD
  have hP9 := hP.sub (ws' := [(h0, .inr (4, [.ref qX, .int 0, .ref q22, .int 0, .int 0, .int ((-1)), .int 0, .int 0, .int 0, .int 0])), (qX, .inl (cX, 1000, .inl (f))), (q22, .inl (cA22, 8, .inr (.inr (.inr (.inr (fun _ => none))))))]) [0, 1, 2] rfl
  have hD9 := hD.sub (ws' := [(h0, .inr (4, [.ref qX, .int 0, .ref q22, .int 0, .int 0, .int ((-1)), .int 0, .int 0, .int 0, .int 0])), (qX, .inl (cX, 1000, .inl (f))), (q22, .inl (cA22, 8, .inr (.inr (.inr (.inr (fun _ => none))))))]) [0, 1, 2] (by decide) rfl
  have hK9 := hK.sub (tys' := [(cX, .byte), (cA22, .object RX2)]) [0, 1] rfl
  refine W.widen (k := 1) (n := 8) (by omega) (by omega) ?_
  exact W.vret hx hb hr (fun t ht hW => ⟨⟨(), rfl, trivial, q22, cA22, by rw [ht]; exact hP9, va_K.moved hW.alike hK9, hD9⟩, hS.F ht⟩) hS.2.2 dX4_init_33
def wX5_formats : List Cond := .code yX5_formats cX5_formats 4 (some .int) :: ([.fieldLink RX5 36 "SkiShots" "tapeLength" "I", .classLink RX5 43 RX4, .instantiable RX4 10, .initialized RX4, .fieldLink RX5 9 "SkiShots" "tape" "[B", .methodLink RX5 45 yX4_init, .instanceMethod yX4_init, .fieldLink RX5 52 "SkiShots$Reader" "fault" "I", .fieldLink RX5 55 "SkiShots" "latestFault" "I", .fieldLink RX5 58 "SkiShots$Reader" "faultPlace" "I", .fieldLink RX5 19 "SkiShots" "latestFaultPlace" "I", .fieldLink RX5 61 "SkiShots$Reader" "found" "[LSkiShots$Format;", .fieldLink RX5 15 "SkiShots" "formatsByName" "[LSkiShots$Format;", .fieldLink RX5 64 "SkiShots$Reader" "foundCount" "I", .fieldLink RX5 67 "SkiShots" "formatCount" "I", .code yX4_init cX4_init 3 none, .methodLink RX4 3 objectInit, .instanceMethod objectInit, .code objectInit ⟨#[0xb1]⟩ 1 none, .fieldLink RX4 9 "SkiShots$Reader" "text" "[B", .methodLink RX4 15 Lib.Math.min.name, .static Lib.Math.min.name, .initialized "java/lang/Math", .code Lib.Math.min.name Lib.Math.min.code 2 (some .int), .fieldLink RX4 21 "SkiShots$Reader" "length" "I", .classLink RX4 25 RX2, .fieldLink RX4 27 "SkiShots$Reader" "found" "[LSkiShots$Format;", .fieldLink RX4 31 "SkiShots$Reader" "faultPlace" "I", .methodLink RX5 48 yX4_readFormats, .instanceMethod yX4_readFormats, .selects RX4 yX4_readFormats yX4_readFormats, .code yX4_readFormats cX4_readFormats 2 (some .boolean), .fieldLink RX4 37 "SkiShots$Reader" "sort" "I", .methodLink RX4 34 yX4_step, .instanceMethod yX4_step, .selects RX4 yX4_step yX4_step, .code yX4_step cX4_step 1 none, .fieldLink RX4 133 "SkiShots$Reader" "behind" "I", .fieldLink RX4 54 "SkiShots$Reader" "place" "I", .methodLink RX4 149 yX4_sortAt, .instanceMethod yX4_sortAt, .selects RX4 yX4_sortAt yX4_sortAt, .code yX4_sortAt cX4_sortAt 3 (some .int)] ++ wsX40 ++ wsX50)
set_option maxRecDepth 20000 in
theorem gX5_formats_c_X4_init_4 : GoodIn wX5_formats (wX4_init) := goodIn_p _ [16, 19, 24] rfl (by decide +kernel)
set_option maxRecDepth 20000 in
theorem gX5_formats_c_X4_readFormats_9 : GoodIn wX5_formats (wsV RX5 48 RX4 yX4_readFormats wX4_readFormats) := goodIn_p _ [32, 37, 24, 43] rfl (by decide +kernel)
set_option maxHeartbeats 4000000 in
set_option maxRecDepth 100000 in
theorem c_X5_formats (l : Launch) (dC : Nat → ClassId) (dI : Nat → Nat → Nat) (h0 : Nat) (qT : Nat) (qF : Nat) (qN : Nat) (qR : Nat) (qC : Nat) (cT : ClassId) (f : Nat → Int32) (p0 : Int32) (sz : Nat) : Met l yX5_formats wX5_formats ({ frames := 3, cells := 2, slots := 18, locals := 63 }) (va_Pc [.ref h0, .int p0] (fun U => U.heap.size = sz ∧ va_P (dC, dI) vwCl [(h0, .inr (5, [.ref qT, .int 0, .ref qF, .int 0, .int 0, .int ((-1)), .int 0, .ref qN, .int 0, .ref qR, .int 0, .int 0, .ref qC])), (qT, .inl (cT, 1000, .inl (f)))] U.heap ∧ va_K (dC, dI) vwCl [(cT, .byte)] U ∧ va_D (fun _ => True) [(h0, .inr (5, [.ref qT, .int 0, .ref qF, .int 0, .int 0, .int ((-1)), .int 0, .ref qN, .int 0, .ref qR, .int 0, .int 0, .ref qC])), (qT, .inl (cT, 1000, .inl (f)))] ∧ va_AO RX2 U)) (va_Qi (fun (r : Int32) (_ : Unit) => (p0.toInt = 0 ∧ r = 0) ∨ (¬ p0.toInt = 0 ∧ r = -2)) (fun _ t => True) (va_A [(h0, .inr (5, [.ref qT, .int 0, .ref qF, .int 0, .int 0, .int ((-1)), .int 0, .ref qN, .int 0, .ref qR, .int 0, .int 0, .ref qC])), (qT, .inl (cT, 1000, .inl (f)))] sz)) 2 18 (va_A [(h0, .inr (5, [.ref qT, .int 0, .ref qF, .int 0, .int 0, .int ((-1)), .int 0, .ref qN, .int 0, .ref qR, .int 0, .int 0, .ref qC])), (qT, .inl (cT, 1000, .inl (f)))] sz) := by
  refine Met.ofW (cc := cX5_formats) (maxL := 4) (ret := (some .int)) (by decide) rfl ?_
  intro p e s m args below meth c s₁ B hml hv
  obtain ⟨rfl, hsz, hP, hK, hD0, hE⟩ := hv
  have hx := B.exec
  have hb := B.bytes
  have hr := B.returns
  have hts := atoms_spec (ws := wX5_formats) B.pre
  have hown : s.vm.findClass RX5 = some m.cls := findClass_of_methodNamed B.named
  have hlocks := B.notSynchronized
  have hin4 : ∀ w ∈ wsX40, w ∈ wX5_formats := by decide +kernel
  have hin5 : ∀ w ∈ wsX50, w ∈ wX5_formats := by decide +kernel
  subst hsz
  have hD := hD0.self (sz := s.heap.size)
  generalize hAe : va_A [(h0, .inr (5, [.ref qT, .int 0, .ref qF, .int 0, .int 0, .int ((-1)), .int 0, .ref qN, .int 0, .ref qR, .int 0, .int 0, .ref qC])), (qT, .inl (cT, 1000, .inl (f)))] s.heap.size = A at hD ⊢
  have hA : ∀ q : Nat, s.heap.size ≤ q → A q := fun q h => by rw [← hAe]; exact Or.inr h
  have hS : va_S A s.heap s.heap [] := va_S.rf
  have hP : va_P (dC, dI) vwCl [(h0, .inr (5, [.ref qT, .int 0, .ref qF, .int 0, .int 0, .int ((-1)), .int 0, .ref qN, .int 0, .ref qR, .int 0, .int 0, .ref qC])), (qT, .inl (cT, 1000, .inl (f)))] s.heap := hP
  have hl := lv_entry ([.ref h0, .int p0]) (n := 4) (Nat.le_of_ble_eq_true rfl)
  rw [lg_entry_eq]
  generalize (lg_sl ([.ref h0, .int p0]) ++ List.replicate (4 - (lg_sl ([.ref h0, .int p0])).length) Slot.unset).toArray = ls at hl ⊢
  have hl : lv_has ls 4 [(0, .ref h0), (1, .int p0)] := hl
  refine lv_iload_n hx hb dX5_formats_0 rfl (lv_at hl 1 rfl) ?_
  refine lv_if_lt (tgt := 12) hx hb dX5_formats_1 (by decide) (fun c_1 => ?_) (fun c_1 => ?_)
  · refine lv_bipush (v := (-2)) hx hb dX5_formats_12 (by decide) ?_
    refine W.widen (k := 2) (n := 18) (by omega) (by omega) ?_
    exact W.iret (v := (-2)) hx hb hr (fun t ht hW => ⟨⟨(-2), (), rfl, by (try simp only [and_true, true_and, and_false, false_and, or_true, true_or, or_false, false_or, not_true_eq_false, not_false_eq_true, num_lt, num_le, num_eq, Int32.zero_add, Int32.sub_zero, Int32.add_zero, num_m2, num_m1, num_0, num_1, num_2, num_3, num_4, num_5, num_6, num_7, num_8, num_16, num_20, num_31, num_200, num_1000] at c_1 ⊢) <;> omega, trivial⟩, hS.F ht⟩) hS.2.2 dX5_formats_14
  · refine lv_iload_n hx hb dX5_formats_4 rfl (lv_at hl 1 rfl) ?_
    refine lv_aload_n hx hb dX5_formats_5 rfl (lv_at hl 0 rfl) ?_
    refine va_get (D := (dC, dI)) (ci := 5) (v := .int 0) (C := RX5) (T := TX5) (N := 13) hx hb hts hin5 hown hK hP 0 rfl rfl 1 (by decide) (hts (.fieldLink RX5 36 "SkiShots" "tapeLength" "I") (by decide +kernel)) (fun _ h9 => h9) rfl dX5_formats_6 ?_
    refine lv_icmp_le (tgt := 15) hx hb dX5_formats_9 (by decide) (fun c_2 => ?_) (fun c_2 => ?_)
    · have e0 : p0 = 0 := by (simp only [and_true, true_and, and_false, false_and, or_true, true_or, or_false, false_or, not_true_eq_false, not_false_eq_true, num_lt, num_le, num_eq, Int32.zero_add, Int32.sub_zero, Int32.add_zero, num_m2, num_m1, num_0, num_1, num_2, num_3, num_4, num_5, num_6, num_7, num_8, num_16, num_20, num_31, num_200, num_1000] at c_1 c_2 ⊢); omega
      subst e0
      refine va_new (ci := 4) (fs := [.null, .int 0, .null, .int 0, .int 0, .int 0, .int 0, .int 0, .int 0, .int 0]) (C := RX4) (T := TX4) (N := 10) hx hb hts hin4 tyX4 tyX4_ok hown (hts (.classLink RX5 43 RX4) (by decide +kernel)) (hts (.instantiable RX4 10) (by decide +kernel)) (hts (.initialized RX4) (by decide +kernel)) hK hP hD hS hA rfl (fun j hj => by rcases (show j = 0 ∨ j = 1 ∨ j = 2 ∨ j = 3 ∨ j = 4 ∨ j = 5 ∨ j = 6 ∨ j = 7 ∨ j = 8 ∨ j = 9 by omega) with rfl | rfl | rfl | rfl | rfl | rfl | rfl | rfl | rfl | rfl <;> rfl) (show (0 + 1 : Nat) ≤ 2 from by omega) (show (0 + 10 : Nat) ≤ 18 from by omega) dX5_formats_15 (fun q15 H hP hD hS => ?_)
      have hP : va_P (dC, dI) vwCl [(h0, .inr (5, [.ref qT, .int 0, .ref qF, .int 0, .int 0, .int ((-1)), .int 0, .ref qN, .int 0, .ref qR, .int 0, .int 0, .ref qC])), (qT, .inl (cT, 1000, .inl (f))), (q15, .inr (4, [.null, .int 0, .null, .int 0, .int 0, .int 0, .int 0, .int 0, .int 0, .int 0]))] H := hP
      have hD : va_D A [(h0, .inr (5, [.ref qT, .int 0, .ref qF, .int 0, .int 0, .int ((-1)), .int 0, .ref qN, .int 0, .ref qR, .int 0, .int 0, .ref qC])), (qT, .inl (cT, 1000, .inl (f))), (q15, .inr (4, [.null, .int 0, .null, .int 0, .int 0, .int 0, .int 0, .int 0, .int 0, .int 0]))] := hD
      refine W.widen (k := 1) (n := 10) (by omega) (by omega) ?_
      refine lv_dup hx hb dX5_formats_18 rfl ?_
      refine lv_aload_n hx hb dX5_formats_19 rfl (lv_at hl 0 rfl) ?_
      refine va_get (D := (dC, dI)) (ci := 5) (v := .ref qT) (C := RX5) (T := TX5) (N := 13) hx hb hts hin5 hown hK hP 0 rfl rfl 0 (by decide) (hts (.fieldLink RX5 9 "SkiShots" "tape" "[B") (by decide +kernel)) (fun _ h9 => h9) rfl dX5_formats_20 ?_
      refine lv_iload_n hx hb dX5_formats_23 rfl (lv_at hl 1 rfl) ?_
      have hPc := hP.sub (ws' := [(q15, .inr (4, [.null, .int 0, .null, .int 0, .int 0, .int 0, .int 0, .int 0, .int 0, .int 0])), (qT, .inl (cT, 1000, .inl (f)))]) [2, 1] rfl
      have hDc := hD.sub (ws' := [(q15, .inr (4, [.null, .int 0, .null, .int 0, .int 0, .int 0, .int 0, .int 0, .int 0, .int 0])), (qT, .inl (cT, 1000, .inl (f)))]) [2, 1] (by decide) rfl
      have hKc := hK.sub (tys' := [(cT, .byte)]) [0] rfl
      have hFc := va_free (wc := [(q15, .inr (4, [.null, .int 0, .null, .int 0, .int 0, .int 0, .int 0, .int 0, .int 0, .int 0])), (qT, .inl (cT, 1000, .inl (f)))]) hD hS hA [2, 1] rfl
      refine va_callv (va_runI (As := [.ref qT, .int 0]) (rest := [.ref q15]) ⟨hx, hb, hml, hown, hts⟩ (c_X4_init l dC dI q15 qT cT (f) H.size) (cwI 2 hts gX5_formats_c_X4_init_4 rfl rfl rfl (hts (.initialized RX4) (by decide +kernel)) (hts (.methodLink RX5 45 yX4_init) (by decide +kernel)) (hts (.instanceMethod yX4_init) (by decide +kernel)) rfl (by decide +kernel) ⟨Nat.le_of_ble_eq_true rfl, Nat.le_of_ble_eq_true rfl⟩) ⟨fun a U g mk q => by obtain ⟨q0, q1, qP, qK, qD, qE⟩ := q; exact ⟨q0, q1, qP, va_K.moved (u := U) (U := U.calling g mk a) (Vm.Alike.refl U.vm) qK, qD, va_AO.moved (u := U) (U := U.calling g mk a) (Vm.Alike.refl U.vm) qE⟩, fun U hU hW => ⟨rfl, by rw [hU], by rw [hU]; exact hPc, va_K.moved hW.alike hKc, hDc.weaken (fun _ _ _ _ => trivial), va_AO.moved hW.alike hE⟩⟩ rfl rfl hl.1 rfl (lv_room (Nat.le_of_ble_eq_true rfl)) dX5_formats_24 ⟨show (1 + 1 : Nat) ≤ 2 from by omega, show (10 + 8 : Nat) ≤ 18 from by omega⟩) hS (fun q _ h => hFc q h) hFc (fun u t H1 locs ht hvm hw hB hz1 hk1 hS => ?_)
      obtain ⟨qY_5, cY_6, hP1, hK1, hD1⟩ := hB
      rw [ht] at hP1
      have hK1 := va_K.moved hvm.symm hK1
      try dsimp only at hw
      obtain ⟨hP, hD⟩ := va_join (wr := [(h0, .inr (5, [.ref qT, .int 0, .ref qF, .int 0, .int 0, .int ((-1)), .int 0, .ref qN, .int 0, .ref qR, .int 0, .int 0, .ref qC]))]) (w1 := [(q15, .inr (4, [.ref qT, .int 0, .ref qY_5, .int 0, .int 0, .int ((-1)), .int 0, .int 0, .int 0, .int 0])), (qT, .inl (cT, 1000, .inl ((f)))), (qY_5, .inl (cY_6, 8, .inr (.inr (.inr (.inr (fun _ => none))))))]) hP hD [2, 1] [0] rfl rfl (by decide) (by decide) hk1 hFc hP1 hD1
      have hK := hK.app hK1
      have hK : va_K (dC, dI) vwCl [(cT, .byte), (cT, .byte), (cY_6, .object RX2)] s := hK
      generalize H1 = H at hP hS ⊢
      have hP : va_P (dC, dI) vwCl [(h0, .inr (5, [.ref qT, .int 0, .ref qF, .int 0, .int 0, .int ((-1)), .int 0, .ref qN, .int 0, .ref qR, .int 0, .int 0, .ref qC])), (q15, .inr (4, [.ref qT, .int 0, .ref qY_5, .int 0, .int 0, .int ((-1)), .int 0, .int 0, .int 0, .int 0])), (qT, .inl (cT, 1000, .inl ((f)))), (qY_5, .inl (cY_6, 8, .inr (.inr (.inr (.inr (fun _ => none))))))] H := hP
      have hD : va_D A [(h0, .inr (5, [.ref qT, .int 0, .ref qF, .int 0, .int 0, .int ((-1)), .int 0, .ref qN, .int 0, .ref qR, .int 0, .int 0, .ref qC])), (q15, .inr (4, [.ref qT, .int 0, .ref qY_5, .int 0, .int 0, .int ((-1)), .int 0, .int 0, .int 0, .int 0])), (qT, .inl (cT, 1000, .inl ((f)))), (qY_5, .inl (cY_6, 8, .inr (.inr (.inr (.inr (fun _ => none))))))] := hD
      refine W.widen (k := 2) (n := 18) (by omega) (by omega) ?_
      have hw_7 := hw
      refine lv_astore_n (lv' := [(2, .ref q15), (0, .ref h0), (1, .int 0)]) hx hb dX5_formats_27 rfl hl (by decide) rfl (fun ls hl => ?_)
      refine lv_aload_n hx hb dX5_formats_28 rfl (lv_at hl 0 rfl) ?_
      have hPc := hP.sub (ws' := [(q15, .inr (4, [.ref qT, .int 0, .ref qY_5, .int 0, .int 0, .int ((-1)), .int 0, .int 0, .int 0, .int 0]))]) [1] rfl
      have hDc := hD.sub (ws' := [(q15, .inr (4, [.ref qT, .int 0, .ref qY_5, .int 0, .int 0, .int ((-1)), .int 0, .int 0, .int 0, .int 0]))]) [1] (by decide) rfl
      have hKc := hK.sub (tys' := []) [] rfl
      have hFc := va_free (wc := [(q15, .inr (4, [.ref qT, .int 0, .ref qY_5, .int 0, .int 0, .int ((-1)), .int 0, .int 0, .int 0, .int 0]))]) hD hS hA [1] rfl
      refine va_calli (va_runV (As := []) (rest := []) ⟨hx, hb, hml, hown, hts⟩ (c_X4_readFormats l dC dI q15 qT qY_5 H.size) (cwV 0 hts gX5_formats_c_X4_readFormats_9 rfl rfl rfl (by decide +kernel) ⟨Nat.le_of_ble_eq_true rfl, Nat.le_of_ble_eq_true rfl⟩) ⟨fun a U g mk q => by obtain ⟨q0, q1, qP, qK, qD⟩ := q; exact ⟨q0, q1, qP, va_K.moved (u := U) (U := U.calling g mk a) (Vm.Alike.refl U.vm) qK, qD⟩, va_recv hKc hPc (ci := 4) (q0 := 0) rfl rfl, fun U hU hW => ⟨rfl, by rw [hU], by rw [hU]; exact hPc, va_K.moved hW.alike hKc, hDc.weaken (fun _ _ _ _ => trivial)⟩⟩ rfl rfl hl.1 rfl (lv_room (Nat.le_of_ble_eq_true rfl)) dX5_formats_29 ⟨show (2 + 0 : Nat) ≤ 2 from by omega, show (18 + 0 : Nat) ≤ 18 from by omega⟩) hS (fun q _ h => hFc q h) hFc (fun r_8 u t H1 locs ht hvm hw hB hz1 hk1 hS => ?_)
      obtain ⟨hP1, hK1, hD1⟩ := hB
      rw [ht] at hP1
      have hK1 := va_K.moved hvm.symm hK1
      try dsimp only at hw
      obtain ⟨hP, hD⟩ := va_join (wr := [(h0, .inr (5, [.ref qT, .int 0, .ref qF, .int 0, .int 0, .int ((-1)), .int 0, .ref qN, .int 0, .ref qR, .int 0, .int 0, .ref qC])), (qT, .inl (cT, 1000, .inl ((f)))), (qY_5, .inl (cY_6, 8, .inr (.inr (.inr (.inr (fun _ => none))))))]) (w1 := [(q15, .inr (4, [.ref qT, .int 0, .ref qY_5, .int 0, .int 0, .int ((-1)), .int 0, .int 0, .int 0, .int 0]))]) hP hD [1] [0, 2, 3] rfl rfl (by decide) (by decide) hk1 hFc hP1 hD1
      generalize H1 = H at hP hS ⊢
      have hP : va_P (dC, dI) vwCl [(h0, .inr (5, [.ref qT, .int 0, .ref qF, .int 0, .int 0, .int ((-1)), .int 0, .ref qN, .int 0, .ref qR, .int 0, .int 0, .ref qC])), (qT, .inl (cT, 1000, .inl ((f)))), (qY_5, .inl (cY_6, 8, .inr (.inr (.inr (.inr (fun _ => none)))))), (q15, .inr (4, [.ref qT, .int 0, .ref qY_5, .int 0, .int 0, .int ((-1)), .int 0, .int 0, .int 0, .int 0]))] H := hP
      have hD : va_D A [(h0, .inr (5, [.ref qT, .int 0, .ref qF, .int 0, .int 0, .int ((-1)), .int 0, .ref qN, .int 0, .ref qR, .int 0, .int 0, .ref qC])), (qT, .inl (cT, 1000, .inl ((f)))), (qY_5, .inl (cY_6, 8, .inr (.inr (.inr (.inr (fun _ => none)))))), (q15, .inr (4, [.ref qT, .int 0, .ref qY_5, .int 0, .int 0, .int ((-1)), .int 0, .int 0, .int 0, .int 0]))] := hD
      have hw_10 := hw
      subst hw_10
      refine lv_istore_n (lv' := [(3, .int 1), (2, .ref q15), (0, .ref h0), (1, .int 0)]) hx hb dX5_formats_32 rfl hl (by decide) rfl (fun ls hl => ?_)
      refine lv_aload_n hx hb dX5_formats_33 rfl (lv_at hl 2 rfl) ?_
      refine lv_iconst (v := 0) hx hb dX5_formats_34 (by decide) ?_
      refine va_put (D := (dC, dI)) (ci := 5) (v := .int 0) (ty := .int) (C := RX5) (T := TX5) (N := 13) hx hb hts hin5 tyX5 tyX5_ok nmX5 hown hK hP hD hS 0 rfl rfl 1 (by decide) (hts (.fieldLink RX5 36 "SkiShots" "tapeLength" "I") (by decide +kernel)) (fun _ h9 => h9) rfl (by decide +kernel) rfl rfl (Nat.le_of_ble_eq_true rfl) dX5_formats_35 (fun H locs hP hD hS => ?_)
      have hP : va_P (dC, dI) vwCl [(h0, .inr (5, [.ref qT, .int 0, .ref qF, .int 0, .int 0, .int ((-1)), .int 0, .ref qN, .int 0, .ref qR, .int 0, .int 0, .ref qC])), (qT, .inl (cT, 1000, .inl ((f)))), (qY_5, .inl (cY_6, 8, .inr (.inr (.inr (.inr (fun _ => none)))))), (q15, .inr (4, [.ref qT, .int 0, .ref qY_5, .int 0, .int 0, .int ((-1)), .int 0, .int 0, .int 0, .int 0]))] H := hP
      have hD : va_D A [(h0, .inr (5, [.ref qT, .int 0, .ref qF, .int 0, .int 0, .int ((-1)), .int 0, .ref qN, .int 0, .ref qR, .int 0, .int 0, .ref qC])), (qT, .inl (cT, 1000, .inl ((f)))), (qY_5, .inl (cY_6, 8, .inr (.inr (.inr (.inr (fun _ => none)))))), (q15, .inr (4, [.ref qT, .int 0, .ref qY_5, .int 0, .int 0, .int ((-1)), .int 0, .int 0, .int 0, .int 0]))] := hD
      refine lv_aload_n hx hb dX5_formats_38 rfl (lv_at hl 2 rfl) ?_
      refine lv_aload_n hx hb dX5_formats_39 rfl (lv_at hl 1 rfl) ?_
      refine va_get (D := (dC, dI)) (ci := 4) (v := .int 0) (C := RX4) (T := TX4) (N := 10) hx hb hts hin4 hown hK hP 3 rfl rfl 4 (by decide) (hts (.fieldLink RX5 52 "SkiShots$Reader" "fault" "I") (by decide +kernel)) (fun _ h9 => h9) rfl dX5_formats_40 ?_
      refine va_put (D := (dC, dI)) (ci := 5) (v := .int 0) (ty := .int) (C := RX5) (T := TX5) (N := 13) hx hb hts hin5 tyX5 tyX5_ok nmX5 hown hK hP hD hS 0 rfl rfl 4 (by decide) (hts (.fieldLink RX5 55 "SkiShots" "latestFault" "I") (by decide +kernel)) (fun _ h9 => h9) rfl (by decide +kernel) rfl rfl (Nat.le_of_ble_eq_true rfl) dX5_formats_43 (fun H locs hP hD hS => ?_)
      have hP : va_P (dC, dI) vwCl [(h0, .inr (5, [.ref qT, .int 0, .ref qF, .int 0, .int 0, .int ((-1)), .int 0, .ref qN, .int 0, .ref qR, .int 0, .int 0, .ref qC])), (qT, .inl (cT, 1000, .inl ((f)))), (qY_5, .inl (cY_6, 8, .inr (.inr (.inr (.inr (fun _ => none)))))), (q15, .inr (4, [.ref qT, .int 0, .ref qY_5, .int 0, .int 0, .int ((-1)), .int 0, .int 0, .int 0, .int 0]))] H := hP
      have hD : va_D A [(h0, .inr (5, [.ref qT, .int 0, .ref qF, .int 0, .int 0, .int ((-1)), .int 0, .ref qN, .int 0, .ref qR, .int 0, .int 0, .ref qC])), (qT, .inl (cT, 1000, .inl ((f)))), (qY_5, .inl (cY_6, 8, .inr (.inr (.inr (.inr (fun _ => none)))))), (q15, .inr (4, [.ref qT, .int 0, .ref qY_5, .int 0, .int 0, .int ((-1)), .int 0, .int 0, .int 0, .int 0]))] := hD
      refine lv_aload_n hx hb dX5_formats_46 rfl (lv_at hl 2 rfl) ?_
      refine lv_aload_n hx hb dX5_formats_47 rfl (lv_at hl 1 rfl) ?_
      refine va_get (D := (dC, dI)) (ci := 4) (v := .int ((-1))) (C := RX4) (T := TX4) (N := 10) hx hb hts hin4 hown hK hP 3 rfl rfl 5 (by decide) (hts (.fieldLink RX5 58 "SkiShots$Reader" "faultPlace" "I") (by decide +kernel)) (fun _ h9 => h9) rfl dX5_formats_48 ?_
      refine va_put (D := (dC, dI)) (ci := 5) (v := .int ((-1))) (ty := .int) (C := RX5) (T := TX5) (N := 13) hx hb hts hin5 tyX5 tyX5_ok nmX5 hown hK hP hD hS 0 rfl rfl 5 (by decide) (hts (.fieldLink RX5 19 "SkiShots" "latestFaultPlace" "I") (by decide +kernel)) (fun _ h9 => h9) rfl (by decide +kernel) rfl rfl (Nat.le_of_ble_eq_true rfl) dX5_formats_51 (fun H locs hP hD hS => ?_)
      have hP : va_P (dC, dI) vwCl [(h0, .inr (5, [.ref qT, .int 0, .ref qF, .int 0, .int 0, .int ((-1)), .int 0, .ref qN, .int 0, .ref qR, .int 0, .int 0, .ref qC])), (qT, .inl (cT, 1000, .inl ((f)))), (qY_5, .inl (cY_6, 8, .inr (.inr (.inr (.inr (fun _ => none)))))), (q15, .inr (4, [.ref qT, .int 0, .ref qY_5, .int 0, .int 0, .int ((-1)), .int 0, .int 0, .int 0, .int 0]))] H := hP
      have hD : va_D A [(h0, .inr (5, [.ref qT, .int 0, .ref qF, .int 0, .int 0, .int ((-1)), .int 0, .ref qN, .int 0, .ref qR, .int 0, .int 0, .ref qC])), (qT, .inl (cT, 1000, .inl ((f)))), (qY_5, .inl (cY_6, 8, .inr (.inr (.inr (.inr (fun _ => none)))))), (q15, .inr (4, [.ref qT, .int 0, .ref qY_5, .int 0, .int 0, .int ((-1)), .int 0, .int 0, .int 0, .int 0]))] := hD
      refine lv_iload_n hx hb dX5_formats_54 rfl (lv_at hl 0 rfl) ?_
      refine lv_if_ne (tgt := 60) hx hb dX5_formats_55 (by decide) (fun c_11 => ?_) (fun c_11 => absurd c_11 (by decide))
      refine lv_aload_n hx hb dX5_formats_60 rfl (lv_at hl 2 rfl) ?_
      refine lv_aload_n hx hb dX5_formats_61 rfl (lv_at hl 1 rfl) ?_
      refine va_get (D := (dC, dI)) (ci := 4) (v := .ref qY_5) (C := RX4) (T := TX4) (N := 10) hx hb hts hin4 hown hK hP 3 rfl rfl 2 (by decide) (hts (.fieldLink RX5 61 "SkiShots$Reader" "found" "[LSkiShots$Format;") (by decide +kernel)) (fun _ h9 => h9) rfl dX5_formats_62 ?_
      refine va_put (D := (dC, dI)) (ci := 5) (v := .ref qY_5) (ty := .array (.object "SkiShots$Format")) (C := RX5) (T := TX5) (N := 13) hx hb hts hin5 tyX5 tyX5_ok nmX5 hown hK hP hD hS 0 rfl rfl 2 (by decide) (hts (.fieldLink RX5 15 "SkiShots" "formatsByName" "[LSkiShots$Format;") (by decide +kernel)) (fun _ h9 => h9) rfl (by decide +kernel) rfl rfl (Nat.le_of_ble_eq_true rfl) dX5_formats_65 (fun H locs hP hD hS => ?_)
      have hP : va_P (dC, dI) vwCl [(h0, .inr (5, [.ref qT, .int 0, .ref qY_5, .int 0, .int 0, .int ((-1)), .int 0, .ref qN, .int 0, .ref qR, .int 0, .int 0, .ref qC])), (qT, .inl (cT, 1000, .inl ((f)))), (qY_5, .inl (cY_6, 8, .inr (.inr (.inr (.inr (fun _ => none)))))), (q15, .inr (4, [.ref qT, .int 0, .ref qY_5, .int 0, .int 0, .int ((-1)), .int 0, .int 0, .int 0, .int 0]))] H := hP
      have hD : va_D A [(h0, .inr (5, [.ref qT, .int 0, .ref qY_5, .int 0, .int 0, .int ((-1)), .int 0, .ref qN, .int 0, .ref qR, .int 0, .int 0, .ref qC])), (qT, .inl (cT, 1000, .inl ((f)))), (qY_5, .inl (cY_6, 8, .inr (.inr (.inr (.inr (fun _ => none)))))), (q15, .inr (4, [.ref qT, .int 0, .ref qY_5, .int 0, .int 0, .int ((-1)), .int 0, .int 0, .int 0, .int 0]))] := hD
      refine lv_aload_n hx hb dX5_formats_68 rfl (lv_at hl 2 rfl) ?_
      refine lv_aload_n hx hb dX5_formats_69 rfl (lv_at hl 1 rfl) ?_
      refine va_get (D := (dC, dI)) (ci := 4) (v := .int 0) (C := RX4) (T := TX4) (N := 10) hx hb hts hin4 hown hK hP 3 rfl rfl 3 (by decide) (hts (.fieldLink RX5 64 "SkiShots$Reader" "foundCount" "I") (by decide +kernel)) (fun _ h9 => h9) rfl dX5_formats_70 ?_
      refine va_put (D := (dC, dI)) (ci := 5) (v := .int 0) (ty := .int) (C := RX5) (T := TX5) (N := 13) hx hb hts hin5 tyX5 tyX5_ok nmX5 hown hK hP hD hS 0 rfl rfl 3 (by decide) (hts (.fieldLink RX5 67 "SkiShots" "formatCount" "I") (by decide +kernel)) (fun _ h9 => h9) rfl (by decide +kernel) rfl rfl (Nat.le_of_ble_eq_true rfl) dX5_formats_73 (fun H locs hP hD hS => ?_)
      have hP : va_P (dC, dI) vwCl [(h0, .inr (5, [.ref qT, .int 0, .ref qY_5, .int 0, .int 0, .int ((-1)), .int 0, .ref qN, .int 0, .ref qR, .int 0, .int 0, .ref qC])), (qT, .inl (cT, 1000, .inl ((f)))), (qY_5, .inl (cY_6, 8, .inr (.inr (.inr (.inr (fun _ => none)))))), (q15, .inr (4, [.ref qT, .int 0, .ref qY_5, .int 0, .int 0, .int ((-1)), .int 0, .int 0, .int 0, .int 0]))] H := hP
      have hD : va_D A [(h0, .inr (5, [.ref qT, .int 0, .ref qY_5, .int 0, .int 0, .int ((-1)), .int 0, .ref qN, .int 0, .ref qR, .int 0, .int 0, .ref qC])), (qT, .inl (cT, 1000, .inl ((f)))), (qY_5, .inl (cY_6, 8, .inr (.inr (.inr (.inr (fun _ => none)))))), (q15, .inr (4, [.ref qT, .int 0, .ref qY_5, .int 0, .int 0, .int ((-1)), .int 0, .int 0, .int 0, .int 0]))] := hD
      refine lv_aload_n hx hb dX5_formats_76 rfl (lv_at hl 2 rfl) ?_
      refine va_get (D := (dC, dI)) (ci := 5) (v := .int 0) (C := RX5) (T := TX5) (N := 13) hx hb hts hin5 hown hK hP 0 rfl rfl 3 (by decide) (hts (.fieldLink RX5 67 "SkiShots" "formatCount" "I") (by decide +kernel)) (fun _ h9 => h9) rfl dX5_formats_77 ?_
      refine W.widen (k := 2) (n := 18) (by omega) (by omega) ?_
      exact W.iret (v := 0) hx hb hr (fun t ht hW => ⟨⟨0, (), rfl, by (try simp only [and_true, true_and, and_false, false_and, or_true, true_or, or_false, false_or, not_true_eq_false, not_false_eq_true, num_lt, num_le, num_eq, Int32.zero_add, Int32.sub_zero, Int32.add_zero, num_m2, num_m1, num_0, num_1, num_2, num_3, num_4, num_5, num_6, num_7, num_8, num_16, num_20, num_31, num_200, num_1000] at c_11 ⊢) <;> omega, trivial⟩, hS.F ht⟩) hS.2.2 dX5_formats_80
    · refine lv_bipush (v := (-2)) hx hb dX5_formats_12 (by decide) ?_
      refine W.widen (k := 2) (n := 18) (by omega) (by omega) ?_
      exact W.iret (v := (-2)) hx hb hr (fun t ht hW => ⟨⟨(-2), (), rfl, by (try simp only [and_true, true_and, and_false, false_and, or_true, true_or, or_false, false_or, not_true_eq_false, not_false_eq_true, num_lt, num_le, num_eq, Int32.zero_add, Int32.sub_zero, Int32.add_zero, num_m2, num_m1, num_0, num_1, num_2, num_3, num_4, num_5, num_6, num_7, num_8, num_16, num_20, num_31, num_200, num_1000] at c_1 c_2 ⊢) <;> omega, trivial⟩, hS.F ht⟩) hS.2.2 dX5_formats_14
