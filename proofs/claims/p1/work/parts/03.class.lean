theorem h_nlt {x y : Int32} (h : ¬ x < y) : y ≤ x := Int32.not_lt.mp h
/-- the order of ints is that of their numbers -/
theorem num_lt (a b : Int32) : a < b ↔ a.toInt < b.toInt := Int32.lt_iff_toInt_lt
theorem num_le (a b : Int32) : a ≤ b ↔ a.toInt ≤ b.toInt := Int32.le_iff_toInt_le
theorem num_eq (a b : Int32) : a = b ↔ a.toInt = b.toInt := Int32.toInt_inj.symm
theorem num_m2 : ((-2) : Int32).toInt = -2 := by decide
theorem num_m1 : ((-1) : Int32).toInt = -1 := by decide
theorem num_0 : (0 : Int32).toInt = 0 := by decide
theorem num_1 : (1 : Int32).toInt = 1 := by decide
theorem num_2 : (2 : Int32).toInt = 2 := by decide
theorem num_3 : (3 : Int32).toInt = 3 := by decide
theorem num_4 : (4 : Int32).toInt = 4 := by decide
theorem num_5 : (5 : Int32).toInt = 5 := by decide
theorem num_6 : (6 : Int32).toInt = 6 := by decide
theorem num_7 : (7 : Int32).toInt = 7 := by decide
theorem num_8 : (8 : Int32).toInt = 8 := by decide
theorem num_16 : (16 : Int32).toInt = 16 := by decide
theorem num_20 : (20 : Int32).toInt = 20 := by decide
theorem num_31 : (31 : Int32).toInt = 31 := by decide
theorem num_200 : (200 : Int32).toInt = 200 := by decide
theorem num_1000 : (1000 : Int32).toInt = 1000 := by decide
def wX5_raceAt : List Cond := .code yX5_raceAt cX5_raceAt 2 (some (.object "SkiShots$Race")) :: ([.fieldLink RX5 80 "SkiShots" "raceCount" "I"] ++ wsX50)
set_option maxHeartbeats 4000000 in
set_option maxRecDepth 100000 in
theorem c_X5_raceAt (l : Launch) (dC : Nat → ClassId) (dI : Nat → Nat → Nat) (h0 : Nat) (qT : Nat) (qF : Nat) (qN : Nat) (qR : Nat) (qC : Nat) (p0 : Int32) (sz : Nat) : Met l yX5_raceAt wX5_raceAt ({ frames := 0, cells := 0, slots := 0, locals := 0 }) (va_Pc [.ref h0, .int p0] (fun U => U.heap.size = sz ∧ va_P (dC, dI) vwCl [(h0, .inr (5, [.ref qT, .int 0, .ref qF, .int 0, .int 0, .int ((-1)), .int 0, .ref qN, .int 0, .ref qR, .int 0, .int 0, .ref qC]))] U.heap ∧ va_K (dC, dI) vwCl [] U ∧ va_D (fun _ => True) [(h0, .inr (5, [.ref qT, .int 0, .ref qF, .int 0, .int 0, .int ((-1)), .int 0, .ref qN, .int 0, .ref qR, .int 0, .int 0, .ref qC]))])) (va_Qq (fun (r : Option Nat) (_ : Unit) => r = none) (fun _ t => va_P (dC, dI) vwCl [(h0, .inr (5, [.ref qT, .int 0, .ref qF, .int 0, .int 0, .int ((-1)), .int 0, .ref qN, .int 0, .ref qR, .int 0, .int 0, .ref qC]))] t.heap ∧ va_K (dC, dI) vwCl [] t ∧ va_D (va_A [(h0, .inr (5, [.ref qT, .int 0, .ref qF, .int 0, .int 0, .int ((-1)), .int 0, .ref qN, .int 0, .ref qR, .int 0, .int 0, .ref qC]))] sz) [(h0, .inr (5, [.ref qT, .int 0, .ref qF, .int 0, .int 0, .int ((-1)), .int 0, .ref qN, .int 0, .ref qR, .int 0, .int 0, .ref qC]))]) (va_A [(h0, .inr (5, [.ref qT, .int 0, .ref qF, .int 0, .int 0, .int ((-1)), .int 0, .ref qN, .int 0, .ref qR, .int 0, .int 0, .ref qC]))] sz)) 0 0 (va_A [(h0, .inr (5, [.ref qT, .int 0, .ref qF, .int 0, .int 0, .int ((-1)), .int 0, .ref qN, .int 0, .ref qR, .int 0, .int 0, .ref qC]))] sz) := by
  refine Met.ofW (cc := cX5_raceAt) (maxL := 2) (ret := (some (.object "SkiShots$Race"))) (by decide) rfl ?_
  intro p e s m args below meth c s₁ B hml hv
  obtain ⟨rfl, hsz, hP, hK, hD0⟩ := hv
  have hx := B.exec
  have hb := B.bytes
  have hr := B.returns
  have hts := atoms_spec (ws := wX5_raceAt) B.pre
  have hown : s.vm.findClass RX5 = some m.cls := findClass_of_methodNamed B.named
  have hlocks := B.notSynchronized
  have hin5 : ∀ w ∈ wsX50, w ∈ wX5_raceAt := by decide +kernel
  subst hsz
  have hD := hD0.self (sz := s.heap.size)
  generalize hAe : va_A [(h0, .inr (5, [.ref qT, .int 0, .ref qF, .int 0, .int 0, .int ((-1)), .int 0, .ref qN, .int 0, .ref qR, .int 0, .int 0, .ref qC]))] s.heap.size = A at hD ⊢
  have hA : ∀ q : Nat, s.heap.size ≤ q → A q := fun q h => by rw [← hAe]; exact Or.inr h
  have hS : va_S A s.heap s.heap [] := va_S.rf
  have hP : va_P (dC, dI) vwCl [(h0, .inr (5, [.ref qT, .int 0, .ref qF, .int 0, .int 0, .int ((-1)), .int 0, .ref qN, .int 0, .ref qR, .int 0, .int 0, .ref qC]))] s.heap := hP
  have hl := lv_entry ([.ref h0, .int p0]) (n := 2) (Nat.le_of_ble_eq_true rfl)
  rw [lg_entry_eq]
  generalize (lg_sl ([.ref h0, .int p0]) ++ List.replicate (2 - (lg_sl ([.ref h0, .int p0])).length) Slot.unset).toArray = ls at hl ⊢
  have hl : lv_has ls 2 [(0, .ref h0), (1, .int p0)] := hl
  refine lv_iload_n hx hb dX5_raceAt_0 rfl (lv_at hl 1 rfl) ?_
  refine lv_if_lt (tgt := 21) hx hb dX5_raceAt_1 (by decide) (fun c_1 => ?_) (fun c_1 => ?_)
  · refine lv_null hx hb dX5_raceAt_21 ?_
    have hP9 := hP.sub (ws' := [(h0, .inr (5, [.ref qT, .int 0, .ref qF, .int 0, .int 0, .int ((-1)), .int 0, .ref qN, .int 0, .ref qR, .int 0, .int 0, .ref qC]))]) [0] rfl
    have hD9 := hD.sub (ws' := [(h0, .inr (5, [.ref qT, .int 0, .ref qF, .int 0, .int 0, .int ((-1)), .int 0, .ref qN, .int 0, .ref qR, .int 0, .int 0, .ref qC]))]) [0] (by decide) rfl
    have hK9 := hK.sub (tys' := []) [] rfl
    exact W.aret (v := va_rf (none)) hx hb hr (Or.inl ⟨_, rfl⟩) (va_rf_or _) (fun t ht hW => ⟨⟨none, (), rfl, rfl, by rw [ht]; exact hP9, va_K.moved hW.alike hK9, hD9⟩, hS.F ht⟩) hS.2.2 dX5_raceAt_22
  · refine lv_iload_n hx hb dX5_raceAt_4 rfl (lv_at hl 1 rfl) ?_
    refine lv_aload_n hx hb dX5_raceAt_5 rfl (lv_at hl 0 rfl) ?_
    refine va_get (D := (dC, dI)) (ci := 5) (v := .int 0) (C := RX5) (T := TX5) (N := 13) hx hb hts hin5 hown hK hP 0 rfl rfl 10 (by decide) (hts (.fieldLink RX5 80 "SkiShots" "raceCount" "I") (by decide +kernel)) (fun _ h9 => h9) rfl dX5_raceAt_6 ?_
    refine lv_icmp_ge (tgt := 21) hx hb dX5_raceAt_9 (by decide) (fun c_2 => ?_) (fun c_2 => absurd (h_nlt c_1) c_2)
    refine lv_null hx hb dX5_raceAt_21 ?_
    have hP9 := hP.sub (ws' := [(h0, .inr (5, [.ref qT, .int 0, .ref qF, .int 0, .int 0, .int ((-1)), .int 0, .ref qN, .int 0, .ref qR, .int 0, .int 0, .ref qC]))]) [0] rfl
    have hD9 := hD.sub (ws' := [(h0, .inr (5, [.ref qT, .int 0, .ref qF, .int 0, .int 0, .int ((-1)), .int 0, .ref qN, .int 0, .ref qR, .int 0, .int 0, .ref qC]))]) [0] (by decide) rfl
    have hK9 := hK.sub (tys' := []) [] rfl
    exact W.aret (v := va_rf (none)) hx hb hr (Or.inl ⟨_, rfl⟩) (va_rf_or _) (fun t ht hW => ⟨⟨none, (), rfl, rfl, by rw [ht]; exact hP9, va_K.moved hW.alike hK9, hD9⟩, hS.F ht⟩) hS.2.2 dX5_raceAt_22
def wX5_isRacer : List Cond := .code yX5_isRacer cX5_isRacer 2 (some .boolean) :: ([.fieldLink RX5 77 "SkiShots" "racerCount" "I"] ++ wsX50)
set_option maxHeartbeats 4000000 in
set_option maxRecDepth 100000 in
theorem c_X5_isRacer (l : Launch) (dC : Nat → ClassId) (dI : Nat → Nat → Nat) (h0 : Nat) (qT : Nat) (qF : Nat) (qN : Nat) (qR : Nat) (qC : Nat) (p0 : Int32) (sz : Nat) : Met l yX5_isRacer wX5_isRacer ({ frames := 0, cells := 0, slots := 0, locals := 0 }) (va_Pc [.ref h0, .int p0] (fun U => U.heap.size = sz ∧ va_P (dC, dI) vwCl [(h0, .inr (5, [.ref qT, .int 0, .ref qF, .int 0, .int 0, .int ((-1)), .int 0, .ref qN, .int 0, .ref qR, .int 0, .int 0, .ref qC]))] U.heap ∧ va_K (dC, dI) vwCl [] U ∧ va_D (fun _ => True) [(h0, .inr (5, [.ref qT, .int 0, .ref qF, .int 0, .int 0, .int ((-1)), .int 0, .ref qN, .int 0, .ref qR, .int 0, .int 0, .ref qC]))])) (va_Qi (fun (r : Int32) (_ : Unit) => r = 0) (fun _ t => va_P (dC, dI) vwCl [(h0, .inr (5, [.ref qT, .int 0, .ref qF, .int 0, .int 0, .int ((-1)), .int 0, .ref qN, .int 0, .ref qR, .int 0, .int 0, .ref qC]))] t.heap ∧ va_K (dC, dI) vwCl [] t ∧ va_D (va_A [(h0, .inr (5, [.ref qT, .int 0, .ref qF, .int 0, .int 0, .int ((-1)), .int 0, .ref qN, .int 0, .ref qR, .int 0, .int 0, .ref qC]))] sz) [(h0, .inr (5, [.ref qT, .int 0, .ref qF, .int 0, .int 0, .int ((-1)), .int 0, .ref qN, .int 0, .ref qR, .int 0, .int 0, .ref qC]))]) (va_A [(h0, .inr (5, [.ref qT, .int 0, .ref qF, .int 0, .int 0, .int ((-1)), .int 0, .ref qN, .int 0, .ref qR, .int 0, .int 0, .ref qC]))] sz)) 0 0 (va_A [(h0, .inr (5, [.ref qT, .int 0, .ref qF, .int 0, .int 0, .int ((-1)), .int 0, .ref qN, .int 0, .ref qR, .int 0, .int 0, .ref qC]))] sz) := by
  refine Met.ofW (cc := cX5_isRacer) (maxL := 2) (ret := (some .boolean)) (by decide) rfl ?_
  intro p e s m args below meth c s₁ B hml hv
  obtain ⟨rfl, hsz, hP, hK, hD0⟩ := hv
  have hx := B.exec
  have hb := B.bytes
  have hr := B.returns
  have hts := atoms_spec (ws := wX5_isRacer) B.pre
  have hown : s.vm.findClass RX5 = some m.cls := findClass_of_methodNamed B.named
  have hlocks := B.notSynchronized
  have hin5 : ∀ w ∈ wsX50, w ∈ wX5_isRacer := by decide +kernel
  subst hsz
  have hD := hD0.self (sz := s.heap.size)
  generalize hAe : va_A [(h0, .inr (5, [.ref qT, .int 0, .ref qF, .int 0, .int 0, .int ((-1)), .int 0, .ref qN, .int 0, .ref qR, .int 0, .int 0, .ref qC]))] s.heap.size = A at hD ⊢
  have hA : ∀ q : Nat, s.heap.size ≤ q → A q := fun q h => by rw [← hAe]; exact Or.inr h
  have hS : va_S A s.heap s.heap [] := va_S.rf
  have hP : va_P (dC, dI) vwCl [(h0, .inr (5, [.ref qT, .int 0, .ref qF, .int 0, .int 0, .int ((-1)), .int 0, .ref qN, .int 0, .ref qR, .int 0, .int 0, .ref qC]))] s.heap := hP
  have hl := lv_entry ([.ref h0, .int p0]) (n := 2) (Nat.le_of_ble_eq_true rfl)
  rw [lg_entry_eq]
  generalize (lg_sl ([.ref h0, .int p0]) ++ List.replicate (2 - (lg_sl ([.ref h0, .int p0])).length) Slot.unset).toArray = ls at hl ⊢
  have hl : lv_has ls 2 [(0, .ref h0), (1, .int p0)] := hl
  refine lv_iload_n hx hb dX5_isRacer_0 rfl (lv_at hl 1 rfl) ?_
  refine lv_if_lt (tgt := 16) hx hb dX5_isRacer_1 (by decide) (fun c_1 => ?_) (fun c_1 => ?_)
  · refine lv_iconst (v := 0) hx hb dX5_isRacer_16 (by decide) ?_
    have hP9 := hP.sub (ws' := [(h0, .inr (5, [.ref qT, .int 0, .ref qF, .int 0, .int 0, .int ((-1)), .int 0, .ref qN, .int 0, .ref qR, .int 0, .int 0, .ref qC]))]) [0] rfl
    have hD9 := hD.sub (ws' := [(h0, .inr (5, [.ref qT, .int 0, .ref qF, .int 0, .int 0, .int ((-1)), .int 0, .ref qN, .int 0, .ref qR, .int 0, .int 0, .ref qC]))]) [0] (by decide) rfl
    have hK9 := hK.sub (tys' := []) [] rfl
    exact W.zret (v := 0) (ty := .boolean) hx hb hr rfl (fun t ht hW => ⟨⟨0, (), rfl, rfl, by rw [ht]; exact hP9, va_K.moved hW.alike hK9, hD9⟩, hS.F ht⟩) hS.2.2 dX5_isRacer_17
  · refine lv_iload_n hx hb dX5_isRacer_4 rfl (lv_at hl 1 rfl) ?_
    refine lv_aload_n hx hb dX5_isRacer_5 rfl (lv_at hl 0 rfl) ?_
    refine va_get (D := (dC, dI)) (ci := 5) (v := .int 0) (C := RX5) (T := TX5) (N := 13) hx hb hts hin5 hown hK hP 0 rfl rfl 8 (by decide) (hts (.fieldLink RX5 77 "SkiShots" "racerCount" "I") (by decide +kernel)) (fun _ h9 => h9) rfl dX5_isRacer_6 ?_
    refine lv_icmp_ge (tgt := 16) hx hb dX5_isRacer_9 (by decide) (fun c_2 => ?_) (fun c_2 => absurd (h_nlt c_1) c_2)
    refine lv_iconst (v := 0) hx hb dX5_isRacer_16 (by decide) ?_
    have hP9 := hP.sub (ws' := [(h0, .inr (5, [.ref qT, .int 0, .ref qF, .int 0, .int 0, .int ((-1)), .int 0, .ref qN, .int 0, .ref qR, .int 0, .int 0, .ref qC]))]) [0] rfl
    have hD9 := hD.sub (ws' := [(h0, .inr (5, [.ref qT, .int 0, .ref qF, .int 0, .int 0, .int ((-1)), .int 0, .ref qN, .int 0, .ref qR, .int 0, .int 0, .ref qC]))]) [0] (by decide) rfl
    have hK9 := hK.sub (tys' := []) [] rfl
    exact W.zret (v := 0) (ty := .boolean) hx hb hr rfl (fun t ht hW => ⟨⟨0, (), rfl, rfl, by rw [ht]; exact hP9, va_K.moved hW.alike hK9, hD9⟩, hS.F ht⟩) hS.2.2 dX5_isRacer_17
def wX5_isDay : List Cond := .code yX5_isDay cX5_isDay 2 (some .boolean) :: ([.fieldLink RX5 70 "SkiShots" "today" "I"] ++ wsX50)
set_option maxHeartbeats 4000000 in
set_option maxRecDepth 100000 in
theorem c_X5_isDay (l : Launch) (dC : Nat → ClassId) (dI : Nat → Nat → Nat) (h0 : Nat) (qT : Nat) (qF : Nat) (qN : Nat) (qR : Nat) (qC : Nat) (p0 : Int32) (sz : Nat) : Met l yX5_isDay wX5_isDay ({ frames := 0, cells := 0, slots := 0, locals := 0 }) (va_Pc [.ref h0, .int p0] (fun U => U.heap.size = sz ∧ va_P (dC, dI) vwCl [(h0, .inr (5, [.ref qT, .int 0, .ref qF, .int 0, .int 0, .int ((-1)), .int 0, .ref qN, .int 0, .ref qR, .int 0, .int 0, .ref qC]))] U.heap ∧ va_K (dC, dI) vwCl [] U ∧ va_D (fun _ => True) [(h0, .inr (5, [.ref qT, .int 0, .ref qF, .int 0, .int 0, .int ((-1)), .int 0, .ref qN, .int 0, .ref qR, .int 0, .int 0, .ref qC]))])) (va_Qi (fun (r : Int32) (_ : Unit) => (p0.toInt = 0 ∧ r = 1) ∨ (¬ p0.toInt = 0 ∧ r = 0)) (fun _ t => va_P (dC, dI) vwCl [(h0, .inr (5, [.ref qT, .int 0, .ref qF, .int 0, .int 0, .int ((-1)), .int 0, .ref qN, .int 0, .ref qR, .int 0, .int 0, .ref qC]))] t.heap ∧ va_K (dC, dI) vwCl [] t ∧ va_D (va_A [(h0, .inr (5, [.ref qT, .int 0, .ref qF, .int 0, .int 0, .int ((-1)), .int 0, .ref qN, .int 0, .ref qR, .int 0, .int 0, .ref qC]))] sz) [(h0, .inr (5, [.ref qT, .int 0, .ref qF, .int 0, .int 0, .int ((-1)), .int 0, .ref qN, .int 0, .ref qR, .int 0, .int 0, .ref qC]))]) (va_A [(h0, .inr (5, [.ref qT, .int 0, .ref qF, .int 0, .int 0, .int ((-1)), .int 0, .ref qN, .int 0, .ref qR, .int 0, .int 0, .ref qC]))] sz)) 0 0 (va_A [(h0, .inr (5, [.ref qT, .int 0, .ref qF, .int 0, .int 0, .int ((-1)), .int 0, .ref qN, .int 0, .ref qR, .int 0, .int 0, .ref qC]))] sz) := by
  refine Met.ofW (cc := cX5_isDay) (maxL := 2) (ret := (some .boolean)) (by decide) rfl ?_
  intro p e s m args below meth c s₁ B hml hv
  obtain ⟨rfl, hsz, hP, hK, hD0⟩ := hv
  have hx := B.exec
  have hb := B.bytes
  have hr := B.returns
  have hts := atoms_spec (ws := wX5_isDay) B.pre
  have hown : s.vm.findClass RX5 = some m.cls := findClass_of_methodNamed B.named
  have hlocks := B.notSynchronized
  have hin5 : ∀ w ∈ wsX50, w ∈ wX5_isDay := by decide +kernel
  subst hsz
  have hD := hD0.self (sz := s.heap.size)
  generalize hAe : va_A [(h0, .inr (5, [.ref qT, .int 0, .ref qF, .int 0, .int 0, .int ((-1)), .int 0, .ref qN, .int 0, .ref qR, .int 0, .int 0, .ref qC]))] s.heap.size = A at hD ⊢
  have hA : ∀ q : Nat, s.heap.size ≤ q → A q := fun q h => by rw [← hAe]; exact Or.inr h
  have hS : va_S A s.heap s.heap [] := va_S.rf
  have hP : va_P (dC, dI) vwCl [(h0, .inr (5, [.ref qT, .int 0, .ref qF, .int 0, .int 0, .int ((-1)), .int 0, .ref qN, .int 0, .ref qR, .int 0, .int 0, .ref qC]))] s.heap := hP
  have hl := lv_entry ([.ref h0, .int p0]) (n := 2) (Nat.le_of_ble_eq_true rfl)
  rw [lg_entry_eq]
  generalize (lg_sl ([.ref h0, .int p0]) ++ List.replicate (2 - (lg_sl ([.ref h0, .int p0])).length) Slot.unset).toArray = ls at hl ⊢
  have hl : lv_has ls 2 [(0, .ref h0), (1, .int p0)] := hl
  refine lv_iload_n hx hb dX5_isDay_0 rfl (lv_at hl 1 rfl) ?_
  refine lv_if_lt (tgt := 16) hx hb dX5_isDay_1 (by decide) (fun c_1 => ?_) (fun c_1 => ?_)
  · refine lv_iconst (v := 0) hx hb dX5_isDay_16 (by decide) ?_
    have hP9 := hP.sub (ws' := [(h0, .inr (5, [.ref qT, .int 0, .ref qF, .int 0, .int 0, .int ((-1)), .int 0, .ref qN, .int 0, .ref qR, .int 0, .int 0, .ref qC]))]) [0] rfl
    have hD9 := hD.sub (ws' := [(h0, .inr (5, [.ref qT, .int 0, .ref qF, .int 0, .int 0, .int ((-1)), .int 0, .ref qN, .int 0, .ref qR, .int 0, .int 0, .ref qC]))]) [0] (by decide) rfl
    have hK9 := hK.sub (tys' := []) [] rfl
    exact W.zret (v := 0) (ty := .boolean) hx hb hr rfl (fun t ht hW => ⟨⟨0, (), rfl, by (try simp only [and_true, true_and, and_false, false_and, or_true, true_or, or_false, false_or, not_true_eq_false, not_false_eq_true, num_lt, num_le, num_eq, Int32.zero_add, Int32.sub_zero, Int32.add_zero, num_m2, num_m1, num_0, num_1, num_2, num_3, num_4, num_5, num_6, num_7, num_8, num_16, num_20, num_31, num_200, num_1000] at c_1 ⊢) <;> omega, by rw [ht]; exact hP9, va_K.moved hW.alike hK9, hD9⟩, hS.F ht⟩) hS.2.2 dX5_isDay_17
  · refine lv_iload_n hx hb dX5_isDay_4 rfl (lv_at hl 1 rfl) ?_
    refine lv_aload_n hx hb dX5_isDay_5 rfl (lv_at hl 0 rfl) ?_
    refine va_get (D := (dC, dI)) (ci := 5) (v := .int 0) (C := RX5) (T := TX5) (N := 13) hx hb hts hin5 hown hK hP 0 rfl rfl 6 (by decide) (hts (.fieldLink RX5 70 "SkiShots" "today" "I") (by decide +kernel)) (fun _ h9 => h9) rfl dX5_isDay_6 ?_
    refine lv_icmp_gt (tgt := 16) hx hb dX5_isDay_9 (by decide) (fun c_2 => ?_) (fun c_2 => ?_)
    · refine lv_iconst (v := 0) hx hb dX5_isDay_16 (by decide) ?_
      have hP9 := hP.sub (ws' := [(h0, .inr (5, [.ref qT, .int 0, .ref qF, .int 0, .int 0, .int ((-1)), .int 0, .ref qN, .int 0, .ref qR, .int 0, .int 0, .ref qC]))]) [0] rfl
      have hD9 := hD.sub (ws' := [(h0, .inr (5, [.ref qT, .int 0, .ref qF, .int 0, .int 0, .int ((-1)), .int 0, .ref qN, .int 0, .ref qR, .int 0, .int 0, .ref qC]))]) [0] (by decide) rfl
      have hK9 := hK.sub (tys' := []) [] rfl
      exact W.zret (v := 0) (ty := .boolean) hx hb hr rfl (fun t ht hW => ⟨⟨0, (), rfl, by (try simp only [and_true, true_and, and_false, false_and, or_true, true_or, or_false, false_or, not_true_eq_false, not_false_eq_true, num_lt, num_le, num_eq, Int32.zero_add, Int32.sub_zero, Int32.add_zero, num_m2, num_m1, num_0, num_1, num_2, num_3, num_4, num_5, num_6, num_7, num_8, num_16, num_20, num_31, num_200, num_1000] at c_1 c_2 ⊢) <;> omega, by rw [ht]; exact hP9, va_K.moved hW.alike hK9, hD9⟩, hS.F ht⟩) hS.2.2 dX5_isDay_17
    · refine lv_iconst (v := 1) hx hb dX5_isDay_12 (by decide) ?_
      refine lv_goto (tgt := 17) hx hb dX5_isDay_13 (by decide) ?_
      have hP9 := hP.sub (ws' := [(h0, .inr (5, [.ref qT, .int 0, .ref qF, .int 0, .int 0, .int ((-1)), .int 0, .ref qN, .int 0, .ref qR, .int 0, .int 0, .ref qC]))]) [0] rfl
      have hD9 := hD.sub (ws' := [(h0, .inr (5, [.ref qT, .int 0, .ref qF, .int 0, .int 0, .int ((-1)), .int 0, .ref qN, .int 0, .ref qR, .int 0, .int 0, .ref qC]))]) [0] (by decide) rfl
      have hK9 := hK.sub (tys' := []) [] rfl
      exact W.zret (v := 1) (ty := .boolean) hx hb hr rfl (fun t ht hW => ⟨⟨1, (), rfl, by (try simp only [and_true, true_and, and_false, false_and, or_true, true_or, or_false, false_or, not_true_eq_false, not_false_eq_true, num_lt, num_le, num_eq, Int32.zero_add, Int32.sub_zero, Int32.add_zero, num_m2, num_m1, num_0, num_1, num_2, num_3, num_4, num_5, num_6, num_7, num_8, num_16, num_20, num_31, num_200, num_1000] at c_1 c_2 ⊢) <;> omega, by rw [ht]; exact hP9, va_K.moved hW.alike hK9, hD9⟩, hS.F ht⟩) hS.2.2 dX5_isDay_17
def wX5_isNation : List Cond := .code yX5_isNation cX5_isNation 1 (some .boolean) :: ([])
set_option maxHeartbeats 4000000 in
set_option maxRecDepth 100000 in
theorem c_X5_isNation (l : Launch) (dC : Nat → ClassId) (dI : Nat → Nat → Nat) (p0 : Int32) (sz : Nat) : Met l yX5_isNation wX5_isNation ({ frames := 0, cells := 0, slots := 0, locals := 0 }) (va_Pc [.int p0] (fun U => U.heap.size = sz ∧ va_P (dC, dI) vwCl [] U.heap ∧ va_K (dC, dI) vwCl [] U ∧ va_D (fun _ => True) [])) (va_Qi (fun (r : Int32) (_ : Unit) => ((0 ≤ p0.toInt ∧ p0.toInt < 8) ∧ r = 1) ∨ (¬ (0 ≤ p0.toInt ∧ p0.toInt < 8) ∧ r = 0)) (fun _ t => va_P (dC, dI) vwCl [] t.heap ∧ va_K (dC, dI) vwCl [] t ∧ va_D (va_A [] sz) []) (va_A [] sz)) 0 0 (va_A [] sz) := by
  refine Met.ofW (cc := cX5_isNation) (maxL := 1) (ret := (some .boolean)) (by decide) rfl ?_
  intro p e s m args below meth c s₁ B hml hv
  obtain ⟨rfl, hsz, hP, hK, hD0⟩ := hv
  have hx := B.exec
  have hb := B.bytes
  have hr := B.returns
  have hts := atoms_spec (ws := wX5_isNation) B.pre
  have hown : s.vm.findClass RX5 = some m.cls := findClass_of_methodNamed B.named
  have hlocks := B.notSynchronized
  subst hsz
  have hD := hD0.self (sz := s.heap.size)
  generalize hAe : va_A [] s.heap.size = A at hD ⊢
  have hA : ∀ q : Nat, s.heap.size ≤ q → A q := fun q h => by rw [← hAe]; exact Or.inr h
  have hS : va_S A s.heap s.heap [] := va_S.rf
  have hP : va_P (dC, dI) vwCl [] s.heap := hP
  have hl := lv_entry ([.int p0]) (n := 1) (Nat.le_of_ble_eq_true rfl)
  rw [lg_entry_eq]
  generalize (lg_sl ([.int p0]) ++ List.replicate (1 - (lg_sl ([.int p0])).length) Slot.unset).toArray = ls at hl ⊢
  have hl : lv_has ls 1 [(0, .int p0)] := hl
  refine lv_iload_n hx hb dX5_isNation_0 rfl (lv_at hl 0 rfl) ?_
  refine lv_if_lt (tgt := 14) hx hb dX5_isNation_1 (by decide) (fun c_1 => ?_) (fun c_1 => ?_)
  · refine lv_iconst (v := 0) hx hb dX5_isNation_14 (by decide) ?_
    have hP9 := hP.sub (ws' := []) [] rfl
    have hD9 := hD.sub (ws' := []) [] (by decide) rfl
    have hK9 := hK.sub (tys' := []) [] rfl
    exact W.zret (v := 0) (ty := .boolean) hx hb hr rfl (fun t ht hW => ⟨⟨0, (), rfl, by (try simp only [and_true, true_and, and_false, false_and, or_true, true_or, or_false, false_or, not_true_eq_false, not_false_eq_true, num_lt, num_le, num_eq, Int32.zero_add, Int32.sub_zero, Int32.add_zero, num_m2, num_m1, num_0, num_1, num_2, num_3, num_4, num_5, num_6, num_7, num_8, num_16, num_20, num_31, num_200, num_1000] at c_1 ⊢) <;> omega, by rw [ht]; exact hP9, va_K.moved hW.alike hK9, hD9⟩, hS.F ht⟩) hS.2.2 dX5_isNation_15
  · refine lv_iload_n hx hb dX5_isNation_4 rfl (lv_at hl 0 rfl) ?_
    refine lv_bipush (v := 8) hx hb dX5_isNation_5 (by decide) ?_
    refine lv_icmp_ge (tgt := 14) hx hb dX5_isNation_7 (by decide) (fun c_2 => ?_) (fun c_2 => ?_)
    · refine lv_iconst (v := 0) hx hb dX5_isNation_14 (by decide) ?_
      have hP9 := hP.sub (ws' := []) [] rfl
      have hD9 := hD.sub (ws' := []) [] (by decide) rfl
      have hK9 := hK.sub (tys' := []) [] rfl
      exact W.zret (v := 0) (ty := .boolean) hx hb hr rfl (fun t ht hW => ⟨⟨0, (), rfl, by (try simp only [and_true, true_and, and_false, false_and, or_true, true_or, or_false, false_or, not_true_eq_false, not_false_eq_true, num_lt, num_le, num_eq, Int32.zero_add, Int32.sub_zero, Int32.add_zero, num_m2, num_m1, num_0, num_1, num_2, num_3, num_4, num_5, num_6, num_7, num_8, num_16, num_20, num_31, num_200, num_1000] at c_1 c_2 ⊢) <;> omega, by rw [ht]; exact hP9, va_K.moved hW.alike hK9, hD9⟩, hS.F ht⟩) hS.2.2 dX5_isNation_15
    · refine lv_iconst (v := 1) hx hb dX5_isNation_10 (by decide) ?_
      refine lv_goto (tgt := 15) hx hb dX5_isNation_11 (by decide) ?_
      have hP9 := hP.sub (ws' := []) [] rfl
      have hD9 := hD.sub (ws' := []) [] (by decide) rfl
      have hK9 := hK.sub (tys' := []) [] rfl
      exact W.zret (v := 1) (ty := .boolean) hx hb hr rfl (fun t ht hW => ⟨⟨1, (), rfl, by (try simp only [and_true, true_and, and_false, false_and, or_true, true_or, or_false, false_or, not_true_eq_false, not_false_eq_true, num_lt, num_le, num_eq, Int32.zero_add, Int32.sub_zero, Int32.add_zero, num_m2, num_m1, num_0, num_1, num_2, num_3, num_4, num_5, num_6, num_7, num_8, num_16, num_20, num_31, num_200, num_1000] at c_1 c_2 ⊢) <;> omega, by rw [ht]; exact hP9, va_K.moved hW.alike hK9, hD9⟩, hS.F ht⟩) hS.2.2 dX5_isNation_15
def wX5_pass : List Cond := .code yX5_pass cX5_pass 2 (some .int) :: ([.fieldLink RX5 70 "SkiShots" "today" "I"] ++ wsX50)
set_option maxHeartbeats 4000000 in
set_option maxRecDepth 100000 in
theorem c_X5_pass (l : Launch) (dC : Nat → ClassId) (dI : Nat → Nat → Nat) (h0 : Nat) (qT : Nat) (qF : Nat) (qN : Nat) (qR : Nat) (qC : Nat) (p0 : Int32) (sz : Nat) : Met l yX5_pass wX5_pass ({ frames := 0, cells := 0, slots := 0, locals := 0 }) (va_Pc [.ref h0, .int p0] (fun U => U.heap.size = sz ∧ va_P (dC, dI) vwCl [(h0, .inr (5, [.ref qT, .int 0, .ref qF, .int 0, .int 0, .int ((-1)), .int 0, .ref qN, .int 0, .ref qR, .int 0, .int 0, .ref qC]))] U.heap ∧ va_K (dC, dI) vwCl [] U ∧ va_D (fun _ => True) [(h0, .inr (5, [.ref qT, .int 0, .ref qF, .int 0, .int 0, .int ((-1)), .int 0, .ref qN, .int 0, .ref qR, .int 0, .int 0, .ref qC]))])) (va_Qi (fun (r : Int32) (_ : Unit) => ((0 ≤ p0.toInt ∧ p0.toInt ≤ 200) ∧ r = p0) ∨ (¬ (0 ≤ p0.toInt ∧ p0.toInt ≤ 200) ∧ r = -1)) (fun _ t => True) (va_A [(h0, .inr (5, [.ref qT, .int 0, .ref qF, .int 0, .int 0, .int ((-1)), .int 0, .ref qN, .int 0, .ref qR, .int 0, .int 0, .ref qC]))] sz)) 0 0 (va_A [(h0, .inr (5, [.ref qT, .int 0, .ref qF, .int 0, .int 0, .int ((-1)), .int 0, .ref qN, .int 0, .ref qR, .int 0, .int 0, .ref qC]))] sz) := by
  refine Met.ofW (cc := cX5_pass) (maxL := 2) (ret := (some .int)) (by decide) rfl ?_
  intro p e s m args below meth c s₁ B hml hv
  obtain ⟨rfl, hsz, hP, hK, hD0⟩ := hv
  have hx := B.exec
  have hb := B.bytes
  have hr := B.returns
  have hts := atoms_spec (ws := wX5_pass) B.pre
  have hown : s.vm.findClass RX5 = some m.cls := findClass_of_methodNamed B.named
  have hlocks := B.notSynchronized
  have hin5 : ∀ w ∈ wsX50, w ∈ wX5_pass := by decide +kernel
  subst hsz
  have hD := hD0.self (sz := s.heap.size)
  generalize hAe : va_A [(h0, .inr (5, [.ref qT, .int 0, .ref qF, .int 0, .int 0, .int ((-1)), .int 0, .ref qN, .int 0, .ref qR, .int 0, .int 0, .ref qC]))] s.heap.size = A at hD ⊢
  have hA : ∀ q : Nat, s.heap.size ≤ q → A q := fun q h => by rw [← hAe]; exact Or.inr h
  have hS : va_S A s.heap s.heap [] := va_S.rf
  have hP : va_P (dC, dI) vwCl [(h0, .inr (5, [.ref qT, .int 0, .ref qF, .int 0, .int 0, .int ((-1)), .int 0, .ref qN, .int 0, .ref qR, .int 0, .int 0, .ref qC]))] s.heap := hP
  have hl := lv_entry ([.ref h0, .int p0]) (n := 2) (Nat.le_of_ble_eq_true rfl)
  rw [lg_entry_eq]
  generalize (lg_sl ([.ref h0, .int p0]) ++ List.replicate (2 - (lg_sl ([.ref h0, .int p0])).length) Slot.unset).toArray = ls at hl ⊢
  have hl : lv_has ls 2 [(0, .ref h0), (1, .int p0)] := hl
  refine lv_iload_n hx hb dX5_pass_0 rfl (lv_at hl 1 rfl) ?_
  refine lv_if_lt (tgt := 16) hx hb dX5_pass_1 (by decide) (fun c_1 => ?_) (fun c_1 => ?_)
  · refine lv_iconst (v := (-1)) hx hb dX5_pass_16 (by decide) ?_
    exact W.iret (v := (-1)) hx hb hr (fun t ht hW => ⟨⟨(-1), (), rfl, by (try simp only [and_true, true_and, and_false, false_and, or_true, true_or, or_false, false_or, not_true_eq_false, not_false_eq_true, num_lt, num_le, num_eq, Int32.zero_add, Int32.sub_zero, Int32.add_zero, num_m2, num_m1, num_0, num_1, num_2, num_3, num_4, num_5, num_6, num_7, num_8, num_16, num_20, num_31, num_200, num_1000] at c_1 ⊢) <;> omega, trivial⟩, hS.F ht⟩) hS.2.2 dX5_pass_17
  · refine lv_iload_n hx hb dX5_pass_4 rfl (lv_at hl 1 rfl) ?_
    refine lv_sipush (v := 200) hx hb dX5_pass_5 (by decide) ?_
    refine lv_aload_n hx hb dX5_pass_8 rfl (lv_at hl 0 rfl) ?_
    refine va_get (D := (dC, dI)) (ci := 5) (v := .int 0) (C := RX5) (T := TX5) (N := 13) hx hb hts hin5 hown hK hP 0 rfl rfl 6 (by decide) (hts (.fieldLink RX5 70 "SkiShots" "today" "I") (by decide +kernel)) (fun _ h9 => h9) rfl dX5_pass_9 ?_
    refine lv_isub hx hb dX5_pass_12 ?_
    rw [show (200 - 0 : Int32) = 200 from by decide]
    refine lv_icmp_le (tgt := 18) hx hb dX5_pass_13 (by decide) (fun c_2 => ?_) (fun c_2 => ?_)
    · refine lv_aload_n hx hb dX5_pass_18 rfl (lv_at hl 0 rfl) ?_
      refine lv_dup hx hb dX5_pass_19 rfl ?_
      refine va_get (D := (dC, dI)) (ci := 5) (v := .int 0) (C := RX5) (T := TX5) (N := 13) hx hb hts hin5 hown hK hP 0 rfl rfl 6 (by decide) (hts (.fieldLink RX5 70 "SkiShots" "today" "I") (by decide +kernel)) (fun _ h9 => h9) rfl dX5_pass_20 ?_
      refine lv_iload_n hx hb dX5_pass_23 rfl (lv_at hl 1 rfl) ?_
      refine lv_iadd hx hb dX5_pass_24 ?_
      refine va_put (D := (dC, dI)) (ci := 5) (v := .int (0 + p0)) (ty := .int) (C := RX5) (T := TX5) (N := 13) hx hb hts hin5 tyX5 tyX5_ok nmX5 hown hK hP hD hS 0 rfl rfl 6 (by decide) (hts (.fieldLink RX5 70 "SkiShots" "today" "I") (by decide +kernel)) (fun _ h9 => h9) rfl (by decide +kernel) rfl rfl (Nat.le_of_ble_eq_true rfl) dX5_pass_25 (fun H locs hP hD hS => ?_)
      have hP : va_P (dC, dI) vwCl [(h0, .inr (5, [.ref qT, .int 0, .ref qF, .int 0, .int 0, .int ((-1)), .int (0 + p0), .ref qN, .int 0, .ref qR, .int 0, .int 0, .ref qC]))] H := hP
      have hD : va_D A [(h0, .inr (5, [.ref qT, .int 0, .ref qF, .int 0, .int 0, .int ((-1)), .int (0 + p0), .ref qN, .int 0, .ref qR, .int 0, .int 0, .ref qC]))] := hD
      refine lv_aload_n hx hb dX5_pass_28 rfl (lv_at hl 0 rfl) ?_
      refine va_get (D := (dC, dI)) (ci := 5) (v := .int (0 + p0)) (C := RX5) (T := TX5) (N := 13) hx hb hts hin5 hown hK hP 0 rfl rfl 6 (by decide) (hts (.fieldLink RX5 70 "SkiShots" "today" "I") (by decide +kernel)) (fun _ h9 => h9) rfl dX5_pass_29 ?_
      exact W.iret (v := 0 + p0) hx hb hr (fun t ht hW => ⟨⟨0 + p0, (), rfl, by (try simp only [and_true, true_and, and_false, false_and, or_true, true_or, or_false, false_or, not_true_eq_false, not_false_eq_true, num_lt, num_le, num_eq, Int32.zero_add, Int32.sub_zero, Int32.add_zero, num_m2, num_m1, num_0, num_1, num_2, num_3, num_4, num_5, num_6, num_7, num_8, num_16, num_20, num_31, num_200, num_1000] at c_1 c_2 ⊢) <;> omega, trivial⟩, hS.F ht⟩) hS.2.2 dX5_pass_32
    · refine lv_iconst (v := (-1)) hx hb dX5_pass_16 (by decide) ?_
      exact W.iret (v := (-1)) hx hb hr (fun t ht hW => ⟨⟨(-1), (), rfl, by (try simp only [and_true, true_and, and_false, false_and, or_true, true_or, or_false, false_or, not_true_eq_false, not_false_eq_true, num_lt, num_le, num_eq, Int32.zero_add, Int32.sub_zero, Int32.add_zero, num_m2, num_m1, num_0, num_1, num_2, num_3, num_4, num_5, num_6, num_7, num_8, num_16, num_20, num_31, num_200, num_1000] at c_1 c_2 ⊢) <;> omega, trivial⟩, hS.F ht⟩) hS.2.2 dX5_pass_17
def wX5_fault : List Cond := .code yX5_fault cX5_fault 2 (some .int) :: ([.fieldLink RX5 55 "SkiShots" "latestFault" "I", .fieldLink RX5 19 "SkiShots" "latestFaultPlace" "I"] ++ wsX50)
set_option maxHeartbeats 4000000 in
set_option maxRecDepth 100000 in
theorem c_X5_fault (l : Launch) (dC : Nat → ClassId) (dI : Nat → Nat → Nat) (h0 : Nat) (qT : Nat) (qF : Nat) (qN : Nat) (qR : Nat) (qC : Nat) (p0 : Int32) (sz : Nat) : Met l yX5_fault wX5_fault ({ frames := 0, cells := 0, slots := 0, locals := 0 }) (va_Pc [.ref h0, .int p0] (fun U => U.heap.size = sz ∧ va_P (dC, dI) vwCl [(h0, .inr (5, [.ref qT, .int 0, .ref qF, .int 0, .int 0, .int ((-1)), .int 0, .ref qN, .int 0, .ref qR, .int 0, .int 0, .ref qC]))] U.heap ∧ va_K (dC, dI) vwCl [] U ∧ va_D (fun _ => True) [(h0, .inr (5, [.ref qT, .int 0, .ref qF, .int 0, .int 0, .int ((-1)), .int 0, .ref qN, .int 0, .ref qR, .int 0, .int 0, .ref qC]))])) (va_Qi (fun (r : Int32) (_ : Unit) => (p0.toInt = 0 ∧ r = 0) ∨ (¬ p0.toInt = 0 ∧ r = -1)) (fun _ t => True) (va_A [(h0, .inr (5, [.ref qT, .int 0, .ref qF, .int 0, .int 0, .int ((-1)), .int 0, .ref qN, .int 0, .ref qR, .int 0, .int 0, .ref qC]))] sz)) 0 0 (va_A [(h0, .inr (5, [.ref qT, .int 0, .ref qF, .int 0, .int 0, .int ((-1)), .int 0, .ref qN, .int 0, .ref qR, .int 0, .int 0, .ref qC]))] sz) := by
  refine Met.ofW (cc := cX5_fault) (maxL := 2) (ret := (some .int)) (by decide) rfl ?_
  intro p e s m args below meth c s₁ B hml hv
  obtain ⟨rfl, hsz, hP, hK, hD0⟩ := hv
  have hx := B.exec
  have hb := B.bytes
  have hr := B.returns
  have hts := atoms_spec (ws := wX5_fault) B.pre
  have hown : s.vm.findClass RX5 = some m.cls := findClass_of_methodNamed B.named
  have hlocks := B.notSynchronized
  have hin5 : ∀ w ∈ wsX50, w ∈ wX5_fault := by decide +kernel
  subst hsz
  have hD := hD0.self (sz := s.heap.size)
  generalize hAe : va_A [(h0, .inr (5, [.ref qT, .int 0, .ref qF, .int 0, .int 0, .int ((-1)), .int 0, .ref qN, .int 0, .ref qR, .int 0, .int 0, .ref qC]))] s.heap.size = A at hD ⊢
  have hA : ∀ q : Nat, s.heap.size ≤ q → A q := fun q h => by rw [← hAe]; exact Or.inr h
  have hS : va_S A s.heap s.heap [] := va_S.rf
  have hP : va_P (dC, dI) vwCl [(h0, .inr (5, [.ref qT, .int 0, .ref qF, .int 0, .int 0, .int ((-1)), .int 0, .ref qN, .int 0, .ref qR, .int 0, .int 0, .ref qC]))] s.heap := hP
  have hl := lv_entry ([.ref h0, .int p0]) (n := 2) (Nat.le_of_ble_eq_true rfl)
  rw [lg_entry_eq]
  generalize (lg_sl ([.ref h0, .int p0]) ++ List.replicate (2 - (lg_sl ([.ref h0, .int p0])).length) Slot.unset).toArray = ls at hl ⊢
  have hl : lv_has ls 2 [(0, .ref h0), (1, .int p0)] := hl
  refine lv_iload_n hx hb dX5_fault_0 rfl (lv_at hl 1 rfl) ?_
  by_cases s_1 : p0 = 0
  · subst s_1
    refine lv_lookup (tgt := 28) hx hb dX5_fault_1 (by decide) (off := 27) (by decide) (by decide) ?_
    refine lv_aload_n hx hb dX5_fault_28 rfl (lv_at hl 0 rfl) ?_
    refine va_get (D := (dC, dI)) (ci := 5) (v := .int 0) (C := RX5) (T := TX5) (N := 13) hx hb hts hin5 hown hK hP 0 rfl rfl 4 (by decide) (hts (.fieldLink RX5 55 "SkiShots" "latestFault" "I") (by decide +kernel)) (fun _ h9 => h9) rfl dX5_fault_29 ?_
    exact W.iret (v := 0) hx hb hr (fun t ht hW => ⟨⟨0, (), rfl, by (try simp only [and_true, true_and, and_false, false_and, or_true, true_or, or_false, false_or, not_true_eq_false, not_false_eq_true, num_lt, num_le, num_eq, Int32.zero_add, Int32.sub_zero, Int32.add_zero, num_m2, num_m1, num_0, num_1, num_2, num_3, num_4, num_5, num_6, num_7, num_8, num_16, num_20, num_31, num_200, num_1000] at  ⊢) <;> omega, trivial⟩, hS.F ht⟩) hS.2.2 dX5_fault_32
  by_cases s_2 : p0 = 1
  · subst s_2
    refine lv_lookup (tgt := 33) hx hb dX5_fault_1 (by decide) (off := 32) (by decide) (by decide) ?_
    refine lv_aload_n hx hb dX5_fault_33 rfl (lv_at hl 0 rfl) ?_
    refine va_get (D := (dC, dI)) (ci := 5) (v := .int ((-1))) (C := RX5) (T := TX5) (N := 13) hx hb hts hin5 hown hK hP 0 rfl rfl 5 (by decide) (hts (.fieldLink RX5 19 "SkiShots" "latestFaultPlace" "I") (by decide +kernel)) (fun _ h9 => h9) rfl dX5_fault_34 ?_
    exact W.iret (v := (-1)) hx hb hr (fun t ht hW => ⟨⟨(-1), (), rfl, by (try simp only [and_true, true_and, and_false, false_and, or_true, true_or, or_false, false_or, not_true_eq_false, not_false_eq_true, num_lt, num_le, num_eq, Int32.zero_add, Int32.sub_zero, Int32.add_zero, num_m2, num_m1, num_0, num_1, num_2, num_3, num_4, num_5, num_6, num_7, num_8, num_16, num_20, num_31, num_200, num_1000] at s_1 ⊢) <;> omega, trivial⟩, hS.F ht⟩) hS.2.2 dX5_fault_37
  · refine lv_lookup (tgt := 38) hx hb dX5_fault_1 (by decide) (off := 37) (by simp only [and_true, true_and, and_false, false_and, or_true, true_or, or_false, false_or, not_true_eq_false, not_false_eq_true, num_lt, num_le, num_eq, Int32.zero_add, Int32.sub_zero, Int32.add_zero, num_m2, num_m1, num_0, num_1, num_2, num_3, num_4, num_5, num_6, num_7, num_8, num_16, num_20, num_31, num_200, num_1000] at s_1 s_2; simp only [Op.lookupswitch.offset]; (repeat rw [if_neg (by omega)])) (by decide) ?_
    refine lv_iconst (v := (-1)) hx hb dX5_fault_38 (by decide) ?_
    exact W.iret (v := (-1)) hx hb hr (fun t ht hW => ⟨⟨(-1), (), rfl, by (try simp only [and_true, true_and, and_false, false_and, or_true, true_or, or_false, false_or, not_true_eq_false, not_false_eq_true, num_lt, num_le, num_eq, Int32.zero_add, Int32.sub_zero, Int32.add_zero, num_m2, num_m1, num_0, num_1, num_2, num_3, num_4, num_5, num_6, num_7, num_8, num_16, num_20, num_31, num_200, num_1000] at s_1 s_2 ⊢) <;> omega, trivial⟩, hS.F ht⟩) hS.2.2 dX5_fault_39
def wX5_count : List Cond := .code yX5_count cX5_count 2 (some .int) :: ([.fieldLink RX5 70 "SkiShots" "today" "I", .fieldLink RX5 67 "SkiShots" "formatCount" "I", .fieldLink RX5 77 "SkiShots" "racerCount" "I", .fieldLink RX5 80 "SkiShots" "raceCount" "I", .fieldLink RX5 109 "SkiShots" "eventCount" "I"] ++ wsX50)
set_option maxHeartbeats 4000000 in
set_option maxRecDepth 100000 in
theorem c_X5_count (l : Launch) (dC : Nat → ClassId) (dI : Nat → Nat → Nat) (h0 : Nat) (qT : Nat) (qF : Nat) (qN : Nat) (qR : Nat) (qC : Nat) (p0 : Int32) (sz : Nat) : Met l yX5_count wX5_count ({ frames := 0, cells := 0, slots := 0, locals := 0 }) (va_Pc [.ref h0, .int p0] (fun U => U.heap.size = sz ∧ va_P (dC, dI) vwCl [(h0, .inr (5, [.ref qT, .int 0, .ref qF, .int 0, .int 0, .int ((-1)), .int 0, .ref qN, .int 0, .ref qR, .int 0, .int 0, .ref qC]))] U.heap ∧ va_K (dC, dI) vwCl [] U ∧ va_D (fun _ => True) [(h0, .inr (5, [.ref qT, .int 0, .ref qF, .int 0, .int 0, .int ((-1)), .int 0, .ref qN, .int 0, .ref qR, .int 0, .int 0, .ref qC]))])) (va_Qi (fun (r : Int32) (_ : Unit) => ((0 ≤ p0.toInt ∧ p0.toInt ≤ 4) ∧ r = 0) ∨ (¬ (0 ≤ p0.toInt ∧ p0.toInt ≤ 4) ∧ r = -1)) (fun _ t => True) (va_A [(h0, .inr (5, [.ref qT, .int 0, .ref qF, .int 0, .int 0, .int ((-1)), .int 0, .ref qN, .int 0, .ref qR, .int 0, .int 0, .ref qC]))] sz)) 0 0 (va_A [(h0, .inr (5, [.ref qT, .int 0, .ref qF, .int 0, .int 0, .int ((-1)), .int 0, .ref qN, .int 0, .ref qR, .int 0, .int 0, .ref qC]))] sz) := by
  refine Met.ofW (cc := cX5_count) (maxL := 2) (ret := (some .int)) (by decide) rfl ?_
  intro p e s m args below meth c s₁ B hml hv
  obtain ⟨rfl, hsz, hP, hK, hD0⟩ := hv
  have hx := B.exec
  have hb := B.bytes
  have hr := B.returns
  have hts := atoms_spec (ws := wX5_count) B.pre
  have hown : s.vm.findClass RX5 = some m.cls := findClass_of_methodNamed B.named
  have hlocks := B.notSynchronized
  have hin5 : ∀ w ∈ wsX50, w ∈ wX5_count := by decide +kernel
  subst hsz
  have hD := hD0.self (sz := s.heap.size)
  generalize hAe : va_A [(h0, .inr (5, [.ref qT, .int 0, .ref qF, .int 0, .int 0, .int ((-1)), .int 0, .ref qN, .int 0, .ref qR, .int 0, .int 0, .ref qC]))] s.heap.size = A at hD ⊢
  have hA : ∀ q : Nat, s.heap.size ≤ q → A q := fun q h => by rw [← hAe]; exact Or.inr h
  have hS : va_S A s.heap s.heap [] := va_S.rf
  have hP : va_P (dC, dI) vwCl [(h0, .inr (5, [.ref qT, .int 0, .ref qF, .int 0, .int 0, .int ((-1)), .int 0, .ref qN, .int 0, .ref qR, .int 0, .int 0, .ref qC]))] s.heap := hP
  have hl := lv_entry ([.ref h0, .int p0]) (n := 2) (Nat.le_of_ble_eq_true rfl)
  rw [lg_entry_eq]
  generalize (lg_sl ([.ref h0, .int p0]) ++ List.replicate (2 - (lg_sl ([.ref h0, .int p0])).length) Slot.unset).toArray = ls at hl ⊢
  have hl : lv_has ls 2 [(0, .ref h0), (1, .int p0)] := hl
  refine lv_iload_n hx hb dX5_count_0 rfl (lv_at hl 1 rfl) ?_
  by_cases s_1 : p0 = 0
  · subst s_1
    refine lv_tableIn (tgt := 36) (off := 35) hx hb dX5_count_1 (by decide) (by decide) (by decide) (by decide) ?_
    refine lv_aload_n hx hb dX5_count_36 rfl (lv_at hl 0 rfl) ?_
    refine va_get (D := (dC, dI)) (ci := 5) (v := .int 0) (C := RX5) (T := TX5) (N := 13) hx hb hts hin5 hown hK hP 0 rfl rfl 6 (by decide) (hts (.fieldLink RX5 70 "SkiShots" "today" "I") (by decide +kernel)) (fun _ h9 => h9) rfl dX5_count_37 ?_
    exact W.iret (v := 0) hx hb hr (fun t ht hW => ⟨⟨0, (), rfl, by (try simp only [and_true, true_and, and_false, false_and, or_true, true_or, or_false, false_or, not_true_eq_false, not_false_eq_true, num_lt, num_le, num_eq, Int32.zero_add, Int32.sub_zero, Int32.add_zero, num_m2, num_m1, num_0, num_1, num_2, num_3, num_4, num_5, num_6, num_7, num_8, num_16, num_20, num_31, num_200, num_1000] at  ⊢) <;> omega, trivial⟩, hS.F ht⟩) hS.2.2 dX5_count_40
  by_cases s_2 : p0 = 1
  · subst s_2
    refine lv_tableIn (tgt := 41) (off := 40) hx hb dX5_count_1 (by decide) (by decide) (by decide) (by decide) ?_
    refine lv_aload_n hx hb dX5_count_41 rfl (lv_at hl 0 rfl) ?_
    refine va_get (D := (dC, dI)) (ci := 5) (v := .int 0) (C := RX5) (T := TX5) (N := 13) hx hb hts hin5 hown hK hP 0 rfl rfl 3 (by decide) (hts (.fieldLink RX5 67 "SkiShots" "formatCount" "I") (by decide +kernel)) (fun _ h9 => h9) rfl dX5_count_42 ?_
    exact W.iret (v := 0) hx hb hr (fun t ht hW => ⟨⟨0, (), rfl, by (try simp only [and_true, true_and, and_false, false_and, or_true, true_or, or_false, false_or, not_true_eq_false, not_false_eq_true, num_lt, num_le, num_eq, Int32.zero_add, Int32.sub_zero, Int32.add_zero, num_m2, num_m1, num_0, num_1, num_2, num_3, num_4, num_5, num_6, num_7, num_8, num_16, num_20, num_31, num_200, num_1000] at s_1 ⊢) <;> omega, trivial⟩, hS.F ht⟩) hS.2.2 dX5_count_45
  by_cases s_3 : p0 = 2
  · subst s_3
    refine lv_tableIn (tgt := 46) (off := 45) hx hb dX5_count_1 (by decide) (by decide) (by decide) (by decide) ?_
    refine lv_aload_n hx hb dX5_count_46 rfl (lv_at hl 0 rfl) ?_
    refine va_get (D := (dC, dI)) (ci := 5) (v := .int 0) (C := RX5) (T := TX5) (N := 13) hx hb hts hin5 hown hK hP 0 rfl rfl 8 (by decide) (hts (.fieldLink RX5 77 "SkiShots" "racerCount" "I") (by decide +kernel)) (fun _ h9 => h9) rfl dX5_count_47 ?_
    exact W.iret (v := 0) hx hb hr (fun t ht hW => ⟨⟨0, (), rfl, by (try simp only [and_true, true_and, and_false, false_and, or_true, true_or, or_false, false_or, not_true_eq_false, not_false_eq_true, num_lt, num_le, num_eq, Int32.zero_add, Int32.sub_zero, Int32.add_zero, num_m2, num_m1, num_0, num_1, num_2, num_3, num_4, num_5, num_6, num_7, num_8, num_16, num_20, num_31, num_200, num_1000] at s_1 s_2 ⊢) <;> omega, trivial⟩, hS.F ht⟩) hS.2.2 dX5_count_50
  by_cases s_4 : p0 = 3
  · subst s_4
    refine lv_tableIn (tgt := 51) (off := 50) hx hb dX5_count_1 (by decide) (by decide) (by decide) (by decide) ?_
    refine lv_aload_n hx hb dX5_count_51 rfl (lv_at hl 0 rfl) ?_
    refine va_get (D := (dC, dI)) (ci := 5) (v := .int 0) (C := RX5) (T := TX5) (N := 13) hx hb hts hin5 hown hK hP 0 rfl rfl 10 (by decide) (hts (.fieldLink RX5 80 "SkiShots" "raceCount" "I") (by decide +kernel)) (fun _ h9 => h9) rfl dX5_count_52 ?_
    exact W.iret (v := 0) hx hb hr (fun t ht hW => ⟨⟨0, (), rfl, by (try simp only [and_true, true_and, and_false, false_and, or_true, true_or, or_false, false_or, not_true_eq_false, not_false_eq_true, num_lt, num_le, num_eq, Int32.zero_add, Int32.sub_zero, Int32.add_zero, num_m2, num_m1, num_0, num_1, num_2, num_3, num_4, num_5, num_6, num_7, num_8, num_16, num_20, num_31, num_200, num_1000] at s_1 s_2 s_3 ⊢) <;> omega, trivial⟩, hS.F ht⟩) hS.2.2 dX5_count_55
  by_cases s_5 : p0 = 4
  · subst s_5
    refine lv_tableIn (tgt := 56) (off := 55) hx hb dX5_count_1 (by decide) (by decide) (by decide) (by decide) ?_
    refine lv_aload_n hx hb dX5_count_56 rfl (lv_at hl 0 rfl) ?_
    refine va_get (D := (dC, dI)) (ci := 5) (v := .int 0) (C := RX5) (T := TX5) (N := 13) hx hb hts hin5 hown hK hP 0 rfl rfl 11 (by decide) (hts (.fieldLink RX5 109 "SkiShots" "eventCount" "I") (by decide +kernel)) (fun _ h9 => h9) rfl dX5_count_57 ?_
    exact W.iret (v := 0) hx hb hr (fun t ht hW => ⟨⟨0, (), rfl, by (try simp only [and_true, true_and, and_false, false_and, or_true, true_or, or_false, false_or, not_true_eq_false, not_false_eq_true, num_lt, num_le, num_eq, Int32.zero_add, Int32.sub_zero, Int32.add_zero, num_m2, num_m1, num_0, num_1, num_2, num_3, num_4, num_5, num_6, num_7, num_8, num_16, num_20, num_31, num_200, num_1000] at s_1 s_2 s_3 s_4 ⊢) <;> omega, trivial⟩, hS.F ht⟩) hS.2.2 dX5_count_60
  · refine lv_tableOut (tgt := 61) hx hb dX5_count_1 (by simp only [and_true, true_and, and_false, false_and, or_true, true_or, or_false, false_or, not_true_eq_false, not_false_eq_true, num_lt, num_le, num_eq, Int32.zero_add, Int32.sub_zero, Int32.add_zero, num_m2, num_m1, num_0, num_1, num_2, num_3, num_4, num_5, num_6, num_7, num_8, num_16, num_20, num_31, num_200, num_1000] at s_1 s_2 s_3 s_4 s_5; omega) (by decide) ?_
    refine lv_iconst (v := (-1)) hx hb dX5_count_61 (by decide) ?_
    exact W.iret (v := (-1)) hx hb hr (fun t ht hW => ⟨⟨(-1), (), rfl, by (try simp only [and_true, true_and, and_false, false_and, or_true, true_or, or_false, false_or, not_true_eq_false, not_false_eq_true, num_lt, num_le, num_eq, Int32.zero_add, Int32.sub_zero, Int32.add_zero, num_m2, num_m1, num_0, num_1, num_2, num_3, num_4, num_5, num_6, num_7, num_8, num_16, num_20, num_31, num_200, num_1000] at s_1 s_2 s_3 s_4 s_5 ⊢) <;> omega, trivial⟩, hS.F ht⟩) hS.2.2 dX5_count_62
def wX5_racer : List Cond := .code yX5_racer cX5_racer 2 (some .int) :: ([.fieldLink RX5 77 "SkiShots" "racerCount" "I", .fieldLink RX5 23 "SkiShots" "nations" "[I", .methodLink RX5 73 yX5_isNation, .static yX5_isNation, .initialized RX5, .code yX5_isNation cX5_isNation 1 (some .boolean)] ++ wsX50)
set_option maxRecDepth 20000 in
theorem gX5_racer_c_X5_isNation_2 : GoodIn wX5_racer (va_wsS RX5 73 yX5_isNation wX5_isNation) := goodIn_p _ [6] rfl (by decide +kernel)
set_option maxHeartbeats 4000000 in
set_option maxRecDepth 100000 in
theorem c_X5_racer (l : Launch) (dC : Nat → ClassId) (dI : Nat → Nat → Nat) (h0 : Nat) (qT : Nat) (qF : Nat) (qN : Nat) (qR : Nat) (qC : Nat) (cN : ClassId) (p0 : Int32) (sz : Nat) : Met l yX5_racer wX5_racer ({ frames := 1, cells := 0, slots := 0, locals := 20 }) (va_Pc [.ref h0, .int p0] (fun U => U.heap.size = sz ∧ va_P (dC, dI) vwCl [(h0, .inr (5, [.ref qT, .int 0, .ref qF, .int 0, .int 0, .int ((-1)), .int 0, .ref qN, .int 0, .ref qR, .int 0, .int 0, .ref qC])), (qN, .inl (cN, 16, .inl (fun _ => 0)))] U.heap ∧ va_K (dC, dI) vwCl [(cN, .int)] U ∧ va_D (fun _ => True) [(h0, .inr (5, [.ref qT, .int 0, .ref qF, .int 0, .int 0, .int ((-1)), .int 0, .ref qN, .int 0, .ref qR, .int 0, .int 0, .ref qC])), (qN, .inl (cN, 16, .inl (fun _ => 0)))])) (va_Qi (fun (r : Int32) (_ : Unit) => ((0 ≤ p0.toInt ∧ p0.toInt < 8) ∧ r = 0) ∨ (¬ (0 ≤ p0.toInt ∧ p0.toInt < 8) ∧ r = -1)) (fun _ t => True) (va_A [(h0, .inr (5, [.ref qT, .int 0, .ref qF, .int 0, .int 0, .int ((-1)), .int 0, .ref qN, .int 0, .ref qR, .int 0, .int 0, .ref qC])), (qN, .inl (cN, 16, .inl (fun _ => 0)))] sz)) 0 0 (va_A [(h0, .inr (5, [.ref qT, .int 0, .ref qF, .int 0, .int 0, .int ((-1)), .int 0, .ref qN, .int 0, .ref qR, .int 0, .int 0, .ref qC])), (qN, .inl (cN, 16, .inl (fun _ => 0)))] sz) := by
  refine Met.ofW (cc := cX5_racer) (maxL := 2) (ret := (some .int)) (by decide) rfl ?_
  intro p e s m args below meth c s₁ B hml hv
  obtain ⟨rfl, hsz, hP, hK, hD0⟩ := hv
  have hx := B.exec
  have hb := B.bytes
  have hr := B.returns
  have hts := atoms_spec (ws := wX5_racer) B.pre
  have hown : s.vm.findClass RX5 = some m.cls := findClass_of_methodNamed B.named
  have hlocks := B.notSynchronized
  have hin5 : ∀ w ∈ wsX50, w ∈ wX5_racer := by decide +kernel
  subst hsz
  have hD := hD0.self (sz := s.heap.size)
  generalize hAe : va_A [(h0, .inr (5, [.ref qT, .int 0, .ref qF, .int 0, .int 0, .int ((-1)), .int 0, .ref qN, .int 0, .ref qR, .int 0, .int 0, .ref qC])), (qN, .inl (cN, 16, .inl (fun _ => 0)))] s.heap.size = A at hD ⊢
  have hA : ∀ q : Nat, s.heap.size ≤ q → A q := fun q h => by rw [← hAe]; exact Or.inr h
  have hS : va_S A s.heap s.heap [] := va_S.rf
  have hP : va_P (dC, dI) vwCl [(h0, .inr (5, [.ref qT, .int 0, .ref qF, .int 0, .int 0, .int ((-1)), .int 0, .ref qN, .int 0, .ref qR, .int 0, .int 0, .ref qC])), (qN, .inl (cN, 16, .inl (fun _ => 0)))] s.heap := hP
  have hl := lv_entry ([.ref h0, .int p0]) (n := 2) (Nat.le_of_ble_eq_true rfl)
  rw [lg_entry_eq]
  generalize (lg_sl ([.ref h0, .int p0]) ++ List.replicate (2 - (lg_sl ([.ref h0, .int p0])).length) Slot.unset).toArray = ls at hl ⊢
  have hl : lv_has ls 2 [(0, .ref h0), (1, .int p0)] := hl
  refine lv_iload_n hx hb dX5_racer_0 rfl (lv_at hl 1 rfl) ?_
  have hPc := hP.sub (ws' := []) [] rfl
  have hDc := hD.sub (ws' := []) [] (by decide) rfl
  have hKc := hK.sub (tys' := []) [] rfl
  have hFc := va_free (wc := []) hD hS hA [] rfl
  refine va_calli (va_runS (As := [.int p0]) (rest := []) ⟨hx, hb, hml, hown, hts⟩ (c_X5_isNation l dC dI p0 s.heap.size) (va_cwS 1 hts gX5_racer_c_X5_isNation_2 rfl rfl rfl (by decide +kernel) ⟨Nat.le_of_ble_eq_true rfl, Nat.le_of_ble_eq_true rfl⟩) ⟨fun a U g mk q => by obtain ⟨q0, q1, qP, qK, qD⟩ := q; exact ⟨q0, q1, qP, va_K.moved (u := U) (U := U.calling g mk a) (Vm.Alike.refl U.vm) qK, qD⟩, fun U hU hW => ⟨rfl, by rw [hU], by rw [hU]; exact hPc, va_K.moved hW.alike hKc, hDc.weaken (fun _ _ _ _ => trivial)⟩⟩ rfl rfl hl.1 rfl (lv_room (Nat.le_of_ble_eq_true rfl)) dX5_racer_1 ⟨show (0 + 0 : Nat) ≤ 0 from by omega, show (0 + 0 : Nat) ≤ 0 from by omega⟩) hS (fun q _ h => hFc q h) hFc (fun r_1 u t H1 locs ht hvm hw hB hz1 hk1 hS => ?_)
  obtain ⟨hP1, hK1, hD1⟩ := hB
  rw [ht] at hP1
  have hK1 := va_K.moved hvm.symm hK1
  try dsimp only at hw
  obtain ⟨hP, hD⟩ := va_join (wr := [(h0, .inr (5, [.ref qT, .int 0, .ref qF, .int 0, .int 0, .int ((-1)), .int 0, .ref qN, .int 0, .ref qR, .int 0, .int 0, .ref qC])), (qN, .inl (cN, 16, .inl (fun _ => 0)))]) (w1 := []) hP hD [] [0, 1] rfl rfl (by decide) (by decide) hk1 hFc hP1 hD1
  generalize H1 = H at hP hS ⊢
  have hP : va_P (dC, dI) vwCl [(h0, .inr (5, [.ref qT, .int 0, .ref qF, .int 0, .int 0, .int ((-1)), .int 0, .ref qN, .int 0, .ref qR, .int 0, .int 0, .ref qC])), (qN, .inl (cN, 16, .inl (fun _ => 0)))] H := hP
  have hD : va_D A [(h0, .inr (5, [.ref qT, .int 0, .ref qF, .int 0, .int 0, .int ((-1)), .int 0, .ref qN, .int 0, .ref qR, .int 0, .int 0, .ref qC])), (qN, .inl (cN, 16, .inl (fun _ => 0)))] := hD
  have hw_3 := hw
  refine lv_if_eq (tgt := 16) hx hb dX5_racer_4 (by decide) (fun c_4 => ?_) (fun c_4 => ?_)
  · refine lv_iconst (v := (-1)) hx hb dX5_racer_16 (by decide) ?_
    exact W.iret (v := (-1)) hx hb hr (fun t ht hW => ⟨⟨(-1), (), rfl, by (try simp only [and_true, true_and, and_false, false_and, or_true, true_or, or_false, false_or, not_true_eq_false, not_false_eq_true, num_lt, num_le, num_eq, Int32.zero_add, Int32.sub_zero, Int32.add_zero, num_m2, num_m1, num_0, num_1, num_2, num_3, num_4, num_5, num_6, num_7, num_8, num_16, num_20, num_31, num_200, num_1000] at hw_3 c_4 ⊢) <;> omega, trivial⟩, hS.F ht⟩) hS.2.2 dX5_racer_17
  · refine lv_aload_n hx hb dX5_racer_7 rfl (lv_at hl 0 rfl) ?_
    refine va_get (D := (dC, dI)) (ci := 5) (v := .int 0) (C := RX5) (T := TX5) (N := 13) hx hb hts hin5 hown hK hP 0 rfl rfl 8 (by decide) (hts (.fieldLink RX5 77 "SkiShots" "racerCount" "I") (by decide +kernel)) (fun _ h9 => h9) rfl dX5_racer_8 ?_
    refine lv_bipush (v := 16) hx hb dX5_racer_11 (by decide) ?_
    refine lv_icmp_lt (tgt := 18) hx hb dX5_racer_13 (by decide) (fun c_5 => ?_) (fun c_5 => absurd (by decide) c_5)
    refine lv_aload_n hx hb dX5_racer_18 rfl (lv_at hl 0 rfl) ?_
    refine va_get (D := (dC, dI)) (ci := 5) (v := .ref qN) (C := RX5) (T := TX5) (N := 13) hx hb hts hin5 hown hK hP 0 rfl rfl 7 (by decide) (hts (.fieldLink RX5 23 "SkiShots" "nations" "[I") (by decide +kernel)) (fun _ h9 => h9) rfl dX5_racer_19 ?_
    refine lv_aload_n hx hb dX5_racer_22 rfl (lv_at hl 0 rfl) ?_
    refine va_get (D := (dC, dI)) (ci := 5) (v := .int 0) (C := RX5) (T := TX5) (N := 13) hx hb hts hin5 hown hK hP 0 rfl rfl 8 (by decide) (hts (.fieldLink RX5 77 "SkiShots" "racerCount" "I") (by decide +kernel)) (fun _ h9 => h9) rfl dX5_racer_23 ?_
    refine lv_iload_n hx hb dX5_racer_26 rfl (lv_at hl 1 rfl) ?_
    refine va_iast hx hb hK hP hD hS 1 0 rfl rfl (by unfold vp_in; decide) dX5_racer_27 (fun H locs hP hD hS => ?_)
    obtain ⟨f_6, ef_6⟩ : ∃ g : Nat → Int32, g = upd (fun _ => 0) (Int32.toNatClampNeg 0) (p0) := ⟨_, rfl⟩
    have hP : va_P (dC, dI) vwCl [(h0, .inr (5, [.ref qT, .int 0, .ref qF, .int 0, .int 0, .int ((-1)), .int 0, .ref qN, .int 0, .ref qR, .int 0, .int 0, .ref qC])), (qN, .inl (cN, 16, .inl (f_6)))] H := by rw [ef_6]; exact hP
    have hD : va_D A [(h0, .inr (5, [.ref qT, .int 0, .ref qF, .int 0, .int 0, .int ((-1)), .int 0, .ref qN, .int 0, .ref qR, .int 0, .int 0, .ref qC])), (qN, .inl (cN, 16, .inl (f_6)))] := by rw [ef_6]; exact hD
    refine lv_aload_n hx hb dX5_racer_28 rfl (lv_at hl 0 rfl) ?_
    refine lv_dup hx hb dX5_racer_29 rfl ?_
    refine va_get (D := (dC, dI)) (ci := 5) (v := .int 0) (C := RX5) (T := TX5) (N := 13) hx hb hts hin5 hown hK hP 0 rfl rfl 8 (by decide) (hts (.fieldLink RX5 77 "SkiShots" "racerCount" "I") (by decide +kernel)) (fun _ h9 => h9) rfl dX5_racer_30 ?_
    refine lv_iconst (v := 1) hx hb dX5_racer_33 (by decide) ?_
    refine lv_iadd hx hb dX5_racer_34 ?_
    rw [show (0 + 1 : Int32) = 1 from by decide]
    refine va_put (D := (dC, dI)) (ci := 5) (v := .int 1) (ty := .int) (C := RX5) (T := TX5) (N := 13) hx hb hts hin5 tyX5 tyX5_ok nmX5 hown hK hP hD hS 0 rfl rfl 8 (by decide) (hts (.fieldLink RX5 77 "SkiShots" "racerCount" "I") (by decide +kernel)) (fun _ h9 => h9) rfl (by decide +kernel) rfl rfl (Nat.le_of_ble_eq_true rfl) dX5_racer_35 (fun H locs hP hD hS => ?_)
    have hP : va_P (dC, dI) vwCl [(h0, .inr (5, [.ref qT, .int 0, .ref qF, .int 0, .int 0, .int ((-1)), .int 0, .ref qN, .int 1, .ref qR, .int 0, .int 0, .ref qC])), (qN, .inl (cN, 16, .inl (f_6)))] H := hP
    have hD : va_D A [(h0, .inr (5, [.ref qT, .int 0, .ref qF, .int 0, .int 0, .int ((-1)), .int 0, .ref qN, .int 1, .ref qR, .int 0, .int 0, .ref qC])), (qN, .inl (cN, 16, .inl (f_6)))] := hD
    refine lv_aload_n hx hb dX5_racer_38 rfl (lv_at hl 0 rfl) ?_
    refine va_get (D := (dC, dI)) (ci := 5) (v := .int 1) (C := RX5) (T := TX5) (N := 13) hx hb hts hin5 hown hK hP 0 rfl rfl 8 (by decide) (hts (.fieldLink RX5 77 "SkiShots" "racerCount" "I") (by decide +kernel)) (fun _ h9 => h9) rfl dX5_racer_39 ?_
    refine lv_iconst (v := 1) hx hb dX5_racer_42 (by decide) ?_
    refine lv_isub hx hb dX5_racer_43 ?_
    rw [show (1 - 1 : Int32) = 0 from by decide]
    exact W.iret (v := 0) hx hb hr (fun t ht hW => ⟨⟨0, (), rfl, by (try simp only [and_true, true_and, and_false, false_and, or_true, true_or, or_false, false_or, not_true_eq_false, not_false_eq_true, num_lt, num_le, num_eq, Int32.zero_add, Int32.sub_zero, Int32.add_zero, num_m2, num_m1, num_0, num_1, num_2, num_3, num_4, num_5, num_6, num_7, num_8, num_16, num_20, num_31, num_200, num_1000] at hw_3 c_4 c_5 ⊢) <;> omega, trivial⟩, hS.F ht⟩) hS.2.2 dX5_racer_44
def wX5_race : List Cond := .code yX5_race cX5_race 6 (some .int) :: ([.fieldLink RX5 80 "SkiShots" "raceCount" "I", .fieldLink RX5 15 "SkiShots" "formatsByName" "[LSkiShots$Format;"] ++ wsX50)
set_option maxHeartbeats 4000000 in
set_option maxRecDepth 100000 in
theorem c_X5_race (l : Launch) (dC : Nat → ClassId) (dI : Nat → Nat → Nat) (h0 : Nat) (qT : Nat) (qF : Nat) (qN : Nat) (qR : Nat) (qC : Nat) (cF : ClassId) (p0 : Int32) (p1 : Int32) (sz : Nat) : Met l yX5_race wX5_race ({ frames := 0, cells := 0, slots := 0, locals := 0 }) (va_Pc [.ref h0, .int p0, .int p1] (fun U => U.heap.size = sz ∧ va_P (dC, dI) vwCl [(h0, .inr (5, [.ref qT, .int 0, .ref qF, .int 0, .int 0, .int ((-1)), .int 0, .ref qN, .int 0, .ref qR, .int 0, .int 0, .ref qC])), (qF, .inl (cF, 8, .inr (.inr (.inr (.inr (fun _ => none))))))] U.heap ∧ va_K (dC, dI) vwCl [(cF, .object RX2)] U ∧ va_D (fun _ => True) [(h0, .inr (5, [.ref qT, .int 0, .ref qF, .int 0, .int 0, .int ((-1)), .int 0, .ref qN, .int 0, .ref qR, .int 0, .int 0, .ref qC])), (qF, .inl (cF, 8, .inr (.inr (.inr (.inr (fun _ => none))))))])) (va_Qi (fun (r : Int32) (_ : Unit) => r = -1) (fun _ t => True) (va_A [(h0, .inr (5, [.ref qT, .int 0, .ref qF, .int 0, .int 0, .int ((-1)), .int 0, .ref qN, .int 0, .ref qR, .int 0, .int 0, .ref qC])), (qF, .inl (cF, 8, .inr (.inr (.inr (.inr (fun _ => none))))))] sz)) 0 0 (va_A [(h0, .inr (5, [.ref qT, .int 0, .ref qF, .int 0, .int 0, .int ((-1)), .int 0, .ref qN, .int 0, .ref qR, .int 0, .int 0, .ref qC])), (qF, .inl (cF, 8, .inr (.inr (.inr (.inr (fun _ => none))))))] sz) := by
  refine Met.ofW (cc := cX5_race) (maxL := 6) (ret := (some .int)) (by decide) rfl ?_
  intro p e s m args below meth c s₁ B hml hv
  obtain ⟨rfl, hsz, hP, hK, hD0⟩ := hv
  have hx := B.exec
  have hb := B.bytes
  have hr := B.returns
  have hts := atoms_spec (ws := wX5_race) B.pre
  have hown : s.vm.findClass RX5 = some m.cls := findClass_of_methodNamed B.named
  have hlocks := B.notSynchronized
  have hin5 : ∀ w ∈ wsX50, w ∈ wX5_race := by decide +kernel
  subst hsz
  have hD := hD0.self (sz := s.heap.size)
  generalize hAe : va_A [(h0, .inr (5, [.ref qT, .int 0, .ref qF, .int 0, .int 0, .int ((-1)), .int 0, .ref qN, .int 0, .ref qR, .int 0, .int 0, .ref qC])), (qF, .inl (cF, 8, .inr (.inr (.inr (.inr (fun _ => none))))))] s.heap.size = A at hD ⊢
  have hA : ∀ q : Nat, s.heap.size ≤ q → A q := fun q h => by rw [← hAe]; exact Or.inr h
  have hS : va_S A s.heap s.heap [] := va_S.rf
  have hP : va_P (dC, dI) vwCl [(h0, .inr (5, [.ref qT, .int 0, .ref qF, .int 0, .int 0, .int ((-1)), .int 0, .ref qN, .int 0, .ref qR, .int 0, .int 0, .ref qC])), (qF, .inl (cF, 8, .inr (.inr (.inr (.inr (fun _ => none))))))] s.heap := hP
  have hl := lv_entry ([.ref h0, .int p0, .int p1]) (n := 6) (Nat.le_of_ble_eq_true rfl)
  rw [lg_entry_eq]
  generalize (lg_sl ([.ref h0, .int p0, .int p1]) ++ List.replicate (6 - (lg_sl ([.ref h0, .int p0, .int p1])).length) Slot.unset).toArray = ls at hl ⊢
  have hl : lv_has ls 6 [(0, .ref h0), (1, .int p0), (2, .int p1)] := hl
  refine lv_iload_n hx hb dX5_race_0 rfl (lv_at hl 1 rfl) ?_
  refine lv_if_lt (tgt := 19) hx hb dX5_race_1 (by decide) (fun c_1 => ?_) (fun c_1 => ?_)
  · refine lv_iconst (v := (-1)) hx hb dX5_race_19 (by decide) ?_
    exact W.iret (v := (-1)) hx hb hr (fun t ht hW => ⟨⟨(-1), (), rfl, rfl, trivial⟩, hS.F ht⟩) hS.2.2 dX5_race_20
  · refine lv_iload_n hx hb dX5_race_4 rfl (lv_at hl 1 rfl) ?_
    refine lv_bipush (v := 8) hx hb dX5_race_5 (by decide) ?_
    refine lv_icmp_ge (tgt := 19) hx hb dX5_race_7 (by decide) (fun c_2 => ?_) (fun c_2 => ?_)
    · refine lv_iconst (v := (-1)) hx hb dX5_race_19 (by decide) ?_
      exact W.iret (v := (-1)) hx hb hr (fun t ht hW => ⟨⟨(-1), (), rfl, rfl, trivial⟩, hS.F ht⟩) hS.2.2 dX5_race_20
    · refine lv_aload_n hx hb dX5_race_10 rfl (lv_at hl 0 rfl) ?_
      refine va_get (D := (dC, dI)) (ci := 5) (v := .int 0) (C := RX5) (T := TX5) (N := 13) hx hb hts hin5 hown hK hP 0 rfl rfl 10 (by decide) (hts (.fieldLink RX5 80 "SkiShots" "raceCount" "I") (by decide +kernel)) (fun _ h9 => h9) rfl dX5_race_11 ?_
      refine lv_bipush (v := 8) hx hb dX5_race_14 (by decide) ?_
      refine lv_icmp_lt (tgt := 21) hx hb dX5_race_16 (by decide) (fun c_3 => ?_) (fun c_3 => absurd (by decide) c_3)
      refine lv_aload_n hx hb dX5_race_21 rfl (lv_at hl 0 rfl) ?_
      refine va_get (D := (dC, dI)) (ci := 5) (v := .ref qF) (C := RX5) (T := TX5) (N := 13) hx hb hts hin5 hown hK hP 0 rfl rfl 2 (by decide) (hts (.fieldLink RX5 15 "SkiShots" "formatsByName" "[LSkiShots$Format;") (by decide +kernel)) (fun _ h9 => h9) rfl dX5_race_22 ?_
      refine lv_iload_n hx hb dX5_race_25 rfl (lv_at hl 1 rfl) ?_
      refine va_aldq hx hb hK hP 1 0 rfl rfl (by rw [vp_in_iff]; (simp only [and_true, true_and, and_false, false_and, or_true, true_or, or_false, false_or, not_true_eq_false, not_false_eq_true, num_lt, num_le, num_eq, Int32.zero_add, Int32.sub_zero, Int32.add_zero, num_m2, num_m1, num_0, num_1, num_2, num_3, num_4, num_5, num_6, num_7, num_8, num_16, num_20, num_31, num_200, num_1000] at c_1 c_2 c_3); omega) dX5_race_26 ?_
      show W _ _ _ _ _ _ _ _ _ _ _ _ _ _ _ (F0 m 27 ls (.null :: []))
      refine lv_astore_nN (lv' := [(3, .null), (0, .ref h0), (1, .int p0), (2, .int p1)]) hx hb dX5_race_27 rfl hl (by decide) rfl (fun ls hl => ?_)
      refine lv_aload_nN hx hb dX5_race_28 rfl (lv_at hl 0 rfl) ?_
      refine lv_ifnonnullN hx hb dX5_race_29 ?_
      refine lv_iconst (v := (-1)) hx hb dX5_race_32 (by decide) ?_
      exact W.iret (v := (-1)) hx hb hr (fun t ht hW => ⟨⟨(-1), (), rfl, rfl, trivial⟩, hS.F ht⟩) hS.2.2 dX5_race_33
def wX5_enter : List Cond := .code yX5_enter cX5_enter 4 (some .int) :: ([.methodLink RX5 83 yX5_raceAt, .instanceMethod yX5_raceAt, .selects RX5 yX5_raceAt yX5_raceAt, .initialized RX5, .code yX5_raceAt cX5_raceAt 2 (some (.object "SkiShots$Race")), .fieldLink RX5 80 "SkiShots" "raceCount" "I"] ++ wsX50)
set_option maxRecDepth 20000 in
theorem gX5_enter_c_X5_raceAt_2 : GoodIn wX5_enter (wsV RX5 83 RX5 yX5_raceAt wX5_raceAt) := goodIn_p _ [5] rfl (by decide +kernel)
set_option maxHeartbeats 4000000 in
set_option maxRecDepth 100000 in
theorem c_X5_enter (l : Launch) (dC : Nat → ClassId) (dI : Nat → Nat → Nat) (h0 : Nat) (qT : Nat) (qF : Nat) (qN : Nat) (qR : Nat) (qC : Nat) (p0 : Int32) (p1 : Int32) (sz : Nat) : Met l yX5_enter wX5_enter ({ frames := 1, cells := 0, slots := 0, locals := 21 }) (va_Pc [.ref h0, .int p0, .int p1] (fun U => U.heap.size = sz ∧ va_P (dC, dI) vwCl [(h0, .inr (5, [.ref qT, .int 0, .ref qF, .int 0, .int 0, .int ((-1)), .int 0, .ref qN, .int 0, .ref qR, .int 0, .int 0, .ref qC]))] U.heap ∧ va_K (dC, dI) vwCl [] U ∧ va_D (fun _ => True) [(h0, .inr (5, [.ref qT, .int 0, .ref qF, .int 0, .int 0, .int ((-1)), .int 0, .ref qN, .int 0, .ref qR, .int 0, .int 0, .ref qC]))])) (va_Qi (fun (r : Int32) (_ : Unit) => r = -1) (fun _ t => True) (va_A [(h0, .inr (5, [.ref qT, .int 0, .ref qF, .int 0, .int 0, .int ((-1)), .int 0, .ref qN, .int 0, .ref qR, .int 0, .int 0, .ref qC]))] sz)) 0 0 (va_A [(h0, .inr (5, [.ref qT, .int 0, .ref qF, .int 0, .int 0, .int ((-1)), .int 0, .ref qN, .int 0, .ref qR, .int 0, .int 0, .ref qC]))] sz) := by
  refine Met.ofW (cc := cX5_enter) (maxL := 4) (ret := (some .int)) (by decide) rfl ?_
  intro p e s m args below meth c s₁ B hml hv
  obtain ⟨rfl, hsz, hP, hK, hD0⟩ := hv
  have hx := B.exec
  have hb := B.bytes
  have hr := B.returns
  have hts := atoms_spec (ws := wX5_enter) B.pre
  have hown : s.vm.findClass RX5 = some m.cls := findClass_of_methodNamed B.named
  have hlocks := B.notSynchronized
  subst hsz
  have hD := hD0.self (sz := s.heap.size)
  generalize hAe : va_A [(h0, .inr (5, [.ref qT, .int 0, .ref qF, .int 0, .int 0, .int ((-1)), .int 0, .ref qN, .int 0, .ref qR, .int 0, .int 0, .ref qC]))] s.heap.size = A at hD ⊢
  have hA : ∀ q : Nat, s.heap.size ≤ q → A q := fun q h => by rw [← hAe]; exact Or.inr h
  have hS : va_S A s.heap s.heap [] := va_S.rf
  have hP : va_P (dC, dI) vwCl [(h0, .inr (5, [.ref qT, .int 0, .ref qF, .int 0, .int 0, .int ((-1)), .int 0, .ref qN, .int 0, .ref qR, .int 0, .int 0, .ref qC]))] s.heap := hP
  have hl := lv_entry ([.ref h0, .int p0, .int p1]) (n := 4) (Nat.le_of_ble_eq_true rfl)
  rw [lg_entry_eq]
  generalize (lg_sl ([.ref h0, .int p0, .int p1]) ++ List.replicate (4 - (lg_sl ([.ref h0, .int p0, .int p1])).length) Slot.unset).toArray = ls at hl ⊢
  have hl : lv_has ls 4 [(0, .ref h0), (1, .int p0), (2, .int p1)] := hl
  refine lv_aload_n hx hb dX5_enter_0 rfl (lv_at hl 0 rfl) ?_
  refine lv_iload_n hx hb dX5_enter_1 rfl (lv_at hl 1 rfl) ?_
  have hPc := hP.sub (ws' := [(h0, .inr (5, [.ref qT, .int 0, .ref qF, .int 0, .int 0, .int ((-1)), .int 0, .ref qN, .int 0, .ref qR, .int 0, .int 0, .ref qC]))]) [0] rfl
  have hDc := hD.sub (ws' := [(h0, .inr (5, [.ref qT, .int 0, .ref qF, .int 0, .int 0, .int ((-1)), .int 0, .ref qN, .int 0, .ref qR, .int 0, .int 0, .ref qC]))]) [0] (by decide) rfl
  have hKc := hK.sub (tys' := []) [] rfl
  have hFc := va_free (wc := [(h0, .inr (5, [.ref qT, .int 0, .ref qF, .int 0, .int 0, .int ((-1)), .int 0, .ref qN, .int 0, .ref qR, .int 0, .int 0, .ref qC]))]) hD hS hA [0] rfl
  refine va_callq (va_runV (As := [.int p0]) (rest := []) ⟨hx, hb, hml, hown, hts⟩ (c_X5_raceAt l dC dI h0 qT qF qN qR qC p0 s.heap.size) (cwV 1 hts gX5_enter_c_X5_raceAt_2 rfl rfl rfl (by decide +kernel) ⟨Nat.le_of_ble_eq_true rfl, Nat.le_of_ble_eq_true rfl⟩) ⟨fun a U g mk q => by obtain ⟨q0, q1, qP, qK, qD⟩ := q; exact ⟨q0, q1, qP, va_K.moved (u := U) (U := U.calling g mk a) (Vm.Alike.refl U.vm) qK, qD⟩, va_recv hKc hPc (ci := 5) (q0 := 0) rfl rfl, fun U hU hW => ⟨rfl, by rw [hU], by rw [hU]; exact hPc, va_K.moved hW.alike hKc, hDc.weaken (fun _ _ _ _ => trivial)⟩⟩ rfl rfl hl.1 rfl (lv_room (Nat.le_of_ble_eq_true rfl)) dX5_enter_2 ⟨show (0 + 0 : Nat) ≤ 0 from by omega, show (0 + 0 : Nat) ≤ 0 from by omega⟩) hS (fun q _ h => hFc q h) hFc (fun r_1 u t H1 locs ht hvm hw hB hz1 hk1 hS => ?_)
  obtain ⟨hP1, hK1, hD1⟩ := hB
  rw [ht] at hP1
  have hK1 := va_K.moved hvm.symm hK1
  try dsimp only at hw
  obtain ⟨hP, hD⟩ := va_join (wr := []) (w1 := [(h0, .inr (5, [.ref qT, .int 0, .ref qF, .int 0, .int 0, .int ((-1)), .int 0, .ref qN, .int 0, .ref qR, .int 0, .int 0, .ref qC]))]) hP hD [0] [] rfl rfl (by decide) (by decide) hk1 hFc hP1 hD1
  generalize H1 = H at hP hS ⊢
  have hP : va_P (dC, dI) vwCl [(h0, .inr (5, [.ref qT, .int 0, .ref qF, .int 0, .int 0, .int ((-1)), .int 0, .ref qN, .int 0, .ref qR, .int 0, .int 0, .ref qC]))] H := hP
  have hD : va_D A [(h0, .inr (5, [.ref qT, .int 0, .ref qF, .int 0, .int 0, .int ((-1)), .int 0, .ref qN, .int 0, .ref qR, .int 0, .int 0, .ref qC]))] := hD
  have hw_3 := hw
  subst hw_3
  show W _ _ _ _ _ _ _ _ _ _ _ _ _ _ _ (F0 m 5 ls [.null])
  refine lv_astore_nN (lv' := [(3, .null), (0, .ref h0), (1, .int p0), (2, .int p1)]) hx hb dX5_enter_5 rfl hl (by decide) rfl (fun ls hl => ?_)
  refine lv_aload_nN hx hb dX5_enter_6 rfl (lv_at hl 0 rfl) ?_
  refine lv_ifnullN (tgt := 33) hx hb dX5_enter_7 (by decide) ?_
  refine lv_iconst (v := (-1)) hx hb dX5_enter_33 (by decide) ?_
  exact W.iret (v := (-1)) hx hb hr (fun t ht hW => ⟨⟨(-1), (), rfl, rfl, trivial⟩, hS.F ht⟩) hS.2.2 dX5_enter_34
def wX5_tell : List Cond := .code yX5_tell cX5_tell 8 (some .int) :: ([.methodLink RX5 83 yX5_raceAt, .instanceMethod yX5_raceAt, .selects RX5 yX5_raceAt yX5_raceAt, .initialized RX5, .code yX5_raceAt cX5_raceAt 2 (some (.object "SkiShots$Race")), .fieldLink RX5 80 "SkiShots" "raceCount" "I"] ++ wsX50)
set_option maxRecDepth 20000 in
theorem gX5_tell_c_X5_raceAt_2 : GoodIn wX5_tell (wsV RX5 83 RX5 yX5_raceAt wX5_raceAt) := goodIn_p _ [5] rfl (by decide +kernel)
set_option maxHeartbeats 4000000 in
set_option maxRecDepth 100000 in
theorem c_X5_tell (l : Launch) (dC : Nat → ClassId) (dI : Nat → Nat → Nat) (h0 : Nat) (qT : Nat) (qF : Nat) (qN : Nat) (qR : Nat) (qC : Nat) (p0 : Int32) (p1 : Int32) (p2 : Int32) (p3 : Int32) (p4 : Int32) (sz : Nat) : Met l yX5_tell wX5_tell ({ frames := 1, cells := 0, slots := 0, locals := 21 }) (va_Pc [.ref h0, .int p0, .int p1, .int p2, .int p3, .int p4] (fun U => U.heap.size = sz ∧ va_P (dC, dI) vwCl [(h0, .inr (5, [.ref qT, .int 0, .ref qF, .int 0, .int 0, .int ((-1)), .int 0, .ref qN, .int 0, .ref qR, .int 0, .int 0, .ref qC]))] U.heap ∧ va_K (dC, dI) vwCl [] U ∧ va_D (fun _ => True) [(h0, .inr (5, [.ref qT, .int 0, .ref qF, .int 0, .int 0, .int ((-1)), .int 0, .ref qN, .int 0, .ref qR, .int 0, .int 0, .ref qC]))])) (va_Qi (fun (r : Int32) (_ : Unit) => r = -1) (fun _ t => True) (va_A [(h0, .inr (5, [.ref qT, .int 0, .ref qF, .int 0, .int 0, .int ((-1)), .int 0, .ref qN, .int 0, .ref qR, .int 0, .int 0, .ref qC]))] sz)) 0 0 (va_A [(h0, .inr (5, [.ref qT, .int 0, .ref qF, .int 0, .int 0, .int ((-1)), .int 0, .ref qN, .int 0, .ref qR, .int 0, .int 0, .ref qC]))] sz) := by
  refine Met.ofW (cc := cX5_tell) (maxL := 8) (ret := (some .int)) (by decide) rfl ?_
  intro p e s m args below meth c s₁ B hml hv
  obtain ⟨rfl, hsz, hP, hK, hD0⟩ := hv
  have hx := B.exec
  have hb := B.bytes
  have hr := B.returns
  have hts := atoms_spec (ws := wX5_tell) B.pre
  have hown : s.vm.findClass RX5 = some m.cls := findClass_of_methodNamed B.named
  have hlocks := B.notSynchronized
  subst hsz
  have hD := hD0.self (sz := s.heap.size)
  generalize hAe : va_A [(h0, .inr (5, [.ref qT, .int 0, .ref qF, .int 0, .int 0, .int ((-1)), .int 0, .ref qN, .int 0, .ref qR, .int 0, .int 0, .ref qC]))] s.heap.size = A at hD ⊢
  have hA : ∀ q : Nat, s.heap.size ≤ q → A q := fun q h => by rw [← hAe]; exact Or.inr h
  have hS : va_S A s.heap s.heap [] := va_S.rf
  have hP : va_P (dC, dI) vwCl [(h0, .inr (5, [.ref qT, .int 0, .ref qF, .int 0, .int 0, .int ((-1)), .int 0, .ref qN, .int 0, .ref qR, .int 0, .int 0, .ref qC]))] s.heap := hP
  have hl := lv_entry ([.ref h0, .int p0, .int p1, .int p2, .int p3, .int p4]) (n := 8) (Nat.le_of_ble_eq_true rfl)
  rw [lg_entry_eq]
  generalize (lg_sl ([.ref h0, .int p0, .int p1, .int p2, .int p3, .int p4]) ++ List.replicate (8 - (lg_sl ([.ref h0, .int p0, .int p1, .int p2, .int p3, .int p4])).length) Slot.unset).toArray = ls at hl ⊢
  have hl : lv_has ls 8 [(0, .ref h0), (1, .int p0), (2, .int p1), (3, .int p2), (4, .int p3), (5, .int p4)] := hl
  refine lv_aload_n hx hb dX5_tell_0 rfl (lv_at hl 0 rfl) ?_
  refine lv_iload_n hx hb dX5_tell_1 rfl (lv_at hl 1 rfl) ?_
  have hPc := hP.sub (ws' := [(h0, .inr (5, [.ref qT, .int 0, .ref qF, .int 0, .int 0, .int ((-1)), .int 0, .ref qN, .int 0, .ref qR, .int 0, .int 0, .ref qC]))]) [0] rfl
  have hDc := hD.sub (ws' := [(h0, .inr (5, [.ref qT, .int 0, .ref qF, .int 0, .int 0, .int ((-1)), .int 0, .ref qN, .int 0, .ref qR, .int 0, .int 0, .ref qC]))]) [0] (by decide) rfl
  have hKc := hK.sub (tys' := []) [] rfl
  have hFc := va_free (wc := [(h0, .inr (5, [.ref qT, .int 0, .ref qF, .int 0, .int 0, .int ((-1)), .int 0, .ref qN, .int 0, .ref qR, .int 0, .int 0, .ref qC]))]) hD hS hA [0] rfl
  refine va_callq (va_runV (As := [.int p0]) (rest := []) ⟨hx, hb, hml, hown, hts⟩ (c_X5_raceAt l dC dI h0 qT qF qN qR qC p0 s.heap.size) (cwV 1 hts gX5_tell_c_X5_raceAt_2 rfl rfl rfl (by decide +kernel) ⟨Nat.le_of_ble_eq_true rfl, Nat.le_of_ble_eq_true rfl⟩) ⟨fun a U g mk q => by obtain ⟨q0, q1, qP, qK, qD⟩ := q; exact ⟨q0, q1, qP, va_K.moved (u := U) (U := U.calling g mk a) (Vm.Alike.refl U.vm) qK, qD⟩, va_recv hKc hPc (ci := 5) (q0 := 0) rfl rfl, fun U hU hW => ⟨rfl, by rw [hU], by rw [hU]; exact hPc, va_K.moved hW.alike hKc, hDc.weaken (fun _ _ _ _ => trivial)⟩⟩ rfl rfl hl.1 rfl (lv_room (Nat.le_of_ble_eq_true rfl)) dX5_tell_2 ⟨show (0 + 0 : Nat) ≤ 0 from by omega, show (0 + 0 : Nat) ≤ 0 from by omega⟩) hS (fun q _ h => hFc q h) hFc (fun r_1 u t H1 locs ht hvm hw hB hz1 hk1 hS => ?_)
  obtain ⟨hP1, hK1, hD1⟩ := hB
  rw [ht] at hP1
  have hK1 := va_K.moved hvm.symm hK1
  try dsimp only at hw
  obtain ⟨hP, hD⟩ := va_join (wr := []) (w1 := [(h0, .inr (5, [.ref qT, .int 0, .ref qF, .int 0, .int 0, .int ((-1)), .int 0, .ref qN, .int 0, .ref qR, .int 0, .int 0, .ref qC]))]) hP hD [0] [] rfl rfl (by decide) (by decide) hk1 hFc hP1 hD1
  generalize H1 = H at hP hS ⊢
  have hP : va_P (dC, dI) vwCl [(h0, .inr (5, [.ref qT, .int 0, .ref qF, .int 0, .int 0, .int ((-1)), .int 0, .ref qN, .int 0, .ref qR, .int 0, .int 0, .ref qC]))] H := hP
  have hD : va_D A [(h0, .inr (5, [.ref qT, .int 0, .ref qF, .int 0, .int 0, .int ((-1)), .int 0, .ref qN, .int 0, .ref qR, .int 0, .int 0, .ref qC]))] := hD
  have hw_3 := hw
  subst hw_3
  show W _ _ _ _ _ _ _ _ _ _ _ _ _ _ _ (F0 m 5 ls [.null])
  refine lv_astoreN (lv' := [(6, .null), (0, .ref h0), (1, .int p0), (2, .int p1), (3, .int p2), (4, .int p3), (5, .int p4)]) hx hb dX5_tell_5 hl (by decide) rfl (fun ls hl => ?_)
  refine lv_aloadN hx hb dX5_tell_7 (lv_at hl 0 rfl) ?_
  refine lv_ifnullN (tgt := 22) hx hb dX5_tell_9 (by decide) ?_
  refine lv_iconst (v := (-1)) hx hb dX5_tell_22 (by decide) ?_
  exact W.iret (v := (-1)) hx hb hr (fun t ht hW => ⟨⟨(-1), (), rfl, rfl, trivial⟩, hS.F ht⟩) hS.2.2 dX5_tell_23
def wX5_entry : List Cond := .code yX5_entry cX5_entry 4 (some .int) :: ([.methodLink RX5 83 yX5_raceAt, .instanceMethod yX5_raceAt, .selects RX5 yX5_raceAt yX5_raceAt, .initialized RX5, .code yX5_raceAt cX5_raceAt 2 (some (.object "SkiShots$Race")), .fieldLink RX5 80 "SkiShots" "raceCount" "I"] ++ wsX50)
set_option maxRecDepth 20000 in
theorem gX5_entry_c_X5_raceAt_2 : GoodIn wX5_entry (wsV RX5 83 RX5 yX5_raceAt wX5_raceAt) := goodIn_p _ [5] rfl (by decide +kernel)
set_option maxHeartbeats 4000000 in
set_option maxRecDepth 100000 in
theorem c_X5_entry (l : Launch) (dC : Nat → ClassId) (dI : Nat → Nat → Nat) (h0 : Nat) (qT : Nat) (qF : Nat) (qN : Nat) (qR : Nat) (qC : Nat) (p0 : Int32) (p1 : Int32) (sz : Nat) : Met l yX5_entry wX5_entry ({ frames := 1, cells := 0, slots := 0, locals := 21 }) (va_Pc [.ref h0, .int p0, .int p1] (fun U => U.heap.size = sz ∧ va_P (dC, dI) vwCl [(h0, .inr (5, [.ref qT, .int 0, .ref qF, .int 0, .int 0, .int ((-1)), .int 0, .ref qN, .int 0, .ref qR, .int 0, .int 0, .ref qC]))] U.heap ∧ va_K (dC, dI) vwCl [] U ∧ va_D (fun _ => True) [(h0, .inr (5, [.ref qT, .int 0, .ref qF, .int 0, .int 0, .int ((-1)), .int 0, .ref qN, .int 0, .ref qR, .int 0, .int 0, .ref qC]))])) (va_Qi (fun (r : Int32) (_ : Unit) => r = -1) (fun _ t => True) (va_A [(h0, .inr (5, [.ref qT, .int 0, .ref qF, .int 0, .int 0, .int ((-1)), .int 0, .ref qN, .int 0, .ref qR, .int 0, .int 0, .ref qC]))] sz)) 0 0 (va_A [(h0, .inr (5, [.ref qT, .int 0, .ref qF, .int 0, .int 0, .int ((-1)), .int 0, .ref qN, .int 0, .ref qR, .int 0, .int 0, .ref qC]))] sz) := by
  refine Met.ofW (cc := cX5_entry) (maxL := 4) (ret := (some .int)) (by decide) rfl ?_
  intro p e s m args below meth c s₁ B hml hv
  obtain ⟨rfl, hsz, hP, hK, hD0⟩ := hv
  have hx := B.exec
  have hb := B.bytes
  have hr := B.returns
  have hts := atoms_spec (ws := wX5_entry) B.pre
  have hown : s.vm.findClass RX5 = some m.cls := findClass_of_methodNamed B.named
  have hlocks := B.notSynchronized
  subst hsz
  have hD := hD0.self (sz := s.heap.size)
  generalize hAe : va_A [(h0, .inr (5, [.ref qT, .int 0, .ref qF, .int 0, .int 0, .int ((-1)), .int 0, .ref qN, .int 0, .ref qR, .int 0, .int 0, .ref qC]))] s.heap.size = A at hD ⊢
  have hA : ∀ q : Nat, s.heap.size ≤ q → A q := fun q h => by rw [← hAe]; exact Or.inr h
  have hS : va_S A s.heap s.heap [] := va_S.rf
  have hP : va_P (dC, dI) vwCl [(h0, .inr (5, [.ref qT, .int 0, .ref qF, .int 0, .int 0, .int ((-1)), .int 0, .ref qN, .int 0, .ref qR, .int 0, .int 0, .ref qC]))] s.heap := hP
  have hl := lv_entry ([.ref h0, .int p0, .int p1]) (n := 4) (Nat.le_of_ble_eq_true rfl)
  rw [lg_entry_eq]
  generalize (lg_sl ([.ref h0, .int p0, .int p1]) ++ List.replicate (4 - (lg_sl ([.ref h0, .int p0, .int p1])).length) Slot.unset).toArray = ls at hl ⊢
  have hl : lv_has ls 4 [(0, .ref h0), (1, .int p0), (2, .int p1)] := hl
  refine lv_aload_n hx hb dX5_entry_0 rfl (lv_at hl 0 rfl) ?_
  refine lv_iload_n hx hb dX5_entry_1 rfl (lv_at hl 1 rfl) ?_
  have hPc := hP.sub (ws' := [(h0, .inr (5, [.ref qT, .int 0, .ref qF, .int 0, .int 0, .int ((-1)), .int 0, .ref qN, .int 0, .ref qR, .int 0, .int 0, .ref qC]))]) [0] rfl
  have hDc := hD.sub (ws' := [(h0, .inr (5, [.ref qT, .int 0, .ref qF, .int 0, .int 0, .int ((-1)), .int 0, .ref qN, .int 0, .ref qR, .int 0, .int 0, .ref qC]))]) [0] (by decide) rfl
  have hKc := hK.sub (tys' := []) [] rfl
  have hFc := va_free (wc := [(h0, .inr (5, [.ref qT, .int 0, .ref qF, .int 0, .int 0, .int ((-1)), .int 0, .ref qN, .int 0, .ref qR, .int 0, .int 0, .ref qC]))]) hD hS hA [0] rfl
  refine va_callq (va_runV (As := [.int p0]) (rest := []) ⟨hx, hb, hml, hown, hts⟩ (c_X5_raceAt l dC dI h0 qT qF qN qR qC p0 s.heap.size) (cwV 1 hts gX5_entry_c_X5_raceAt_2 rfl rfl rfl (by decide +kernel) ⟨Nat.le_of_ble_eq_true rfl, Nat.le_of_ble_eq_true rfl⟩) ⟨fun a U g mk q => by obtain ⟨q0, q1, qP, qK, qD⟩ := q; exact ⟨q0, q1, qP, va_K.moved (u := U) (U := U.calling g mk a) (Vm.Alike.refl U.vm) qK, qD⟩, va_recv hKc hPc (ci := 5) (q0 := 0) rfl rfl, fun U hU hW => ⟨rfl, by rw [hU], by rw [hU]; exact hPc, va_K.moved hW.alike hKc, hDc.weaken (fun _ _ _ _ => trivial)⟩⟩ rfl rfl hl.1 rfl (lv_room (Nat.le_of_ble_eq_true rfl)) dX5_entry_2 ⟨show (0 + 0 : Nat) ≤ 0 from by omega, show (0 + 0 : Nat) ≤ 0 from by omega⟩) hS (fun q _ h => hFc q h) hFc (fun r_1 u t H1 locs ht hvm hw hB hz1 hk1 hS => ?_)
  obtain ⟨hP1, hK1, hD1⟩ := hB
  rw [ht] at hP1
  have hK1 := va_K.moved hvm.symm hK1
  try dsimp only at hw
  obtain ⟨hP, hD⟩ := va_join (wr := []) (w1 := [(h0, .inr (5, [.ref qT, .int 0, .ref qF, .int 0, .int 0, .int ((-1)), .int 0, .ref qN, .int 0, .ref qR, .int 0, .int 0, .ref qC]))]) hP hD [0] [] rfl rfl (by decide) (by decide) hk1 hFc hP1 hD1
  generalize H1 = H at hP hS ⊢
  have hP : va_P (dC, dI) vwCl [(h0, .inr (5, [.ref qT, .int 0, .ref qF, .int 0, .int 0, .int ((-1)), .int 0, .ref qN, .int 0, .ref qR, .int 0, .int 0, .ref qC]))] H := hP
  have hD : va_D A [(h0, .inr (5, [.ref qT, .int 0, .ref qF, .int 0, .int 0, .int ((-1)), .int 0, .ref qN, .int 0, .ref qR, .int 0, .int 0, .ref qC]))] := hD
  have hw_3 := hw
  subst hw_3
  show W _ _ _ _ _ _ _ _ _ _ _ _ _ _ _ (F0 m 5 ls [.null])
  refine lv_astore_nN (lv' := [(3, .null), (0, .ref h0), (1, .int p0), (2, .int p1)]) hx hb dX5_entry_5 rfl hl (by decide) rfl (fun ls hl => ?_)
  refine lv_aload_nN hx hb dX5_entry_6 rfl (lv_at hl 0 rfl) ?_
  refine lv_ifnullN (tgt := 22) hx hb dX5_entry_7 (by decide) ?_
  refine lv_iconst (v := (-1)) hx hb dX5_entry_22 (by decide) ?_
  exact W.iret (v := (-1)) hx hb hr (fun t ht hW => ⟨⟨(-1), (), rfl, rfl, trivial⟩, hS.F ht⟩) hS.2.2 dX5_entry_23
def wX5_order : List Cond := .code yX5_order cX5_order 6 (some .int) :: ([.methodLink RX5 83 yX5_raceAt, .instanceMethod yX5_raceAt, .selects RX5 yX5_raceAt yX5_raceAt, .initialized RX5, .code yX5_raceAt cX5_raceAt 2 (some (.object "SkiShots$Race")), .fieldLink RX5 80 "SkiShots" "raceCount" "I"] ++ wsX50)
set_option maxRecDepth 20000 in
theorem gX5_order_c_X5_raceAt_2 : GoodIn wX5_order (wsV RX5 83 RX5 yX5_raceAt wX5_raceAt) := goodIn_p _ [5] rfl (by decide +kernel)
set_option maxHeartbeats 4000000 in
set_option maxRecDepth 100000 in
theorem c_X5_order (l : Launch) (dC : Nat → ClassId) (dI : Nat → Nat → Nat) (h0 : Nat) (qT : Nat) (qF : Nat) (qN : Nat) (qR : Nat) (qC : Nat) (p0 : Int32) (p1 : Int32) (p2 : Int32) (sz : Nat) : Met l yX5_order wX5_order ({ frames := 1, cells := 0, slots := 0, locals := 21 }) (va_Pc [.ref h0, .int p0, .int p1, .int p2] (fun U => U.heap.size = sz ∧ va_P (dC, dI) vwCl [(h0, .inr (5, [.ref qT, .int 0, .ref qF, .int 0, .int 0, .int ((-1)), .int 0, .ref qN, .int 0, .ref qR, .int 0, .int 0, .ref qC]))] U.heap ∧ va_K (dC, dI) vwCl [] U ∧ va_D (fun _ => True) [(h0, .inr (5, [.ref qT, .int 0, .ref qF, .int 0, .int 0, .int ((-1)), .int 0, .ref qN, .int 0, .ref qR, .int 0, .int 0, .ref qC]))])) (va_Qi (fun (r : Int32) (_ : Unit) => r = -1) (fun _ t => True) (va_A [(h0, .inr (5, [.ref qT, .int 0, .ref qF, .int 0, .int 0, .int ((-1)), .int 0, .ref qN, .int 0, .ref qR, .int 0, .int 0, .ref qC]))] sz)) 0 0 (va_A [(h0, .inr (5, [.ref qT, .int 0, .ref qF, .int 0, .int 0, .int ((-1)), .int 0, .ref qN, .int 0, .ref qR, .int 0, .int 0, .ref qC]))] sz) := by
  refine Met.ofW (cc := cX5_order) (maxL := 6) (ret := (some .int)) (by decide) rfl ?_
  intro p e s m args below meth c s₁ B hml hv
  obtain ⟨rfl, hsz, hP, hK, hD0⟩ := hv
  have hx := B.exec
  have hb := B.bytes
  have hr := B.returns
  have hts := atoms_spec (ws := wX5_order) B.pre
  have hown : s.vm.findClass RX5 = some m.cls := findClass_of_methodNamed B.named
  have hlocks := B.notSynchronized
  subst hsz
  have hD := hD0.self (sz := s.heap.size)
  generalize hAe : va_A [(h0, .inr (5, [.ref qT, .int 0, .ref qF, .int 0, .int 0, .int ((-1)), .int 0, .ref qN, .int 0, .ref qR, .int 0, .int 0, .ref qC]))] s.heap.size = A at hD ⊢
  have hA : ∀ q : Nat, s.heap.size ≤ q → A q := fun q h => by rw [← hAe]; exact Or.inr h
  have hS : va_S A s.heap s.heap [] := va_S.rf
  have hP : va_P (dC, dI) vwCl [(h0, .inr (5, [.ref qT, .int 0, .ref qF, .int 0, .int 0, .int ((-1)), .int 0, .ref qN, .int 0, .ref qR, .int 0, .int 0, .ref qC]))] s.heap := hP
  have hl := lv_entry ([.ref h0, .int p0, .int p1, .int p2]) (n := 6) (Nat.le_of_ble_eq_true rfl)
  rw [lg_entry_eq]
  generalize (lg_sl ([.ref h0, .int p0, .int p1, .int p2]) ++ List.replicate (6 - (lg_sl ([.ref h0, .int p0, .int p1, .int p2])).length) Slot.unset).toArray = ls at hl ⊢
  have hl : lv_has ls 6 [(0, .ref h0), (1, .int p0), (2, .int p1), (3, .int p2)] := hl
  refine lv_aload_n hx hb dX5_order_0 rfl (lv_at hl 0 rfl) ?_
  refine lv_iload_n hx hb dX5_order_1 rfl (lv_at hl 1 rfl) ?_
  have hPc := hP.sub (ws' := [(h0, .inr (5, [.ref qT, .int 0, .ref qF, .int 0, .int 0, .int ((-1)), .int 0, .ref qN, .int 0, .ref qR, .int 0, .int 0, .ref qC]))]) [0] rfl
  have hDc := hD.sub (ws' := [(h0, .inr (5, [.ref qT, .int 0, .ref qF, .int 0, .int 0, .int ((-1)), .int 0, .ref qN, .int 0, .ref qR, .int 0, .int 0, .ref qC]))]) [0] (by decide) rfl
  have hKc := hK.sub (tys' := []) [] rfl
  have hFc := va_free (wc := [(h0, .inr (5, [.ref qT, .int 0, .ref qF, .int 0, .int 0, .int ((-1)), .int 0, .ref qN, .int 0, .ref qR, .int 0, .int 0, .ref qC]))]) hD hS hA [0] rfl
  refine va_callq (va_runV (As := [.int p0]) (rest := []) ⟨hx, hb, hml, hown, hts⟩ (c_X5_raceAt l dC dI h0 qT qF qN qR qC p0 s.heap.size) (cwV 1 hts gX5_order_c_X5_raceAt_2 rfl rfl rfl (by decide +kernel) ⟨Nat.le_of_ble_eq_true rfl, Nat.le_of_ble_eq_true rfl⟩) ⟨fun a U g mk q => by obtain ⟨q0, q1, qP, qK, qD⟩ := q; exact ⟨q0, q1, qP, va_K.moved (u := U) (U := U.calling g mk a) (Vm.Alike.refl U.vm) qK, qD⟩, va_recv hKc hPc (ci := 5) (q0 := 0) rfl rfl, fun U hU hW => ⟨rfl, by rw [hU], by rw [hU]; exact hPc, va_K.moved hW.alike hKc, hDc.weaken (fun _ _ _ _ => trivial)⟩⟩ rfl rfl hl.1 rfl (lv_room (Nat.le_of_ble_eq_true rfl)) dX5_order_2 ⟨show (0 + 0 : Nat) ≤ 0 from by omega, show (0 + 0 : Nat) ≤ 0 from by omega⟩) hS (fun q _ h => hFc q h) hFc (fun r_1 u t H1 locs ht hvm hw hB hz1 hk1 hS => ?_)
  obtain ⟨hP1, hK1, hD1⟩ := hB
  rw [ht] at hP1
  have hK1 := va_K.moved hvm.symm hK1
  try dsimp only at hw
  obtain ⟨hP, hD⟩ := va_join (wr := []) (w1 := [(h0, .inr (5, [.ref qT, .int 0, .ref qF, .int 0, .int 0, .int ((-1)), .int 0, .ref qN, .int 0, .ref qR, .int 0, .int 0, .ref qC]))]) hP hD [0] [] rfl rfl (by decide) (by decide) hk1 hFc hP1 hD1
  generalize H1 = H at hP hS ⊢
  have hP : va_P (dC, dI) vwCl [(h0, .inr (5, [.ref qT, .int 0, .ref qF, .int 0, .int 0, .int ((-1)), .int 0, .ref qN, .int 0, .ref qR, .int 0, .int 0, .ref qC]))] H := hP
  have hD : va_D A [(h0, .inr (5, [.ref qT, .int 0, .ref qF, .int 0, .int 0, .int ((-1)), .int 0, .ref qN, .int 0, .ref qR, .int 0, .int 0, .ref qC]))] := hD
  have hw_3 := hw
  subst hw_3
  show W _ _ _ _ _ _ _ _ _ _ _ _ _ _ _ (F0 m 5 ls [.null])
  refine lv_astoreN (lv' := [(4, .null), (0, .ref h0), (1, .int p0), (2, .int p1), (3, .int p2)]) hx hb dX5_order_5 hl (by decide) rfl (fun ls hl => ?_)
  refine lv_aloadN hx hb dX5_order_7 (lv_at hl 0 rfl) ?_
  refine lv_ifnullN (tgt := 20) hx hb dX5_order_9 (by decide) ?_
  refine lv_iconst (v := (-1)) hx hb dX5_order_20 (by decide) ?_
  exact W.iret (v := (-1)) hx hb hr (fun t ht hW => ⟨⟨(-1), (), rfl, rfl, trivial⟩, hS.F ht⟩) hS.2.2 dX5_order_21
def wX5_points : List Cond := .code yX5_points cX5_points 3 (some .int) :: ([.methodLink RX5 93 yX5_isRacer, .instanceMethod yX5_isRacer, .selects RX5 yX5_isRacer yX5_isRacer, .initialized RX5, .code yX5_isRacer cX5_isRacer 2 (some .boolean), .fieldLink RX5 77 "SkiShots" "racerCount" "I"] ++ wsX50)
set_option maxRecDepth 20000 in
theorem gX5_points_c_X5_isRacer_2 : GoodIn wX5_points (wsV RX5 93 RX5 yX5_isRacer wX5_isRacer) := goodIn_p _ [5] rfl (by decide +kernel)
set_option maxHeartbeats 4000000 in
set_option maxRecDepth 100000 in
theorem c_X5_points (l : Launch) (dC : Nat → ClassId) (dI : Nat → Nat → Nat) (h0 : Nat) (qT : Nat) (qF : Nat) (qN : Nat) (qR : Nat) (qC : Nat) (p0 : Int32) (p1 : Int32) (sz : Nat) : Met l yX5_points wX5_points ({ frames := 1, cells := 0, slots := 0, locals := 21 }) (va_Pc [.ref h0, .int p0, .int p1] (fun U => U.heap.size = sz ∧ va_P (dC, dI) vwCl [(h0, .inr (5, [.ref qT, .int 0, .ref qF, .int 0, .int 0, .int ((-1)), .int 0, .ref qN, .int 0, .ref qR, .int 0, .int 0, .ref qC]))] U.heap ∧ va_K (dC, dI) vwCl [] U ∧ va_D (fun _ => True) [(h0, .inr (5, [.ref qT, .int 0, .ref qF, .int 0, .int 0, .int ((-1)), .int 0, .ref qN, .int 0, .ref qR, .int 0, .int 0, .ref qC]))])) (va_Qi (fun (r : Int32) (_ : Unit) => r = -1) (fun _ t => True) (va_A [(h0, .inr (5, [.ref qT, .int 0, .ref qF, .int 0, .int 0, .int ((-1)), .int 0, .ref qN, .int 0, .ref qR, .int 0, .int 0, .ref qC]))] sz)) 0 0 (va_A [(h0, .inr (5, [.ref qT, .int 0, .ref qF, .int 0, .int 0, .int ((-1)), .int 0, .ref qN, .int 0, .ref qR, .int 0, .int 0, .ref qC]))] sz) := by
  refine Met.ofW (cc := cX5_points) (maxL := 3) (ret := (some .int)) (by decide) rfl ?_
  intro p e s m args below meth c s₁ B hml hv
  obtain ⟨rfl, hsz, hP, hK, hD0⟩ := hv
  have hx := B.exec
  have hb := B.bytes
  have hr := B.returns
  have hts := atoms_spec (ws := wX5_points) B.pre
  have hown : s.vm.findClass RX5 = some m.cls := findClass_of_methodNamed B.named
  have hlocks := B.notSynchronized
  subst hsz
  have hD := hD0.self (sz := s.heap.size)
  generalize hAe : va_A [(h0, .inr (5, [.ref qT, .int 0, .ref qF, .int 0, .int 0, .int ((-1)), .int 0, .ref qN, .int 0, .ref qR, .int 0, .int 0, .ref qC]))] s.heap.size = A at hD ⊢
  have hA : ∀ q : Nat, s.heap.size ≤ q → A q := fun q h => by rw [← hAe]; exact Or.inr h
  have hS : va_S A s.heap s.heap [] := va_S.rf
  have hP : va_P (dC, dI) vwCl [(h0, .inr (5, [.ref qT, .int 0, .ref qF, .int 0, .int 0, .int ((-1)), .int 0, .ref qN, .int 0, .ref qR, .int 0, .int 0, .ref qC]))] s.heap := hP
  have hl := lv_entry ([.ref h0, .int p0, .int p1]) (n := 3) (Nat.le_of_ble_eq_true rfl)
  rw [lg_entry_eq]
  generalize (lg_sl ([.ref h0, .int p0, .int p1]) ++ List.replicate (3 - (lg_sl ([.ref h0, .int p0, .int p1])).length) Slot.unset).toArray = ls at hl ⊢
  have hl : lv_has ls 3 [(0, .ref h0), (1, .int p0), (2, .int p1)] := hl
  refine lv_aload_n hx hb dX5_points_0 rfl (lv_at hl 0 rfl) ?_
  refine lv_iload_n hx hb dX5_points_1 rfl (lv_at hl 1 rfl) ?_
  have hPc := hP.sub (ws' := [(h0, .inr (5, [.ref qT, .int 0, .ref qF, .int 0, .int 0, .int ((-1)), .int 0, .ref qN, .int 0, .ref qR, .int 0, .int 0, .ref qC]))]) [0] rfl
  have hDc := hD.sub (ws' := [(h0, .inr (5, [.ref qT, .int 0, .ref qF, .int 0, .int 0, .int ((-1)), .int 0, .ref qN, .int 0, .ref qR, .int 0, .int 0, .ref qC]))]) [0] (by decide) rfl
  have hKc := hK.sub (tys' := []) [] rfl
  have hFc := va_free (wc := [(h0, .inr (5, [.ref qT, .int 0, .ref qF, .int 0, .int 0, .int ((-1)), .int 0, .ref qN, .int 0, .ref qR, .int 0, .int 0, .ref qC]))]) hD hS hA [0] rfl
  refine va_calli (va_runV (As := [.int p0]) (rest := []) ⟨hx, hb, hml, hown, hts⟩ (c_X5_isRacer l dC dI h0 qT qF qN qR qC p0 s.heap.size) (cwV 1 hts gX5_points_c_X5_isRacer_2 rfl rfl rfl (by decide +kernel) ⟨Nat.le_of_ble_eq_true rfl, Nat.le_of_ble_eq_true rfl⟩) ⟨fun a U g mk q => by obtain ⟨q0, q1, qP, qK, qD⟩ := q; exact ⟨q0, q1, qP, va_K.moved (u := U) (U := U.calling g mk a) (Vm.Alike.refl U.vm) qK, qD⟩, va_recv hKc hPc (ci := 5) (q0 := 0) rfl rfl, fun U hU hW => ⟨rfl, by rw [hU], by rw [hU]; exact hPc, va_K.moved hW.alike hKc, hDc.weaken (fun _ _ _ _ => trivial)⟩⟩ rfl rfl hl.1 rfl (lv_room (Nat.le_of_ble_eq_true rfl)) dX5_points_2 ⟨show (0 + 0 : Nat) ≤ 0 from by omega, show (0 + 0 : Nat) ≤ 0 from by omega⟩) hS (fun q _ h => hFc q h) hFc (fun r_1 u t H1 locs ht hvm hw hB hz1 hk1 hS => ?_)
  obtain ⟨hP1, hK1, hD1⟩ := hB
  rw [ht] at hP1
  have hK1 := va_K.moved hvm.symm hK1
  try dsimp only at hw
  obtain ⟨hP, hD⟩ := va_join (wr := []) (w1 := [(h0, .inr (5, [.ref qT, .int 0, .ref qF, .int 0, .int 0, .int ((-1)), .int 0, .ref qN, .int 0, .ref qR, .int 0, .int 0, .ref qC]))]) hP hD [0] [] rfl rfl (by decide) (by decide) hk1 hFc hP1 hD1
  generalize H1 = H at hP hS ⊢
  have hP : va_P (dC, dI) vwCl [(h0, .inr (5, [.ref qT, .int 0, .ref qF, .int 0, .int 0, .int ((-1)), .int 0, .ref qN, .int 0, .ref qR, .int 0, .int 0, .ref qC]))] H := hP
  have hD : va_D A [(h0, .inr (5, [.ref qT, .int 0, .ref qF, .int 0, .int 0, .int ((-1)), .int 0, .ref qN, .int 0, .ref qR, .int 0, .int 0, .ref qC]))] := hD
  have hw_3 := hw
  subst hw_3
  refine lv_if_eq (tgt := 16) hx hb dX5_points_5 (by decide) (fun c_4 => ?_) (fun c_4 => absurd (by decide) c_4)
  refine lv_iconst (v := (-1)) hx hb dX5_points_16 (by decide) ?_
  exact W.iret (v := (-1)) hx hb hr (fun t ht hW => ⟨⟨(-1), (), rfl, rfl, trivial⟩, hS.F ht⟩) hS.2.2 dX5_points_17
def wX5_standing : List Cond := .code yX5_standing cX5_standing 3 (some .int) :: ([.methodLink RX5 93 yX5_isRacer, .instanceMethod yX5_isRacer, .selects RX5 yX5_isRacer yX5_isRacer, .initialized RX5, .code yX5_isRacer cX5_isRacer 2 (some .boolean), .fieldLink RX5 77 "SkiShots" "racerCount" "I"] ++ wsX50)
set_option maxRecDepth 20000 in
theorem gX5_standing_c_X5_isRacer_2 : GoodIn wX5_standing (wsV RX5 93 RX5 yX5_isRacer wX5_isRacer) := goodIn_p _ [5] rfl (by decide +kernel)
set_option maxHeartbeats 4000000 in
set_option maxRecDepth 100000 in
theorem c_X5_standing (l : Launch) (dC : Nat → ClassId) (dI : Nat → Nat → Nat) (h0 : Nat) (qT : Nat) (qF : Nat) (qN : Nat) (qR : Nat) (qC : Nat) (p0 : Int32) (p1 : Int32) (sz : Nat) : Met l yX5_standing wX5_standing ({ frames := 1, cells := 0, slots := 0, locals := 21 }) (va_Pc [.ref h0, .int p0, .int p1] (fun U => U.heap.size = sz ∧ va_P (dC, dI) vwCl [(h0, .inr (5, [.ref qT, .int 0, .ref qF, .int 0, .int 0, .int ((-1)), .int 0, .ref qN, .int 0, .ref qR, .int 0, .int 0, .ref qC]))] U.heap ∧ va_K (dC, dI) vwCl [] U ∧ va_D (fun _ => True) [(h0, .inr (5, [.ref qT, .int 0, .ref qF, .int 0, .int 0, .int ((-1)), .int 0, .ref qN, .int 0, .ref qR, .int 0, .int 0, .ref qC]))])) (va_Qi (fun (r : Int32) (_ : Unit) => r = -1) (fun _ t => True) (va_A [(h0, .inr (5, [.ref qT, .int 0, .ref qF, .int 0, .int 0, .int ((-1)), .int 0, .ref qN, .int 0, .ref qR, .int 0, .int 0, .ref qC]))] sz)) 0 0 (va_A [(h0, .inr (5, [.ref qT, .int 0, .ref qF, .int 0, .int 0, .int ((-1)), .int 0, .ref qN, .int 0, .ref qR, .int 0, .int 0, .ref qC]))] sz) := by
  refine Met.ofW (cc := cX5_standing) (maxL := 3) (ret := (some .int)) (by decide) rfl ?_
  intro p e s m args below meth c s₁ B hml hv
  obtain ⟨rfl, hsz, hP, hK, hD0⟩ := hv
  have hx := B.exec
  have hb := B.bytes
  have hr := B.returns
  have hts := atoms_spec (ws := wX5_standing) B.pre
  have hown : s.vm.findClass RX5 = some m.cls := findClass_of_methodNamed B.named
  have hlocks := B.notSynchronized
  subst hsz
  have hD := hD0.self (sz := s.heap.size)
  generalize hAe : va_A [(h0, .inr (5, [.ref qT, .int 0, .ref qF, .int 0, .int 0, .int ((-1)), .int 0, .ref qN, .int 0, .ref qR, .int 0, .int 0, .ref qC]))] s.heap.size = A at hD ⊢
  have hA : ∀ q : Nat, s.heap.size ≤ q → A q := fun q h => by rw [← hAe]; exact Or.inr h
  have hS : va_S A s.heap s.heap [] := va_S.rf
  have hP : va_P (dC, dI) vwCl [(h0, .inr (5, [.ref qT, .int 0, .ref qF, .int 0, .int 0, .int ((-1)), .int 0, .ref qN, .int 0, .ref qR, .int 0, .int 0, .ref qC]))] s.heap := hP
  have hl := lv_entry ([.ref h0, .int p0, .int p1]) (n := 3) (Nat.le_of_ble_eq_true rfl)
  rw [lg_entry_eq]
  generalize (lg_sl ([.ref h0, .int p0, .int p1]) ++ List.replicate (3 - (lg_sl ([.ref h0, .int p0, .int p1])).length) Slot.unset).toArray = ls at hl ⊢
  have hl : lv_has ls 3 [(0, .ref h0), (1, .int p0), (2, .int p1)] := hl
  refine lv_aload_n hx hb dX5_standing_0 rfl (lv_at hl 0 rfl) ?_
  refine lv_iload_n hx hb dX5_standing_1 rfl (lv_at hl 1 rfl) ?_
  have hPc := hP.sub (ws' := [(h0, .inr (5, [.ref qT, .int 0, .ref qF, .int 0, .int 0, .int ((-1)), .int 0, .ref qN, .int 0, .ref qR, .int 0, .int 0, .ref qC]))]) [0] rfl
  have hDc := hD.sub (ws' := [(h0, .inr (5, [.ref qT, .int 0, .ref qF, .int 0, .int 0, .int ((-1)), .int 0, .ref qN, .int 0, .ref qR, .int 0, .int 0, .ref qC]))]) [0] (by decide) rfl
  have hKc := hK.sub (tys' := []) [] rfl
  have hFc := va_free (wc := [(h0, .inr (5, [.ref qT, .int 0, .ref qF, .int 0, .int 0, .int ((-1)), .int 0, .ref qN, .int 0, .ref qR, .int 0, .int 0, .ref qC]))]) hD hS hA [0] rfl
  refine va_calli (va_runV (As := [.int p0]) (rest := []) ⟨hx, hb, hml, hown, hts⟩ (c_X5_isRacer l dC dI h0 qT qF qN qR qC p0 s.heap.size) (cwV 1 hts gX5_standing_c_X5_isRacer_2 rfl rfl rfl (by decide +kernel) ⟨Nat.le_of_ble_eq_true rfl, Nat.le_of_ble_eq_true rfl⟩) ⟨fun a U g mk q => by obtain ⟨q0, q1, qP, qK, qD⟩ := q; exact ⟨q0, q1, qP, va_K.moved (u := U) (U := U.calling g mk a) (Vm.Alike.refl U.vm) qK, qD⟩, va_recv hKc hPc (ci := 5) (q0 := 0) rfl rfl, fun U hU hW => ⟨rfl, by rw [hU], by rw [hU]; exact hPc, va_K.moved hW.alike hKc, hDc.weaken (fun _ _ _ _ => trivial)⟩⟩ rfl rfl hl.1 rfl (lv_room (Nat.le_of_ble_eq_true rfl)) dX5_standing_2 ⟨show (0 + 0 : Nat) ≤ 0 from by omega, show (0 + 0 : Nat) ≤ 0 from by omega⟩) hS (fun q _ h => hFc q h) hFc (fun r_1 u t H1 locs ht hvm hw hB hz1 hk1 hS => ?_)
  obtain ⟨hP1, hK1, hD1⟩ := hB
  rw [ht] at hP1
  have hK1 := va_K.moved hvm.symm hK1
  try dsimp only at hw
  obtain ⟨hP, hD⟩ := va_join (wr := []) (w1 := [(h0, .inr (5, [.ref qT, .int 0, .ref qF, .int 0, .int 0, .int ((-1)), .int 0, .ref qN, .int 0, .ref qR, .int 0, .int 0, .ref qC]))]) hP hD [0] [] rfl rfl (by decide) (by decide) hk1 hFc hP1 hD1
  generalize H1 = H at hP hS ⊢
  have hP : va_P (dC, dI) vwCl [(h0, .inr (5, [.ref qT, .int 0, .ref qF, .int 0, .int 0, .int ((-1)), .int 0, .ref qN, .int 0, .ref qR, .int 0, .int 0, .ref qC]))] H := hP
  have hD : va_D A [(h0, .inr (5, [.ref qT, .int 0, .ref qF, .int 0, .int 0, .int ((-1)), .int 0, .ref qN, .int 0, .ref qR, .int 0, .int 0, .ref qC]))] := hD
  have hw_3 := hw
  subst hw_3
  refine lv_if_eq (tgt := 16) hx hb dX5_standing_5 (by decide) (fun c_4 => ?_) (fun c_4 => absurd (by decide) c_4)
  refine lv_iconst (v := (-1)) hx hb dX5_standing_16 (by decide) ?_
  exact W.iret (v := (-1)) hx hb hr (fun t ht hW => ⟨⟨(-1), (), rfl, rfl, trivial⟩, hS.F ht⟩) hS.2.2 dX5_standing_17
def wX5_time : List Cond := .code yX5_time cX5_time 7 (some .int) :: ([.methodLink RX5 83 yX5_raceAt, .instanceMethod yX5_raceAt, .selects RX5 yX5_raceAt yX5_raceAt, .initialized RX5, .code yX5_raceAt cX5_raceAt 2 (some (.object "SkiShots$Race")), .fieldLink RX5 80 "SkiShots" "raceCount" "I"] ++ wsX50)
set_option maxRecDepth 20000 in
theorem gX5_time_c_X5_raceAt_2 : GoodIn wX5_time (wsV RX5 83 RX5 yX5_raceAt wX5_raceAt) := goodIn_p _ [5] rfl (by decide +kernel)
set_option maxHeartbeats 4000000 in
set_option maxRecDepth 100000 in
theorem c_X5_time (l : Launch) (dC : Nat → ClassId) (dI : Nat → Nat → Nat) (h0 : Nat) (qT : Nat) (qF : Nat) (qN : Nat) (qR : Nat) (qC : Nat) (p0 : Int32) (p1 : Int32) (p2 : Int32) (p3 : Int32) (sz : Nat) : Met l yX5_time wX5_time ({ frames := 1, cells := 0, slots := 0, locals := 21 }) (va_Pc [.ref h0, .int p0, .int p1, .int p2, .int p3] (fun U => U.heap.size = sz ∧ va_P (dC, dI) vwCl [(h0, .inr (5, [.ref qT, .int 0, .ref qF, .int 0, .int 0, .int ((-1)), .int 0, .ref qN, .int 0, .ref qR, .int 0, .int 0, .ref qC]))] U.heap ∧ va_K (dC, dI) vwCl [] U ∧ va_D (fun _ => True) [(h0, .inr (5, [.ref qT, .int 0, .ref qF, .int 0, .int 0, .int ((-1)), .int 0, .ref qN, .int 0, .ref qR, .int 0, .int 0, .ref qC]))])) (va_Qi (fun (r : Int32) (_ : Unit) => r = -2) (fun _ t => True) (va_A [(h0, .inr (5, [.ref qT, .int 0, .ref qF, .int 0, .int 0, .int ((-1)), .int 0, .ref qN, .int 0, .ref qR, .int 0, .int 0, .ref qC]))] sz)) 0 0 (va_A [(h0, .inr (5, [.ref qT, .int 0, .ref qF, .int 0, .int 0, .int ((-1)), .int 0, .ref qN, .int 0, .ref qR, .int 0, .int 0, .ref qC]))] sz) := by
  refine Met.ofW (cc := cX5_time) (maxL := 7) (ret := (some .int)) (by decide) rfl ?_
  intro p e s m args below meth c s₁ B hml hv
  obtain ⟨rfl, hsz, hP, hK, hD0⟩ := hv
  have hx := B.exec
  have hb := B.bytes
  have hr := B.returns
  have hts := atoms_spec (ws := wX5_time) B.pre
  have hown : s.vm.findClass RX5 = some m.cls := findClass_of_methodNamed B.named
  have hlocks := B.notSynchronized
  subst hsz
  have hD := hD0.self (sz := s.heap.size)
  generalize hAe : va_A [(h0, .inr (5, [.ref qT, .int 0, .ref qF, .int 0, .int 0, .int ((-1)), .int 0, .ref qN, .int 0, .ref qR, .int 0, .int 0, .ref qC]))] s.heap.size = A at hD ⊢
  have hA : ∀ q : Nat, s.heap.size ≤ q → A q := fun q h => by rw [← hAe]; exact Or.inr h
  have hS : va_S A s.heap s.heap [] := va_S.rf
  have hP : va_P (dC, dI) vwCl [(h0, .inr (5, [.ref qT, .int 0, .ref qF, .int 0, .int 0, .int ((-1)), .int 0, .ref qN, .int 0, .ref qR, .int 0, .int 0, .ref qC]))] s.heap := hP
  have hl := lv_entry ([.ref h0, .int p0, .int p1, .int p2, .int p3]) (n := 7) (Nat.le_of_ble_eq_true rfl)
  rw [lg_entry_eq]
  generalize (lg_sl ([.ref h0, .int p0, .int p1, .int p2, .int p3]) ++ List.replicate (7 - (lg_sl ([.ref h0, .int p0, .int p1, .int p2, .int p3])).length) Slot.unset).toArray = ls at hl ⊢
  have hl : lv_has ls 7 [(0, .ref h0), (1, .int p0), (2, .int p1), (3, .int p2), (4, .int p3)] := hl
  refine lv_aload_n hx hb dX5_time_0 rfl (lv_at hl 0 rfl) ?_
  refine lv_iload_n hx hb dX5_time_1 rfl (lv_at hl 1 rfl) ?_
  have hPc := hP.sub (ws' := [(h0, .inr (5, [.ref qT, .int 0, .ref qF, .int 0, .int 0, .int ((-1)), .int 0, .ref qN, .int 0, .ref qR, .int 0, .int 0, .ref qC]))]) [0] rfl
  have hDc := hD.sub (ws' := [(h0, .inr (5, [.ref qT, .int 0, .ref qF, .int 0, .int 0, .int ((-1)), .int 0, .ref qN, .int 0, .ref qR, .int 0, .int 0, .ref qC]))]) [0] (by decide) rfl
  have hKc := hK.sub (tys' := []) [] rfl
  have hFc := va_free (wc := [(h0, .inr (5, [.ref qT, .int 0, .ref qF, .int 0, .int 0, .int ((-1)), .int 0, .ref qN, .int 0, .ref qR, .int 0, .int 0, .ref qC]))]) hD hS hA [0] rfl
  refine va_callq (va_runV (As := [.int p0]) (rest := []) ⟨hx, hb, hml, hown, hts⟩ (c_X5_raceAt l dC dI h0 qT qF qN qR qC p0 s.heap.size) (cwV 1 hts gX5_time_c_X5_raceAt_2 rfl rfl rfl (by decide +kernel) ⟨Nat.le_of_ble_eq_true rfl, Nat.le_of_ble_eq_true rfl⟩) ⟨fun a U g mk q => by obtain ⟨q0, q1, qP, qK, qD⟩ := q; exact ⟨q0, q1, qP, va_K.moved (u := U) (U := U.calling g mk a) (Vm.Alike.refl U.vm) qK, qD⟩, va_recv hKc hPc (ci := 5) (q0 := 0) rfl rfl, fun U hU hW => ⟨rfl, by rw [hU], by rw [hU]; exact hPc, va_K.moved hW.alike hKc, hDc.weaken (fun _ _ _ _ => trivial)⟩⟩ rfl rfl hl.1 rfl (lv_room (Nat.le_of_ble_eq_true rfl)) dX5_time_2 ⟨show (0 + 0 : Nat) ≤ 0 from by omega, show (0 + 0 : Nat) ≤ 0 from by omega⟩) hS (fun q _ h => hFc q h) hFc (fun r_1 u t H1 locs ht hvm hw hB hz1 hk1 hS => ?_)
  obtain ⟨hP1, hK1, hD1⟩ := hB
  rw [ht] at hP1
  have hK1 := va_K.moved hvm.symm hK1
  try dsimp only at hw
  obtain ⟨hP, hD⟩ := va_join (wr := []) (w1 := [(h0, .inr (5, [.ref qT, .int 0, .ref qF, .int 0, .int 0, .int ((-1)), .int 0, .ref qN, .int 0, .ref qR, .int 0, .int 0, .ref qC]))]) hP hD [0] [] rfl rfl (by decide) (by decide) hk1 hFc hP1 hD1
  generalize H1 = H at hP hS ⊢
  have hP : va_P (dC, dI) vwCl [(h0, .inr (5, [.ref qT, .int 0, .ref qF, .int 0, .int 0, .int ((-1)), .int 0, .ref qN, .int 0, .ref qR, .int 0, .int 0, .ref qC]))] H := hP
  have hD : va_D A [(h0, .inr (5, [.ref qT, .int 0, .ref qF, .int 0, .int 0, .int ((-1)), .int 0, .ref qN, .int 0, .ref qR, .int 0, .int 0, .ref qC]))] := hD
  have hw_3 := hw
  subst hw_3
  show W _ _ _ _ _ _ _ _ _ _ _ _ _ _ _ (F0 m 5 ls [.null])
  refine lv_astoreN (lv' := [(5, .null), (0, .ref h0), (1, .int p0), (2, .int p1), (3, .int p2), (4, .int p3)]) hx hb dX5_time_5 hl (by decide) rfl (fun ls hl => ?_)
  refine lv_aloadN hx hb dX5_time_7 (lv_at hl 0 rfl) ?_
  refine lv_ifnullN (tgt := 20) hx hb dX5_time_9 (by decide) ?_
  refine lv_bipush (v := (-2)) hx hb dX5_time_20 (by decide) ?_
  exact W.iret (v := (-2)) hx hb hr (fun t ht hW => ⟨⟨(-2), (), rfl, rfl, trivial⟩, hS.F ht⟩) hS.2.2 dX5_time_22
def wX5_split : List Cond := .code yX5_split cX5_split 7 (some .int) :: ([.methodLink RX5 83 yX5_raceAt, .instanceMethod yX5_raceAt, .selects RX5 yX5_raceAt yX5_raceAt, .initialized RX5, .code yX5_raceAt cX5_raceAt 2 (some (.object "SkiShots$Race")), .fieldLink RX5 80 "SkiShots" "raceCount" "I"] ++ wsX50)
set_option maxRecDepth 20000 in
theorem gX5_split_c_X5_raceAt_2 : GoodIn wX5_split (wsV RX5 83 RX5 yX5_raceAt wX5_raceAt) := goodIn_p _ [5] rfl (by decide +kernel)
set_option maxHeartbeats 4000000 in
set_option maxRecDepth 100000 in
theorem c_X5_split (l : Launch) (dC : Nat → ClassId) (dI : Nat → Nat → Nat) (h0 : Nat) (qT : Nat) (qF : Nat) (qN : Nat) (qR : Nat) (qC : Nat) (p0 : Int32) (p1 : Int32) (p2 : Int32) (p3 : Int32) (sz : Nat) : Met l yX5_split wX5_split ({ frames := 1, cells := 0, slots := 0, locals := 21 }) (va_Pc [.ref h0, .int p0, .int p1, .int p2, .int p3] (fun U => U.heap.size = sz ∧ va_P (dC, dI) vwCl [(h0, .inr (5, [.ref qT, .int 0, .ref qF, .int 0, .int 0, .int ((-1)), .int 0, .ref qN, .int 0, .ref qR, .int 0, .int 0, .ref qC]))] U.heap ∧ va_K (dC, dI) vwCl [] U ∧ va_D (fun _ => True) [(h0, .inr (5, [.ref qT, .int 0, .ref qF, .int 0, .int 0, .int ((-1)), .int 0, .ref qN, .int 0, .ref qR, .int 0, .int 0, .ref qC]))])) (va_Qi (fun (r : Int32) (_ : Unit) => r = -2) (fun _ t => True) (va_A [(h0, .inr (5, [.ref qT, .int 0, .ref qF, .int 0, .int 0, .int ((-1)), .int 0, .ref qN, .int 0, .ref qR, .int 0, .int 0, .ref qC]))] sz)) 0 0 (va_A [(h0, .inr (5, [.ref qT, .int 0, .ref qF, .int 0, .int 0, .int ((-1)), .int 0, .ref qN, .int 0, .ref qR, .int 0, .int 0, .ref qC]))] sz) := by
  refine Met.ofW (cc := cX5_split) (maxL := 7) (ret := (some .int)) (by decide) rfl ?_
  intro p e s m args below meth c s₁ B hml hv
  obtain ⟨rfl, hsz, hP, hK, hD0⟩ := hv
  have hx := B.exec
  have hb := B.bytes
  have hr := B.returns
  have hts := atoms_spec (ws := wX5_split) B.pre
  have hown : s.vm.findClass RX5 = some m.cls := findClass_of_methodNamed B.named
  have hlocks := B.notSynchronized
  subst hsz
  have hD := hD0.self (sz := s.heap.size)
  generalize hAe : va_A [(h0, .inr (5, [.ref qT, .int 0, .ref qF, .int 0, .int 0, .int ((-1)), .int 0, .ref qN, .int 0, .ref qR, .int 0, .int 0, .ref qC]))] s.heap.size = A at hD ⊢
  have hA : ∀ q : Nat, s.heap.size ≤ q → A q := fun q h => by rw [← hAe]; exact Or.inr h
  have hS : va_S A s.heap s.heap [] := va_S.rf
  have hP : va_P (dC, dI) vwCl [(h0, .inr (5, [.ref qT, .int 0, .ref qF, .int 0, .int 0, .int ((-1)), .int 0, .ref qN, .int 0, .ref qR, .int 0, .int 0, .ref qC]))] s.heap := hP
  have hl := lv_entry ([.ref h0, .int p0, .int p1, .int p2, .int p3]) (n := 7) (Nat.le_of_ble_eq_true rfl)
  rw [lg_entry_eq]
  generalize (lg_sl ([.ref h0, .int p0, .int p1, .int p2, .int p3]) ++ List.replicate (7 - (lg_sl ([.ref h0, .int p0, .int p1, .int p2, .int p3])).length) Slot.unset).toArray = ls at hl ⊢
  have hl : lv_has ls 7 [(0, .ref h0), (1, .int p0), (2, .int p1), (3, .int p2), (4, .int p3)] := hl
  refine lv_aload_n hx hb dX5_split_0 rfl (lv_at hl 0 rfl) ?_
  refine lv_iload_n hx hb dX5_split_1 rfl (lv_at hl 1 rfl) ?_
  have hPc := hP.sub (ws' := [(h0, .inr (5, [.ref qT, .int 0, .ref qF, .int 0, .int 0, .int ((-1)), .int 0, .ref qN, .int 0, .ref qR, .int 0, .int 0, .ref qC]))]) [0] rfl
  have hDc := hD.sub (ws' := [(h0, .inr (5, [.ref qT, .int 0, .ref qF, .int 0, .int 0, .int ((-1)), .int 0, .ref qN, .int 0, .ref qR, .int 0, .int 0, .ref qC]))]) [0] (by decide) rfl
  have hKc := hK.sub (tys' := []) [] rfl
  have hFc := va_free (wc := [(h0, .inr (5, [.ref qT, .int 0, .ref qF, .int 0, .int 0, .int ((-1)), .int 0, .ref qN, .int 0, .ref qR, .int 0, .int 0, .ref qC]))]) hD hS hA [0] rfl
  refine va_callq (va_runV (As := [.int p0]) (rest := []) ⟨hx, hb, hml, hown, hts⟩ (c_X5_raceAt l dC dI h0 qT qF qN qR qC p0 s.heap.size) (cwV 1 hts gX5_split_c_X5_raceAt_2 rfl rfl rfl (by decide +kernel) ⟨Nat.le_of_ble_eq_true rfl, Nat.le_of_ble_eq_true rfl⟩) ⟨fun a U g mk q => by obtain ⟨q0, q1, qP, qK, qD⟩ := q; exact ⟨q0, q1, qP, va_K.moved (u := U) (U := U.calling g mk a) (Vm.Alike.refl U.vm) qK, qD⟩, va_recv hKc hPc (ci := 5) (q0 := 0) rfl rfl, fun U hU hW => ⟨rfl, by rw [hU], by rw [hU]; exact hPc, va_K.moved hW.alike hKc, hDc.weaken (fun _ _ _ _ => trivial)⟩⟩ rfl rfl hl.1 rfl (lv_room (Nat.le_of_ble_eq_true rfl)) dX5_split_2 ⟨show (0 + 0 : Nat) ≤ 0 from by omega, show (0 + 0 : Nat) ≤ 0 from by omega⟩) hS (fun q _ h => hFc q h) hFc (fun r_1 u t H1 locs ht hvm hw hB hz1 hk1 hS => ?_)
  obtain ⟨hP1, hK1, hD1⟩ := hB
  rw [ht] at hP1
  have hK1 := va_K.moved hvm.symm hK1
  try dsimp only at hw
  obtain ⟨hP, hD⟩ := va_join (wr := []) (w1 := [(h0, .inr (5, [.ref qT, .int 0, .ref qF, .int 0, .int 0, .int ((-1)), .int 0, .ref qN, .int 0, .ref qR, .int 0, .int 0, .ref qC]))]) hP hD [0] [] rfl rfl (by decide) (by decide) hk1 hFc hP1 hD1
  generalize H1 = H at hP hS ⊢
  have hP : va_P (dC, dI) vwCl [(h0, .inr (5, [.ref qT, .int 0, .ref qF, .int 0, .int 0, .int ((-1)), .int 0, .ref qN, .int 0, .ref qR, .int 0, .int 0, .ref qC]))] H := hP
  have hD : va_D A [(h0, .inr (5, [.ref qT, .int 0, .ref qF, .int 0, .int 0, .int ((-1)), .int 0, .ref qN, .int 0, .ref qR, .int 0, .int 0, .ref qC]))] := hD
  have hw_3 := hw
  subst hw_3
  show W _ _ _ _ _ _ _ _ _ _ _ _ _ _ _ (F0 m 5 ls [.null])
  refine lv_astoreN (lv' := [(5, .null), (0, .ref h0), (1, .int p0), (2, .int p1), (3, .int p2), (4, .int p3)]) hx hb dX5_split_5 hl (by decide) rfl (fun ls hl => ?_)
  refine lv_aloadN hx hb dX5_split_7 (lv_at hl 0 rfl) ?_
  refine lv_ifnullN (tgt := 34) hx hb dX5_split_9 (by decide) ?_
  refine lv_bipush (v := (-2)) hx hb dX5_split_34 (by decide) ?_
  exact W.iret (v := (-2)) hx hb hr (fun t ht hW => ⟨⟨(-2), (), rfl, rfl, trivial⟩, hS.F ht⟩) hS.2.2 dX5_split_36
def wX5_workOut : List Cond := .code yX5_workOut cX5_workOut 4 none :: ([])
set_option maxHeartbeats 4000000 in
set_option maxRecDepth 100000 in
theorem c_X5_workOut (l : Launch) (dC : Nat → ClassId) (dI : Nat → Nat → Nat) (h0 : Nat) (qT : Nat) (qF : Nat) (qN : Nat) (qR : Nat) (qC : Nat) (p0 : Int32) (sz : Nat) : Met l yX5_workOut wX5_workOut ({ frames := 0, cells := 0, slots := 0, locals := 0 }) (va_Pc [.ref h0, .int 0, .int p0] (fun U => U.heap.size = sz ∧ va_P (dC, dI) vwCl [(h0, .inr (5, [.ref qT, .int 0, .ref qF, .int 0, .int 0, .int ((-1)), .int 0, .ref qN, .int 0, .ref qR, .int 0, .int 0, .ref qC]))] U.heap ∧ va_K (dC, dI) vwCl [] U ∧ va_D (fun _ => True) [(h0, .inr (5, [.ref qT, .int 0, .ref qF, .int 0, .int 0, .int ((-1)), .int 0, .ref qN, .int 0, .ref qR, .int 0, .int 0, .ref qC]))])) (va_Qv (fun (_ : Unit) => True) (fun _ t => va_P (dC, dI) vwCl [(h0, .inr (5, [.ref qT, .int 0, .ref qF, .int 0, .int 0, .int ((-1)), .int 0, .ref qN, .int 0, .ref qR, .int 0, .int 0, .ref qC]))] t.heap ∧ va_K (dC, dI) vwCl [] t ∧ va_D (va_A [(h0, .inr (5, [.ref qT, .int 0, .ref qF, .int 0, .int 0, .int ((-1)), .int 0, .ref qN, .int 0, .ref qR, .int 0, .int 0, .ref qC]))] sz) [(h0, .inr (5, [.ref qT, .int 0, .ref qF, .int 0, .int 0, .int ((-1)), .int 0, .ref qN, .int 0, .ref qR, .int 0, .int 0, .ref qC]))]) (va_A [(h0, .inr (5, [.ref qT, .int 0, .ref qF, .int 0, .int 0, .int ((-1)), .int 0, .ref qN, .int 0, .ref qR, .int 0, .int 0, .ref qC]))] sz)) 0 0 (va_A [(h0, .inr (5, [.ref qT, .int 0, .ref qF, .int 0, .int 0, .int ((-1)), .int 0, .ref qN, .int 0, .ref qR, .int 0, .int 0, .ref qC]))] sz) := by
  refine Met.ofW (cc := cX5_workOut) (maxL := 4) (ret := none) (by decide) rfl ?_
  intro p e s m args below meth c s₁ B hml hv
  obtain ⟨rfl, hsz, hP, hK, hD0⟩ := hv
  have hx := B.exec
  have hb := B.bytes
  have hr := B.returns
  have hts := atoms_spec (ws := wX5_workOut) B.pre
  have hown : s.vm.findClass RX5 = some m.cls := findClass_of_methodNamed B.named
  have hlocks := B.notSynchronized
  subst hsz
  have hD := hD0.self (sz := s.heap.size)
  generalize hAe : va_A [(h0, .inr (5, [.ref qT, .int 0, .ref qF, .int 0, .int 0, .int ((-1)), .int 0, .ref qN, .int 0, .ref qR, .int 0, .int 0, .ref qC]))] s.heap.size = A at hD ⊢
  have hA : ∀ q : Nat, s.heap.size ≤ q → A q := fun q h => by rw [← hAe]; exact Or.inr h
  have hS : va_S A s.heap s.heap [] := va_S.rf
  have hP : va_P (dC, dI) vwCl [(h0, .inr (5, [.ref qT, .int 0, .ref qF, .int 0, .int 0, .int ((-1)), .int 0, .ref qN, .int 0, .ref qR, .int 0, .int 0, .ref qC]))] s.heap := hP
  have hl := lv_entry ([.ref h0, .int 0, .int p0]) (n := 4) (Nat.le_of_ble_eq_true rfl)
  rw [lg_entry_eq]
  generalize (lg_sl ([.ref h0, .int 0, .int p0]) ++ List.replicate (4 - (lg_sl ([.ref h0, .int 0, .int p0])).length) Slot.unset).toArray = ls at hl ⊢
  have hl : lv_has ls 4 [(0, .ref h0), (1, .int 0), (2, .int p0)] := hl
  refine lv_iconst (v := 0) hx hb dX5_workOut_0 (by decide) ?_
  refine lv_istore_n (lv' := [(3, .int 0), (0, .ref h0), (1, .int 0), (2, .int p0)]) hx hb dX5_workOut_1 rfl hl (by decide) rfl (fun ls hl => ?_)
  refine lv_iload_n hx hb dX5_workOut_2 rfl (lv_at hl 0 rfl) ?_
  refine lv_iload_n hx hb dX5_workOut_3 rfl (lv_at hl 2 rfl) ?_
  refine lv_icmp_ge (tgt := 31) hx hb dX5_workOut_4 (by decide) (fun c_1 => ?_) (fun c_1 => absurd (by decide) c_1)
  have hP9 := hP.sub (ws' := [(h0, .inr (5, [.ref qT, .int 0, .ref qF, .int 0, .int 0, .int ((-1)), .int 0, .ref qN, .int 0, .ref qR, .int 0, .int 0, .ref qC]))]) [0] rfl
  have hD9 := hD.sub (ws' := [(h0, .inr (5, [.ref qT, .int 0, .ref qF, .int 0, .int 0, .int ((-1)), .int 0, .ref qN, .int 0, .ref qR, .int 0, .int 0, .ref qC]))]) [0] (by decide) rfl
  have hK9 := hK.sub (tys' := []) [] rfl
  exact W.vret hx hb hr (fun t ht hW => ⟨⟨(), rfl, trivial, by rw [ht]; exact hP9, va_K.moved hW.alike hK9, hD9⟩, hS.F ht⟩) hS.2.2 dX5_workOut_31
def wX5_addUpCup : List Cond := .code yX5_addUpCup cX5_addUpCup 3 none :: ([.fieldLink RX5 80 "SkiShots" "raceCount" "I", .fieldLink RX5 77 "SkiShots" "racerCount" "I", .methodLink RX5 171 yX5_workOut, .instanceMethod yX5_workOut, .selects RX5 yX5_workOut yX5_workOut, .initialized RX5, .code yX5_workOut cX5_workOut 4 none] ++ wsX50)
set_option maxRecDepth 20000 in
theorem gX5_addUpCup_c_X5_workOut_2 : GoodIn wX5_addUpCup (wsV RX5 171 RX5 yX5_workOut wX5_workOut) := goodIn_p _ [7] rfl (by decide +kernel)
set_option maxHeartbeats 4000000 in
set_option maxRecDepth 100000 in
theorem c_X5_addUpCup (l : Launch) (dC : Nat → ClassId) (dI : Nat → Nat → Nat) (h0 : Nat) (qT : Nat) (qF : Nat) (qN : Nat) (qR : Nat) (qC : Nat) (p0 : Int32) (sz : Nat) : Met l yX5_addUpCup wX5_addUpCup ({ frames := 1, cells := 0, slots := 0, locals := 23 }) (va_Pc [.ref h0, .int p0] (fun U => U.heap.size = sz ∧ va_P (dC, dI) vwCl [(h0, .inr (5, [.ref qT, .int 0, .ref qF, .int 0, .int 0, .int ((-1)), .int 0, .ref qN, .int 0, .ref qR, .int 0, .int 0, .ref qC]))] U.heap ∧ va_K (dC, dI) vwCl [] U ∧ va_D (fun _ => True) [(h0, .inr (5, [.ref qT, .int 0, .ref qF, .int 0, .int 0, .int ((-1)), .int 0, .ref qN, .int 0, .ref qR, .int 0, .int 0, .ref qC]))])) (va_Qv (fun (_ : Unit) => True) (fun _ t => va_P (dC, dI) vwCl [(h0, .inr (5, [.ref qT, .int 0, .ref qF, .int 0, .int 0, .int ((-1)), .int 0, .ref qN, .int 0, .ref qR, .int 0, .int 0, .ref qC]))] t.heap ∧ va_K (dC, dI) vwCl [] t ∧ va_D (va_A [(h0, .inr (5, [.ref qT, .int 0, .ref qF, .int 0, .int 0, .int ((-1)), .int 0, .ref qN, .int 0, .ref qR, .int 0, .int 0, .ref qC]))] sz) [(h0, .inr (5, [.ref qT, .int 0, .ref qF, .int 0, .int 0, .int ((-1)), .int 0, .ref qN, .int 0, .ref qR, .int 0, .int 0, .ref qC]))]) (va_A [(h0, .inr (5, [.ref qT, .int 0, .ref qF, .int 0, .int 0, .int ((-1)), .int 0, .ref qN, .int 0, .ref qR, .int 0, .int 0, .ref qC]))] sz)) 0 0 (va_A [(h0, .inr (5, [.ref qT, .int 0, .ref qF, .int 0, .int 0, .int ((-1)), .int 0, .ref qN, .int 0, .ref qR, .int 0, .int 0, .ref qC]))] sz) := by
  refine Met.ofW (cc := cX5_addUpCup) (maxL := 3) (ret := none) (by decide) rfl ?_
  intro p e s m args below meth c s₁ B hml hv
  obtain ⟨rfl, hsz, hP, hK, hD0⟩ := hv
  have hx := B.exec
  have hb := B.bytes
  have hr := B.returns
  have hts := atoms_spec (ws := wX5_addUpCup) B.pre
  have hown : s.vm.findClass RX5 = some m.cls := findClass_of_methodNamed B.named
  have hlocks := B.notSynchronized
  have hin5 : ∀ w ∈ wsX50, w ∈ wX5_addUpCup := by decide +kernel
  subst hsz
  have hD := hD0.self (sz := s.heap.size)
  generalize hAe : va_A [(h0, .inr (5, [.ref qT, .int 0, .ref qF, .int 0, .int 0, .int ((-1)), .int 0, .ref qN, .int 0, .ref qR, .int 0, .int 0, .ref qC]))] s.heap.size = A at hD ⊢
  have hA : ∀ q : Nat, s.heap.size ≤ q → A q := fun q h => by rw [← hAe]; exact Or.inr h
  have hS : va_S A s.heap s.heap [] := va_S.rf
  have hP : va_P (dC, dI) vwCl [(h0, .inr (5, [.ref qT, .int 0, .ref qF, .int 0, .int 0, .int ((-1)), .int 0, .ref qN, .int 0, .ref qR, .int 0, .int 0, .ref qC]))] s.heap := hP
  have hl := lv_entry ([.ref h0, .int p0]) (n := 3) (Nat.le_of_ble_eq_true rfl)
  rw [lg_entry_eq]
  generalize (lg_sl ([.ref h0, .int p0]) ++ List.replicate (3 - (lg_sl ([.ref h0, .int p0])).length) Slot.unset).toArray = ls at hl ⊢
  have hl : lv_has ls 3 [(0, .ref h0), (1, .int p0)] := hl
  refine lv_aload_n hx hb dX5_addUpCup_0 rfl (lv_at hl 0 rfl) ?_
  refine lv_aload_n hx hb dX5_addUpCup_1 rfl (lv_at hl 0 rfl) ?_
  refine va_get (D := (dC, dI)) (ci := 5) (v := .int 0) (C := RX5) (T := TX5) (N := 13) hx hb hts hin5 hown hK hP 0 rfl rfl 10 (by decide) (hts (.fieldLink RX5 80 "SkiShots" "raceCount" "I") (by decide +kernel)) (fun _ h9 => h9) rfl dX5_addUpCup_2 ?_
  refine lv_iload_n hx hb dX5_addUpCup_5 rfl (lv_at hl 1 rfl) ?_
  have hPc := hP.sub (ws' := [(h0, .inr (5, [.ref qT, .int 0, .ref qF, .int 0, .int 0, .int ((-1)), .int 0, .ref qN, .int 0, .ref qR, .int 0, .int 0, .ref qC]))]) [0] rfl
  have hDc := hD.sub (ws' := [(h0, .inr (5, [.ref qT, .int 0, .ref qF, .int 0, .int 0, .int ((-1)), .int 0, .ref qN, .int 0, .ref qR, .int 0, .int 0, .ref qC]))]) [0] (by decide) rfl
  have hKc := hK.sub (tys' := []) [] rfl
  have hFc := va_free (wc := [(h0, .inr (5, [.ref qT, .int 0, .ref qF, .int 0, .int 0, .int ((-1)), .int 0, .ref qN, .int 0, .ref qR, .int 0, .int 0, .ref qC]))]) hD hS hA [0] rfl
  refine va_callv (va_runV (As := [.int 0, .int p0]) (rest := []) ⟨hx, hb, hml, hown, hts⟩ (c_X5_workOut l dC dI h0 qT qF qN qR qC p0 s.heap.size) (cwV 2 hts gX5_addUpCup_c_X5_workOut_2 rfl rfl rfl (by decide +kernel) ⟨Nat.le_of_ble_eq_true rfl, Nat.le_of_ble_eq_true rfl⟩) ⟨fun a U g mk q => by obtain ⟨q0, q1, qP, qK, qD⟩ := q; exact ⟨q0, q1, qP, va_K.moved (u := U) (U := U.calling g mk a) (Vm.Alike.refl U.vm) qK, qD⟩, va_recv hKc hPc (ci := 5) (q0 := 0) rfl rfl, fun U hU hW => ⟨rfl, by rw [hU], by rw [hU]; exact hPc, va_K.moved hW.alike hKc, hDc.weaken (fun _ _ _ _ => trivial)⟩⟩ rfl rfl hl.1 rfl (lv_room (Nat.le_of_ble_eq_true rfl)) dX5_addUpCup_6 ⟨show (0 + 0 : Nat) ≤ 0 from by omega, show (0 + 0 : Nat) ≤ 0 from by omega⟩) hS (fun q _ h => hFc q h) hFc (fun u t H1 locs ht hvm hw hB hz1 hk1 hS => ?_)
  obtain ⟨hP1, hK1, hD1⟩ := hB
  rw [ht] at hP1
  have hK1 := va_K.moved hvm.symm hK1
  try dsimp only at hw
  obtain ⟨hP, hD⟩ := va_join (wr := []) (w1 := [(h0, .inr (5, [.ref qT, .int 0, .ref qF, .int 0, .int 0, .int ((-1)), .int 0, .ref qN, .int 0, .ref qR, .int 0, .int 0, .ref qC]))]) hP hD [0] [] rfl rfl (by decide) (by decide) hk1 hFc hP1 hD1
  generalize H1 = H at hP hS ⊢
  have hP : va_P (dC, dI) vwCl [(h0, .inr (5, [.ref qT, .int 0, .ref qF, .int 0, .int 0, .int ((-1)), .int 0, .ref qN, .int 0, .ref qR, .int 0, .int 0, .ref qC]))] H := hP
  have hD : va_D A [(h0, .inr (5, [.ref qT, .int 0, .ref qF, .int 0, .int 0, .int ((-1)), .int 0, .ref qN, .int 0, .ref qR, .int 0, .int 0, .ref qC]))] := hD
  have hw_3 := hw
  refine lv_iconst (v := 0) hx hb dX5_addUpCup_9 (by decide) ?_
  refine lv_istore_n (lv' := [(2, .int 0), (0, .ref h0), (1, .int p0)]) hx hb dX5_addUpCup_10 rfl hl (by decide) rfl (fun ls hl => ?_)
  refine lv_iload_n hx hb dX5_addUpCup_11 rfl (lv_at hl 0 rfl) ?_
  refine lv_aload_n hx hb dX5_addUpCup_12 rfl (lv_at hl 1 rfl) ?_
  refine va_get (D := (dC, dI)) (ci := 5) (v := .int 0) (C := RX5) (T := TX5) (N := 13) hx hb hts hin5 hown hK hP 0 rfl rfl 8 (by decide) (hts (.fieldLink RX5 77 "SkiShots" "racerCount" "I") (by decide +kernel)) (fun _ h9 => h9) rfl dX5_addUpCup_13 ?_
  refine lv_icmp_ge (tgt := 32) hx hb dX5_addUpCup_16 (by decide) (fun c_4 => ?_) (fun c_4 => absurd (by decide) c_4)
  refine lv_iconst (v := 0) hx hb dX5_addUpCup_32 (by decide) ?_
  refine lv_istore_n (lv' := [(2, .int 0), (0, .ref h0), (1, .int p0)]) hx hb dX5_addUpCup_33 rfl hl (by decide) rfl (fun ls hl => ?_)
  refine lv_iload_n hx hb dX5_addUpCup_34 rfl (lv_at hl 0 rfl) ?_
  refine lv_aload_n hx hb dX5_addUpCup_35 rfl (lv_at hl 1 rfl) ?_
  refine va_get (D := (dC, dI)) (ci := 5) (v := .int 0) (C := RX5) (T := TX5) (N := 13) hx hb hts hin5 hown hK hP 0 rfl rfl 10 (by decide) (hts (.fieldLink RX5 80 "SkiShots" "raceCount" "I") (by decide +kernel)) (fun _ h9 => h9) rfl dX5_addUpCup_36 ?_
  refine lv_icmp_ge (tgt := 58) hx hb dX5_addUpCup_39 (by decide) (fun c_5 => ?_) (fun c_5 => absurd (by decide) c_5)
  have hP9 := hP.sub (ws' := [(h0, .inr (5, [.ref qT, .int 0, .ref qF, .int 0, .int 0, .int ((-1)), .int 0, .ref qN, .int 0, .ref qR, .int 0, .int 0, .ref qC]))]) [0] rfl
  have hD9 := hD.sub (ws' := [(h0, .inr (5, [.ref qT, .int 0, .ref qF, .int 0, .int 0, .int ((-1)), .int 0, .ref qN, .int 0, .ref qR, .int 0, .int 0, .ref qC]))]) [0] (by decide) rfl
  have hK9 := hK.sub (tys' := []) [] rfl
  exact W.vret hx hb hr (fun t ht hW => ⟨⟨(), rfl, trivial, by rw [ht]; exact hP9, va_K.moved hW.alike hK9, hD9⟩, hS.F ht⟩) hS.2.2 dX5_addUpCup_58
def wX5_starters : List Cond := .code yX5_starters cX5_starters 5 (some .int) :: ([.fieldLink RX5 77 "SkiShots" "racerCount" "I", .methodLink RX5 221 Lib.Math.min.name, .static Lib.Math.min.name, .initialized "java/lang/Math", .code Lib.Math.min.name Lib.Math.min.code 2 (some .int), .methodLink RX5 73 yX5_isNation, .static yX5_isNation, .initialized RX5, .code yX5_isNation cX5_isNation 1 (some .boolean), .methodLink RX5 168 yX5_isDay, .instanceMethod yX5_isDay, .selects RX5 yX5_isDay yX5_isDay, .code yX5_isDay cX5_isDay 2 (some .boolean), .fieldLink RX5 70 "SkiShots" "today" "I", .methodLink RX5 215 yX5_addUpCup, .instanceMethod yX5_addUpCup, .selects RX5 yX5_addUpCup yX5_addUpCup, .code yX5_addUpCup cX5_addUpCup 3 none, .fieldLink RX5 80 "SkiShots" "raceCount" "I", .methodLink RX5 171 yX5_workOut, .instanceMethod yX5_workOut, .selects RX5 yX5_workOut yX5_workOut, .code yX5_workOut cX5_workOut 4 none] ++ wsX50)
set_option maxRecDepth 20000 in
theorem gX5_starters_c_X5_isNation_2 : GoodIn wX5_starters (va_wsS RX5 73 yX5_isNation wX5_isNation) := goodIn_p _ [9] rfl (by decide +kernel)
set_option maxRecDepth 20000 in
theorem gX5_starters_c_X5_isDay_6 : GoodIn wX5_starters (wsV RX5 168 RX5 yX5_isDay wX5_isDay) := goodIn_p _ [13] rfl (by decide +kernel)
set_option maxRecDepth 20000 in
theorem gX5_starters_c_X5_addUpCup_10 : GoodIn wX5_starters (wsV RX5 215 RX5 yX5_addUpCup wX5_addUpCup) := goodIn_p _ [18, 23] rfl (by decide +kernel)
set_option maxHeartbeats 4000000 in
set_option maxRecDepth 100000 in
theorem c_X5_starters (l : Launch) (dC : Nat → ClassId) (dI : Nat → Nat → Nat) (h0 : Nat) (qT : Nat) (qF : Nat) (qN : Nat) (qR : Nat) (qC : Nat) (p0 : Int32) (p1 : Int32) (sz : Nat) : Met l yX5_starters wX5_starters ({ frames := 2, cells := 0, slots := 0, locals := 45 }) (va_Pc [.ref h0, .int p0, .int p1] (fun U => U.heap.size = sz ∧ va_P (dC, dI) vwCl [(h0, .inr (5, [.ref qT, .int 0, .ref qF, .int 0, .int 0, .int ((-1)), .int 0, .ref qN, .int 0, .ref qR, .int 0, .int 0, .ref qC]))] U.heap ∧ va_K (dC, dI) vwCl [] U ∧ va_D (fun _ => True) [(h0, .inr (5, [.ref qT, .int 0, .ref qF, .int 0, .int 0, .int ((-1)), .int 0, .ref qN, .int 0, .ref qR, .int 0, .int 0, .ref qC]))])) (va_Qi (fun (r : Int32) (_ : Unit) => ((0 ≤ p0.toInt ∧ p0.toInt < 8) ∧ p1.toInt = 0 ∧ r = 2) ∨ (¬ ((0 ≤ p0.toInt ∧ p0.toInt < 8) ∧ p1.toInt = 0) ∧ r = -1)) (fun _ t => True) (va_A [(h0, .inr (5, [.ref qT, .int 0, .ref qF, .int 0, .int 0, .int ((-1)), .int 0, .ref qN, .int 0, .ref qR, .int 0, .int 0, .ref qC]))] sz)) 0 0 (va_A [(h0, .inr (5, [.ref qT, .int 0, .ref qF, .int 0, .int 0, .int ((-1)), .int 0, .ref qN, .int 0, .ref qR, .int 0, .int 0, .ref qC]))] sz) := by
  refine Met.ofW (cc := cX5_starters) (maxL := 5) (ret := (some .int)) (by decide) rfl ?_
  intro p e s m args below meth c s₁ B hml hv
  obtain ⟨rfl, hsz, hP, hK, hD0⟩ := hv
  have hx := B.exec
  have hb := B.bytes
  have hr := B.returns
  have hts := atoms_spec (ws := wX5_starters) B.pre
  have hown : s.vm.findClass RX5 = some m.cls := findClass_of_methodNamed B.named
  have hlocks := B.notSynchronized
  have hin5 : ∀ w ∈ wsX50, w ∈ wX5_starters := by decide +kernel
  subst hsz
  have hD := hD0.self (sz := s.heap.size)
  generalize hAe : va_A [(h0, .inr (5, [.ref qT, .int 0, .ref qF, .int 0, .int 0, .int ((-1)), .int 0, .ref qN, .int 0, .ref qR, .int 0, .int 0, .ref qC]))] s.heap.size = A at hD ⊢
  have hA : ∀ q : Nat, s.heap.size ≤ q → A q := fun q h => by rw [← hAe]; exact Or.inr h
  have hS : va_S A s.heap s.heap [] := va_S.rf
  have hP : va_P (dC, dI) vwCl [(h0, .inr (5, [.ref qT, .int 0, .ref qF, .int 0, .int 0, .int ((-1)), .int 0, .ref qN, .int 0, .ref qR, .int 0, .int 0, .ref qC]))] s.heap := hP
  have hl := lv_entry ([.ref h0, .int p0, .int p1]) (n := 5) (Nat.le_of_ble_eq_true rfl)
  rw [lg_entry_eq]
  generalize (lg_sl ([.ref h0, .int p0, .int p1]) ++ List.replicate (5 - (lg_sl ([.ref h0, .int p0, .int p1])).length) Slot.unset).toArray = ls at hl ⊢
  have hl : lv_has ls 5 [(0, .ref h0), (1, .int p0), (2, .int p1)] := hl
  refine lv_iload_n hx hb dX5_starters_0 rfl (lv_at hl 1 rfl) ?_
  have hPc := hP.sub (ws' := []) [] rfl
  have hDc := hD.sub (ws' := []) [] (by decide) rfl
  have hKc := hK.sub (tys' := []) [] rfl
  have hFc := va_free (wc := []) hD hS hA [] rfl
  refine va_calli (va_runS (As := [.int p0]) (rest := []) ⟨hx, hb, hml, hown, hts⟩ (c_X5_isNation l dC dI p0 s.heap.size) (va_cwS 1 hts gX5_starters_c_X5_isNation_2 rfl rfl rfl (by decide +kernel) ⟨Nat.le_of_ble_eq_true rfl, Nat.le_of_ble_eq_true rfl⟩) ⟨fun a U g mk q => by obtain ⟨q0, q1, qP, qK, qD⟩ := q; exact ⟨q0, q1, qP, va_K.moved (u := U) (U := U.calling g mk a) (Vm.Alike.refl U.vm) qK, qD⟩, fun U hU hW => ⟨rfl, by rw [hU], by rw [hU]; exact hPc, va_K.moved hW.alike hKc, hDc.weaken (fun _ _ _ _ => trivial)⟩⟩ rfl rfl hl.1 rfl (lv_room (Nat.le_of_ble_eq_true rfl)) dX5_starters_1 ⟨show (0 + 0 : Nat) ≤ 0 from by omega, show (0 + 0 : Nat) ≤ 0 from by omega⟩) hS (fun q _ h => hFc q h) hFc (fun r_1 u t H1 locs ht hvm hw hB hz1 hk1 hS => ?_)
  obtain ⟨hP1, hK1, hD1⟩ := hB
  rw [ht] at hP1
  have hK1 := va_K.moved hvm.symm hK1
  try dsimp only at hw
  obtain ⟨hP, hD⟩ := va_join (wr := [(h0, .inr (5, [.ref qT, .int 0, .ref qF, .int 0, .int 0, .int ((-1)), .int 0, .ref qN, .int 0, .ref qR, .int 0, .int 0, .ref qC]))]) (w1 := []) hP hD [] [0] rfl rfl (by decide) (by decide) hk1 hFc hP1 hD1
  generalize H1 = H at hP hS ⊢
  have hP : va_P (dC, dI) vwCl [(h0, .inr (5, [.ref qT, .int 0, .ref qF, .int 0, .int 0, .int ((-1)), .int 0, .ref qN, .int 0, .ref qR, .int 0, .int 0, .ref qC]))] H := hP
  have hD : va_D A [(h0, .inr (5, [.ref qT, .int 0, .ref qF, .int 0, .int 0, .int ((-1)), .int 0, .ref qN, .int 0, .ref qR, .int 0, .int 0, .ref qC]))] := hD
  have hw_3 := hw
  refine lv_if_eq (tgt := 15) hx hb dX5_starters_4 (by decide) (fun c_4 => ?_) (fun c_4 => ?_)
  · refine lv_iconst (v := (-1)) hx hb dX5_starters_15 (by decide) ?_
    exact W.iret (v := (-1)) hx hb hr (fun t ht hW => ⟨⟨(-1), (), rfl, by (try simp only [and_true, true_and, and_false, false_and, or_true, true_or, or_false, false_or, not_true_eq_false, not_false_eq_true, num_lt, num_le, num_eq, Int32.zero_add, Int32.sub_zero, Int32.add_zero, num_m2, num_m1, num_0, num_1, num_2, num_3, num_4, num_5, num_6, num_7, num_8, num_16, num_20, num_31, num_200, num_1000] at hw_3 c_4 ⊢) <;> omega, trivial⟩, hS.F ht⟩) hS.2.2 dX5_starters_16
  · refine lv_aload_n hx hb dX5_starters_7 rfl (lv_at hl 0 rfl) ?_
    refine lv_iload_n hx hb dX5_starters_8 rfl (lv_at hl 2 rfl) ?_
    have hPc := hP.sub (ws' := [(h0, .inr (5, [.ref qT, .int 0, .ref qF, .int 0, .int 0, .int ((-1)), .int 0, .ref qN, .int 0, .ref qR, .int 0, .int 0, .ref qC]))]) [0] rfl
    have hDc := hD.sub (ws' := [(h0, .inr (5, [.ref qT, .int 0, .ref qF, .int 0, .int 0, .int ((-1)), .int 0, .ref qN, .int 0, .ref qR, .int 0, .int 0, .ref qC]))]) [0] (by decide) rfl
    have hKc := hK.sub (tys' := []) [] rfl
    have hFc := va_free (wc := [(h0, .inr (5, [.ref qT, .int 0, .ref qF, .int 0, .int 0, .int ((-1)), .int 0, .ref qN, .int 0, .ref qR, .int 0, .int 0, .ref qC]))]) hD hS hA [0] rfl
    refine va_calli (va_runV (As := [.int p1]) (rest := []) ⟨hx, hb, hml, hown, hts⟩ (c_X5_isDay l dC dI h0 qT qF qN qR qC p1 H.size) (cwV 1 hts gX5_starters_c_X5_isDay_6 rfl rfl rfl (by decide +kernel) ⟨Nat.le_of_ble_eq_true rfl, Nat.le_of_ble_eq_true rfl⟩) ⟨fun a U g mk q => by obtain ⟨q0, q1, qP, qK, qD⟩ := q; exact ⟨q0, q1, qP, va_K.moved (u := U) (U := U.calling g mk a) (Vm.Alike.refl U.vm) qK, qD⟩, va_recv hKc hPc (ci := 5) (q0 := 0) rfl rfl, fun U hU hW => ⟨rfl, by rw [hU], by rw [hU]; exact hPc, va_K.moved hW.alike hKc, hDc.weaken (fun _ _ _ _ => trivial)⟩⟩ rfl rfl hl.1 rfl (lv_room (Nat.le_of_ble_eq_true rfl)) dX5_starters_9 ⟨show (0 + 0 : Nat) ≤ 0 from by omega, show (0 + 0 : Nat) ≤ 0 from by omega⟩) hS (fun q _ h => hFc q h) hFc (fun r_5 u t H1 locs ht hvm hw hB hz1 hk1 hS => ?_)
    obtain ⟨hP1, hK1, hD1⟩ := hB
    rw [ht] at hP1
    have hK1 := va_K.moved hvm.symm hK1
    try dsimp only at hw
    obtain ⟨hP, hD⟩ := va_join (wr := []) (w1 := [(h0, .inr (5, [.ref qT, .int 0, .ref qF, .int 0, .int 0, .int ((-1)), .int 0, .ref qN, .int 0, .ref qR, .int 0, .int 0, .ref qC]))]) hP hD [0] [] rfl rfl (by decide) (by decide) hk1 hFc hP1 hD1
    generalize H1 = H at hP hS ⊢
    have hP : va_P (dC, dI) vwCl [(h0, .inr (5, [.ref qT, .int 0, .ref qF, .int 0, .int 0, .int ((-1)), .int 0, .ref qN, .int 0, .ref qR, .int 0, .int 0, .ref qC]))] H := hP
    have hD : va_D A [(h0, .inr (5, [.ref qT, .int 0, .ref qF, .int 0, .int 0, .int ((-1)), .int 0, .ref qN, .int 0, .ref qR, .int 0, .int 0, .ref qC]))] := hD
    have hw_7 := hw
    refine lv_if_ne (tgt := 17) hx hb dX5_starters_12 (by decide) (fun c_8 => ?_) (fun c_8 => ?_)
    · refine lv_aload_n hx hb dX5_starters_17 rfl (lv_at hl 0 rfl) ?_
      refine lv_iload_n hx hb dX5_starters_18 rfl (lv_at hl 2 rfl) ?_
      have hPc := hP.sub (ws' := [(h0, .inr (5, [.ref qT, .int 0, .ref qF, .int 0, .int 0, .int ((-1)), .int 0, .ref qN, .int 0, .ref qR, .int 0, .int 0, .ref qC]))]) [0] rfl
      have hDc := hD.sub (ws' := [(h0, .inr (5, [.ref qT, .int 0, .ref qF, .int 0, .int 0, .int ((-1)), .int 0, .ref qN, .int 0, .ref qR, .int 0, .int 0, .ref qC]))]) [0] (by decide) rfl
      have hKc := hK.sub (tys' := []) [] rfl
      have hFc := va_free (wc := [(h0, .inr (5, [.ref qT, .int 0, .ref qF, .int 0, .int 0, .int ((-1)), .int 0, .ref qN, .int 0, .ref qR, .int 0, .int 0, .ref qC]))]) hD hS hA [0] rfl
      refine va_callv (va_runV (As := [.int p1]) (rest := []) ⟨hx, hb, hml, hown, hts⟩ (c_X5_addUpCup l dC dI h0 qT qF qN qR qC p1 H.size) (cwV 1 hts gX5_starters_c_X5_addUpCup_10 rfl rfl rfl (by decide +kernel) ⟨Nat.le_of_ble_eq_true rfl, Nat.le_of_ble_eq_true rfl⟩) ⟨fun a U g mk q => by obtain ⟨q0, q1, qP, qK, qD⟩ := q; exact ⟨q0, q1, qP, va_K.moved (u := U) (U := U.calling g mk a) (Vm.Alike.refl U.vm) qK, qD⟩, va_recv hKc hPc (ci := 5) (q0 := 0) rfl rfl, fun U hU hW => ⟨rfl, by rw [hU], by rw [hU]; exact hPc, va_K.moved hW.alike hKc, hDc.weaken (fun _ _ _ _ => trivial)⟩⟩ rfl rfl hl.1 rfl (lv_room (Nat.le_of_ble_eq_true rfl)) dX5_starters_19 ⟨show (0 + 0 : Nat) ≤ 0 from by omega, show (0 + 0 : Nat) ≤ 0 from by omega⟩) hS (fun q _ h => hFc q h) hFc (fun u t H1 locs ht hvm hw hB hz1 hk1 hS => ?_)
      obtain ⟨hP1, hK1, hD1⟩ := hB
      rw [ht] at hP1
      have hK1 := va_K.moved hvm.symm hK1
      try dsimp only at hw
      obtain ⟨hP, hD⟩ := va_join (wr := []) (w1 := [(h0, .inr (5, [.ref qT, .int 0, .ref qF, .int 0, .int 0, .int ((-1)), .int 0, .ref qN, .int 0, .ref qR, .int 0, .int 0, .ref qC]))]) hP hD [0] [] rfl rfl (by decide) (by decide) hk1 hFc hP1 hD1
      generalize H1 = H at hP hS ⊢
      have hP : va_P (dC, dI) vwCl [(h0, .inr (5, [.ref qT, .int 0, .ref qF, .int 0, .int 0, .int ((-1)), .int 0, .ref qN, .int 0, .ref qR, .int 0, .int 0, .ref qC]))] H := hP
      have hD : va_D A [(h0, .inr (5, [.ref qT, .int 0, .ref qF, .int 0, .int 0, .int ((-1)), .int 0, .ref qN, .int 0, .ref qR, .int 0, .int 0, .ref qC]))] := hD
      have hw_11 := hw
      refine lv_iconst (v := 2) hx hb dX5_starters_22 (by decide) ?_
      refine lv_istore_n (lv' := [(3, .int 2), (0, .ref h0), (1, .int p0), (2, .int p1)]) hx hb dX5_starters_23 rfl hl (by decide) rfl (fun ls hl => ?_)
      refine lv_iconst (v := 0) hx hb dX5_starters_24 (by decide) ?_
      refine lv_istore (lv' := [(4, .int 0), (3, .int 2), (0, .ref h0), (1, .int p0), (2, .int p1)]) hx hb dX5_starters_25 hl (by decide) rfl (fun ls hl => ?_)
      refine lv_iload hx hb dX5_starters_27 (lv_at hl 0 rfl) ?_
      refine lv_aload_n hx hb dX5_starters_29 rfl (lv_at hl 2 rfl) ?_
      refine va_get (D := (dC, dI)) (ci := 5) (v := .int 0) (C := RX5) (T := TX5) (N := 13) hx hb hts hin5 hown hK hP 0 rfl rfl 8 (by decide) (hts (.fieldLink RX5 77 "SkiShots" "racerCount" "I") (by decide +kernel)) (fun _ h9 => h9) rfl dX5_starters_30 ?_
      refine lv_icmp_ge (tgt := 76) hx hb dX5_starters_33 (by decide) (fun c_12 => ?_) (fun c_12 => absurd (by decide) c_12)
      refine lv_iload_n hx hb dX5_starters_76 rfl (lv_at hl 1 rfl) ?_
      refine lv_iconst (v := 4) hx hb dX5_starters_77 (by decide) ?_
      refine va_mmin hx hb (hml.trans hl.1.symm) hown (hts (.methodLink RX5 221 Lib.Math.min.name) (by decide +kernel)) (hts (.static Lib.Math.min.name) (by decide +kernel)) (hts (.initialized "java/lang/Math") (by decide +kernel)) (hts (.code Lib.Math.min.name Lib.Math.min.code 2 (some .int)) (by decide +kernel)) (Nat.le_of_ble_eq_true rfl) (Nat.le_of_ble_eq_true rfl) (Nat.le_of_ble_eq_true rfl) (Nat.le_of_ble_eq_true rfl) dX5_starters_78 ?_
      rw [show ((if (4 : Int32) < 2 then 4 else 2 : Int32)) = 2 from by decide]
      exact W.iret (v := 2) hx hb hr (fun t ht hW => ⟨⟨2, (), rfl, by (try simp only [and_true, true_and, and_false, false_and, or_true, true_or, or_false, false_or, not_true_eq_false, not_false_eq_true, num_lt, num_le, num_eq, Int32.zero_add, Int32.sub_zero, Int32.add_zero, num_m2, num_m1, num_0, num_1, num_2, num_3, num_4, num_5, num_6, num_7, num_8, num_16, num_20, num_31, num_200, num_1000] at hw_3 c_4 hw_7 c_8 c_12 ⊢) <;> omega, trivial⟩, hS.F ht⟩) hS.2.2 dX5_starters_81
    · refine lv_iconst (v := (-1)) hx hb dX5_starters_15 (by decide) ?_
      exact W.iret (v := (-1)) hx hb hr (fun t ht hW => ⟨⟨(-1), (), rfl, by (try simp only [and_true, true_and, and_false, false_and, or_true, true_or, or_false, false_or, not_true_eq_false, not_false_eq_true, num_lt, num_le, num_eq, Int32.zero_add, Int32.sub_zero, Int32.add_zero, num_m2, num_m1, num_0, num_1, num_2, num_3, num_4, num_5, num_6, num_7, num_8, num_16, num_20, num_31, num_200, num_1000] at hw_3 c_4 hw_7 c_8 ⊢) <;> omega, trivial⟩, hS.F ht⟩) hS.2.2 dX5_starters_16
