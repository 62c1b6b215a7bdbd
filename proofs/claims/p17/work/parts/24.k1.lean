def w4X5_fault : List Cond := .code yX5_fault cX5_fault 2 (some .int) :: ([.fieldLink RX5 55 "SkiShots" "latestFault" "I", .fieldLink RX5 19 "SkiShots" "latestFaultPlace" "I"] ++ wsX50)
set_option maxHeartbeats 4000000 in
set_option maxRecDepth 100000 in
theorem h4_X5_fault (l : Launch) (D : va_G) (cA : Nat → ClassId) (ad av : Nat → Nat) (L : List Nat) (K : Nat → Nat) (I : Nat → Nat → Int32) (O : Nat → Nat → Option Nat) (sz : Nat) (x0 : Nat) (p0 : Int32) (hI : cI L K I O) (mx0 : x0 ∈ L) (kx0 : K x0 = 5)  : Met l yX5_fault w4X5_fault ({ frames := 0, cells := 0, slots := 0, locals := 0 }) (cPre D cA ad av L K I O sz [.ref x0, .int p0]) (cQi D cA L K I O sz [] [] [] (fun r L' K' I' O' => (L' = L ∧ K' = K ∧ I' = I ∧ O' = O) ∧ (True))) 0 0 (va_A (cW cA L K I O) sz) := by
  refine cr_met (own := RX5) (xs := []) (WI := []) (WO := []) (cc := cX5_fault) (maxL := 2) (ret := (some .int)) (by decide) rfl rfl (Nat.le_of_ble_eq_true rfl) hI ?_
  intro p e s m args below meth c ls E hV hml hr hlk hname hsz hA hM hl
  have hx := E.1
  have hb := E.2.1
  have hts := E.2.2.1
  have hown := E.2.2.2.1
  have hl : lv_has ls 2 [(0, .ref x0), (1, .int p0)] := hl
  have hin5 : ∀ w ∈ wsX50, w ∈ w4X5_fault := by decide +kernel
  refine lv_iload_n hx hb dX5_fault_0 rfl (lv_at hl 1 rfl) ?_
  by_cases s_1 : p0.toInt = 0
  · refine lv_lookup (tgt := 28) hx hb dX5_fault_1 (by decide) (off := 27) (by rw [s_1]; rfl) (by decide) ?_
    refine lv_aload_n hx hb dX5_fault_28 rfl (lv_at hl 0 rfl) ?_
    refine cr_get (κ := 5) (ci := 5) (k := 4) (C := RX5) (T := TX5) (N := 13) (fs := cfs 5) (v := .int (I x0 4)) E hM mx0 kx0 (fun _ _ => rfl) rfl hin5 (by decide) (index := 55) (mm_at 1 rfl) rfl rfl dX5_fault_29 ?_
    exact cr_ri (mc := 0) (ms := 0) E hr hlk hsz hM ⟨show (0 : Nat) ≤ 0 from by omega, show (0 : Nat) ≤ 0 from by omega⟩ ⟨⟨rfl, rfl, rfl, rfl⟩, trivial⟩ dX5_fault_32
  by_cases s_2 : p0.toInt = 1
  · refine lv_lookup (tgt := 33) hx hb dX5_fault_1 (by decide) (off := 32) (by rw [s_2]; rfl) (by decide) ?_
    refine lv_aload_n hx hb dX5_fault_33 rfl (lv_at hl 0 rfl) ?_
    refine cr_get (κ := 5) (ci := 5) (k := 5) (C := RX5) (T := TX5) (N := 13) (fs := cfs 5) (v := .int (I x0 5)) E hM mx0 kx0 (fun _ _ => rfl) rfl hin5 (by decide) (index := 19) (mm_at 2 rfl) rfl rfl dX5_fault_34 ?_
    exact cr_ri (mc := 0) (ms := 0) E hr hlk hsz hM ⟨show (0 : Nat) ≤ 0 from by omega, show (0 : Nat) ≤ 0 from by omega⟩ ⟨⟨rfl, rfl, rfl, rfl⟩, trivial⟩ dX5_fault_37
  · refine lv_lookup (tgt := 38) hx hb dX5_fault_1 (by decide) (off := 37) (by simp only [Op.lookupswitch.offset]; (repeat rw [if_neg (by omega)])) (by decide) ?_
    refine lv_iconst (v := (-1)) hx hb dX5_fault_38 (by decide) ?_
    exact cr_ri (mc := 0) (ms := 0) E hr hlk hsz hM ⟨show (0 : Nat) ≤ 0 from by omega, show (0 : Nat) ≤ 0 from by omega⟩ ⟨⟨rfl, rfl, rfl, rfl⟩, trivial⟩ dX5_fault_39
def w4X5_isRacer : List Cond := .code yX5_isRacer cX5_isRacer 2 (some .boolean) :: ([.fieldLink RX5 77 "SkiShots" "racerCount" "I"] ++ wsX50)
set_option maxHeartbeats 4000000 in
set_option maxRecDepth 100000 in
theorem h4_X5_isRacer (l : Launch) (D : va_G) (cA : Nat → ClassId) (ad av : Nat → Nat) (L : List Nat) (K : Nat → Nat) (I : Nat → Nat → Int32) (O : Nat → Nat → Option Nat) (sz : Nat) (x0 : Nat) (p0 : Int32) (hI : cI L K I O) (mx0 : x0 ∈ L) (kx0 : K x0 = 5)  : Met l yX5_isRacer w4X5_isRacer ({ frames := 0, cells := 0, slots := 0, locals := 0 }) (cPre D cA ad av L K I O sz [.ref x0, .int p0]) (cQi D cA L K I O sz [] [] [] (fun r L' K' I' O' => (L' = L ∧ K' = K ∧ I' = I ∧ O' = O) ∧ ((r.toInt = 1 ∧ 0 ≤ p0.toInt ∧ p0.toInt < (I x0 8).toInt) ∨ (r.toInt = 0 ∧ ¬ (0 ≤ p0.toInt ∧ p0.toInt < (I x0 8).toInt))))) 0 0 (va_A (cW cA L K I O) sz) := by
  refine cr_met (own := RX5) (xs := []) (WI := []) (WO := []) (cc := cX5_isRacer) (maxL := 2) (ret := (some .boolean)) (by decide) rfl rfl (Nat.le_of_ble_eq_true rfl) hI ?_
  intro p e s m args below meth c ls E hV hml hr hlk hname hsz hA hM hl
  have hx := E.1
  have hb := E.2.1
  have hts := E.2.2.1
  have hown := E.2.2.2.1
  have hl : lv_has ls 2 [(0, .ref x0), (1, .int p0)] := hl
  have hin5 : ∀ w ∈ wsX50, w ∈ w4X5_isRacer := by decide +kernel
  refine lv_iload_n hx hb dX5_isRacer_0 rfl (lv_at hl 1 rfl) ?_
  refine mm_if_lt (X := p0.toInt) (tgt := 16) hx hb dX5_isRacer_1 (by decide) rfl (fun c_1 => ?_) (fun c_1 => ?_)
  · refine lv_iconst (v := 0) hx hb dX5_isRacer_16 (by decide) ?_
    exact cr_rz (mc := 0) (ms := 0) (X := 0) E hr hlk hsz hM ⟨show (0 : Nat) ≤ 0 from by omega, show (0 : Nat) ≤ 0 from by omega⟩ num_0 (by omega) ⟨⟨rfl, rfl, rfl, rfl⟩, (show ((0 : Int32).toInt = 1 ∧ 0 ≤ p0.toInt ∧ p0.toInt < (I x0 8).toInt) ∨ ((0 : Int32).toInt = 0 ∧ ¬ (0 ≤ p0.toInt ∧ p0.toInt < (I x0 8).toInt)) from by have n9 := num_0; omega)⟩ dX5_isRacer_17
  · refine lv_iload_n hx hb dX5_isRacer_4 rfl (lv_at hl 1 rfl) ?_
    refine lv_aload_n hx hb dX5_isRacer_5 rfl (lv_at hl 0 rfl) ?_
    have b_2 : 0 ≤ (I x0 8).toInt ∧ (I x0 8).toInt ≤ 16 := hM.ib mx0 kx0 8 rfl
    refine cr_get (κ := 5) (ci := 5) (k := 8) (C := RX5) (T := TX5) (N := 13) (fs := cfs 5) (v := .int (I x0 8)) E hM mx0 kx0 (fun _ _ => rfl) rfl hin5 (by decide) (index := 77) (mm_at 1 rfl) rfl rfl dX5_isRacer_6 ?_
    refine mm_icmp_ge (X := p0.toInt) (Y := (I x0 8).toInt) (tgt := 16) hx hb dX5_isRacer_9 (by decide) rfl rfl (fun c_3 => ?_) (fun c_3 => ?_)
    · refine lv_iconst (v := 0) hx hb dX5_isRacer_16 (by decide) ?_
      exact cr_rz (mc := 0) (ms := 0) (X := 0) E hr hlk hsz hM ⟨show (0 : Nat) ≤ 0 from by omega, show (0 : Nat) ≤ 0 from by omega⟩ num_0 (by omega) ⟨⟨rfl, rfl, rfl, rfl⟩, (show ((0 : Int32).toInt = 1 ∧ 0 ≤ p0.toInt ∧ p0.toInt < (I x0 8).toInt) ∨ ((0 : Int32).toInt = 0 ∧ ¬ (0 ≤ p0.toInt ∧ p0.toInt < (I x0 8).toInt)) from by have n9 := num_0; omega)⟩ dX5_isRacer_17
    · refine lv_iconst (v := 1) hx hb dX5_isRacer_12 (by decide) ?_
      refine lv_goto (tgt := 17) hx hb dX5_isRacer_13 (by decide) ?_
      exact cr_rz (mc := 0) (ms := 0) (X := 1) E hr hlk hsz hM ⟨show (0 : Nat) ≤ 0 from by omega, show (0 : Nat) ≤ 0 from by omega⟩ num_1 (by omega) ⟨⟨rfl, rfl, rfl, rfl⟩, (show ((1 : Int32).toInt = 1 ∧ 0 ≤ p0.toInt ∧ p0.toInt < (I x0 8).toInt) ∨ ((1 : Int32).toInt = 0 ∧ ¬ (0 ≤ p0.toInt ∧ p0.toInt < (I x0 8).toInt)) from by have n9 := num_1; omega)⟩ dX5_isRacer_17
def w4X5_isDay : List Cond := .code yX5_isDay cX5_isDay 2 (some .boolean) :: ([.fieldLink RX5 70 "SkiShots" "today" "I"] ++ wsX50)
set_option maxHeartbeats 4000000 in
set_option maxRecDepth 100000 in
theorem h4_X5_isDay (l : Launch) (D : va_G) (cA : Nat → ClassId) (ad av : Nat → Nat) (L : List Nat) (K : Nat → Nat) (I : Nat → Nat → Int32) (O : Nat → Nat → Option Nat) (sz : Nat) (x0 : Nat) (p0 : Int32) (hI : cI L K I O) (mx0 : x0 ∈ L) (kx0 : K x0 = 5)  : Met l yX5_isDay w4X5_isDay ({ frames := 0, cells := 0, slots := 0, locals := 0 }) (cPre D cA ad av L K I O sz [.ref x0, .int p0]) (cQi D cA L K I O sz [] [] [] (fun r L' K' I' O' => (L' = L ∧ K' = K ∧ I' = I ∧ O' = O) ∧ ((r.toInt = 1 ∧ 0 ≤ p0.toInt ∧ p0.toInt ≤ (I x0 6).toInt) ∨ (r.toInt = 0 ∧ ¬ (0 ≤ p0.toInt ∧ p0.toInt ≤ (I x0 6).toInt))))) 0 0 (va_A (cW cA L K I O) sz) := by
  refine cr_met (own := RX5) (xs := []) (WI := []) (WO := []) (cc := cX5_isDay) (maxL := 2) (ret := (some .boolean)) (by decide) rfl rfl (Nat.le_of_ble_eq_true rfl) hI ?_
  intro p e s m args below meth c ls E hV hml hr hlk hname hsz hA hM hl
  have hx := E.1
  have hb := E.2.1
  have hts := E.2.2.1
  have hown := E.2.2.2.1
  have hl : lv_has ls 2 [(0, .ref x0), (1, .int p0)] := hl
  have hin5 : ∀ w ∈ wsX50, w ∈ w4X5_isDay := by decide +kernel
  refine lv_iload_n hx hb dX5_isDay_0 rfl (lv_at hl 1 rfl) ?_
  refine mm_if_lt (X := p0.toInt) (tgt := 16) hx hb dX5_isDay_1 (by decide) rfl (fun c_1 => ?_) (fun c_1 => ?_)
  · refine lv_iconst (v := 0) hx hb dX5_isDay_16 (by decide) ?_
    exact cr_rz (mc := 0) (ms := 0) (X := 0) E hr hlk hsz hM ⟨show (0 : Nat) ≤ 0 from by omega, show (0 : Nat) ≤ 0 from by omega⟩ num_0 (by omega) ⟨⟨rfl, rfl, rfl, rfl⟩, (show ((0 : Int32).toInt = 1 ∧ 0 ≤ p0.toInt ∧ p0.toInt ≤ (I x0 6).toInt) ∨ ((0 : Int32).toInt = 0 ∧ ¬ (0 ≤ p0.toInt ∧ p0.toInt ≤ (I x0 6).toInt)) from by have n9 := num_0; omega)⟩ dX5_isDay_17
  · refine lv_iload_n hx hb dX5_isDay_4 rfl (lv_at hl 1 rfl) ?_
    refine lv_aload_n hx hb dX5_isDay_5 rfl (lv_at hl 0 rfl) ?_
    have b_2 : 0 ≤ (I x0 6).toInt ∧ (I x0 6).toInt ≤ 200 := hM.ib mx0 kx0 6 rfl
    refine cr_get (κ := 5) (ci := 5) (k := 6) (C := RX5) (T := TX5) (N := 13) (fs := cfs 5) (v := .int (I x0 6)) E hM mx0 kx0 (fun _ _ => rfl) rfl hin5 (by decide) (index := 70) (mm_at 1 rfl) rfl rfl dX5_isDay_6 ?_
    refine mm_icmp_gt (X := p0.toInt) (Y := (I x0 6).toInt) (tgt := 16) hx hb dX5_isDay_9 (by decide) rfl rfl (fun c_3 => ?_) (fun c_3 => ?_)
    · refine lv_iconst (v := 0) hx hb dX5_isDay_16 (by decide) ?_
      exact cr_rz (mc := 0) (ms := 0) (X := 0) E hr hlk hsz hM ⟨show (0 : Nat) ≤ 0 from by omega, show (0 : Nat) ≤ 0 from by omega⟩ num_0 (by omega) ⟨⟨rfl, rfl, rfl, rfl⟩, (show ((0 : Int32).toInt = 1 ∧ 0 ≤ p0.toInt ∧ p0.toInt ≤ (I x0 6).toInt) ∨ ((0 : Int32).toInt = 0 ∧ ¬ (0 ≤ p0.toInt ∧ p0.toInt ≤ (I x0 6).toInt)) from by have n9 := num_0; omega)⟩ dX5_isDay_17
    · refine lv_iconst (v := 1) hx hb dX5_isDay_12 (by decide) ?_
      refine lv_goto (tgt := 17) hx hb dX5_isDay_13 (by decide) ?_
      exact cr_rz (mc := 0) (ms := 0) (X := 1) E hr hlk hsz hM ⟨show (0 : Nat) ≤ 0 from by omega, show (0 : Nat) ≤ 0 from by omega⟩ num_1 (by omega) ⟨⟨rfl, rfl, rfl, rfl⟩, (show ((1 : Int32).toInt = 1 ∧ 0 ≤ p0.toInt ∧ p0.toInt ≤ (I x0 6).toInt) ∨ ((1 : Int32).toInt = 0 ∧ ¬ (0 ≤ p0.toInt ∧ p0.toInt ≤ (I x0 6).toInt)) from by have n9 := num_1; omega)⟩ dX5_isDay_17
def w4X5_isNation : List Cond := .code yX5_isNation cX5_isNation 1 (some .boolean) :: ([])
set_option maxHeartbeats 4000000 in
set_option maxRecDepth 100000 in
theorem h4_X5_isNation (l : Launch) (D : va_G) (cA : Nat → ClassId) (ad av : Nat → Nat) (L : List Nat) (K : Nat → Nat) (I : Nat → Nat → Int32) (O : Nat → Nat → Option Nat) (sz : Nat) (p0 : Int32) (hI : cI L K I O)  : Met l yX5_isNation w4X5_isNation ({ frames := 0, cells := 0, slots := 0, locals := 0 }) (cPre D cA ad av L K I O sz [.int p0]) (cQi D cA L K I O sz [] [] [] (fun r L' K' I' O' => (L' = L ∧ K' = K ∧ I' = I ∧ O' = O) ∧ ((r.toInt = 1 ∧ 0 ≤ p0.toInt ∧ p0.toInt < 8) ∨ (r.toInt = 0 ∧ ¬ (0 ≤ p0.toInt ∧ p0.toInt < 8))))) 0 0 (va_A (cW cA L K I O) sz) := by
  refine cr_met (own := RX5) (xs := []) (WI := []) (WO := []) (cc := cX5_isNation) (maxL := 1) (ret := (some .boolean)) (by decide) rfl rfl (Nat.le_of_ble_eq_true rfl) hI ?_
  intro p e s m args below meth c ls E hV hml hr hlk hname hsz hA hM hl
  have hx := E.1
  have hb := E.2.1
  have hts := E.2.2.1
  have hown := E.2.2.2.1
  have hl : lv_has ls 1 [(0, .int p0)] := hl
  refine lv_iload_n hx hb dX5_isNation_0 rfl (lv_at hl 0 rfl) ?_
  refine mm_if_lt (X := p0.toInt) (tgt := 14) hx hb dX5_isNation_1 (by decide) rfl (fun c_1 => ?_) (fun c_1 => ?_)
  · refine lv_iconst (v := 0) hx hb dX5_isNation_14 (by decide) ?_
    exact cr_rz (mc := 0) (ms := 0) (X := 0) E hr hlk hsz hM ⟨show (0 : Nat) ≤ 0 from by omega, show (0 : Nat) ≤ 0 from by omega⟩ num_0 (by omega) ⟨⟨rfl, rfl, rfl, rfl⟩, (show ((0 : Int32).toInt = 1 ∧ 0 ≤ p0.toInt ∧ p0.toInt < 8) ∨ ((0 : Int32).toInt = 0 ∧ ¬ (0 ≤ p0.toInt ∧ p0.toInt < 8)) from by have n9 := num_0; omega)⟩ dX5_isNation_15
  · refine lv_iload_n hx hb dX5_isNation_4 rfl (lv_at hl 0 rfl) ?_
    refine lv_bipush (v := 8) hx hb dX5_isNation_5 (by decide) ?_
    refine mm_icmp_ge (X := p0.toInt) (Y := 8) (tgt := 14) hx hb dX5_isNation_7 (by decide) rfl num_8 (fun c_2 => ?_) (fun c_2 => ?_)
    · refine lv_iconst (v := 0) hx hb dX5_isNation_14 (by decide) ?_
      exact cr_rz (mc := 0) (ms := 0) (X := 0) E hr hlk hsz hM ⟨show (0 : Nat) ≤ 0 from by omega, show (0 : Nat) ≤ 0 from by omega⟩ num_0 (by omega) ⟨⟨rfl, rfl, rfl, rfl⟩, (show ((0 : Int32).toInt = 1 ∧ 0 ≤ p0.toInt ∧ p0.toInt < 8) ∨ ((0 : Int32).toInt = 0 ∧ ¬ (0 ≤ p0.toInt ∧ p0.toInt < 8)) from by have n9 := num_0; omega)⟩ dX5_isNation_15
    · refine lv_iconst (v := 1) hx hb dX5_isNation_10 (by decide) ?_
      refine lv_goto (tgt := 15) hx hb dX5_isNation_11 (by decide) ?_
      exact cr_rz (mc := 0) (ms := 0) (X := 1) E hr hlk hsz hM ⟨show (0 : Nat) ≤ 0 from by omega, show (0 : Nat) ≤ 0 from by omega⟩ num_1 (by omega) ⟨⟨rfl, rfl, rfl, rfl⟩, (show ((1 : Int32).toInt = 1 ∧ 0 ≤ p0.toInt ∧ p0.toInt < 8) ∨ ((1 : Int32).toInt = 0 ∧ ¬ (0 ≤ p0.toInt ∧ p0.toInt < 8)) from by have n9 := num_1; omega)⟩ dX5_isNation_15
def w4X5_pass : List Cond := .code yX5_pass cX5_pass 2 (some .int) :: ([.fieldLink RX5 70 "SkiShots" "today" "I"] ++ wsX50)
set_option maxHeartbeats 4000000 in
set_option maxRecDepth 100000 in
theorem h4_X5_pass (l : Launch) (D : va_G) (cA : Nat → ClassId) (ad av : Nat → Nat) (L : List Nat) (K : Nat → Nat) (I : Nat → Nat → Int32) (O : Nat → Nat → Option Nat) (sz : Nat) (x0 : Nat) (p0 : Int32) (hI : cI L K I O) (mx0 : x0 ∈ L) (kx0 : K x0 = 5)  : Met l yX5_pass w4X5_pass ({ frames := 0, cells := 0, slots := 0, locals := 0 }) (cPre D cA ad av L K I O sz [.ref x0, .int p0]) (cQi D cA L K I O sz [] [(5, 6)] [] (fun r L' K' I' O' => (0 ≤ p0.toInt ∧ p0.toInt + (I x0 6).toInt ≤ 200 ∧ r.toInt = (I x0 6).toInt + p0.toInt ∧ (I' x0 6).toInt = (I x0 6).toInt + p0.toInt) ∨ (¬ (0 ≤ p0.toInt ∧ p0.toInt + (I x0 6).toInt ≤ 200) ∧ r.toInt = -1 ∧ (I' x0 6).toInt = (I x0 6).toInt))) 0 0 (va_A (cW cA L K I O) sz) := by
  refine cr_met (own := RX5) (xs := []) (WI := [(5, 6)]) (WO := []) (cc := cX5_pass) (maxL := 2) (ret := (some .int)) (by decide) rfl rfl (Nat.le_of_ble_eq_true rfl) hI ?_
  intro p e s m args below meth c ls E hV hml hr hlk hname hsz hA hM hl
  have hx := E.1
  have hb := E.2.1
  have hts := E.2.2.1
  have hown := E.2.2.2.1
  have hl : lv_has ls 2 [(0, .ref x0), (1, .int p0)] := hl
  have hin5 : ∀ w ∈ wsX50, w ∈ w4X5_pass := by decide +kernel
  refine lv_iload_n hx hb dX5_pass_0 rfl (lv_at hl 1 rfl) ?_
  refine mm_if_lt (X := p0.toInt) (tgt := 16) hx hb dX5_pass_1 (by decide) rfl (fun c_1 => ?_) (fun c_1 => ?_)
  · refine lv_iconst (v := (-1)) hx hb dX5_pass_16 (by decide) ?_
    have b_2 : 0 ≤ (I x0 6).toInt ∧ (I x0 6).toInt ≤ 200 := hM.ib mx0 kx0 6 rfl
    exact cr_ri (mc := 0) (ms := 0) E hr hlk hsz hM ⟨show (0 : Nat) ≤ 0 from by omega, show (0 : Nat) ≤ 0 from by omega⟩ (show (0 ≤ p0.toInt ∧ p0.toInt + (I x0 6).toInt ≤ 200 ∧ ((-1) : Int32).toInt = (I x0 6).toInt + p0.toInt ∧ (I x0 6).toInt = (I x0 6).toInt + p0.toInt) ∨ (¬ (0 ≤ p0.toInt ∧ p0.toInt + (I x0 6).toInt ≤ 200) ∧ ((-1) : Int32).toInt = -1 ∧ (I x0 6).toInt = (I x0 6).toInt) from by have n9 := num_m1; omega) dX5_pass_17
  · refine lv_iload_n hx hb dX5_pass_4 rfl (lv_at hl 1 rfl) ?_
    refine lv_sipush (v := 200) hx hb dX5_pass_5 (by decide) ?_
    refine lv_aload_n hx hb dX5_pass_8 rfl (lv_at hl 0 rfl) ?_
    have b_3 : 0 ≤ (I x0 6).toInt ∧ (I x0 6).toInt ≤ 200 := hM.ib mx0 kx0 6 rfl
    refine cr_get (κ := 5) (ci := 5) (k := 6) (C := RX5) (T := TX5) (N := 13) (fs := cfs 5) (v := .int (I x0 6)) E hM mx0 kx0 (fun _ _ => rfl) rfl hin5 (by decide) (index := 70) (mm_at 1 rfl) rfl rfl dX5_pass_9 ?_
    refine mm_isub (X := 200) (Y := (I x0 6).toInt) hx hb dX5_pass_12 num_200 rfl (by omega) (fun z_4 hz_4 => ?_)
    refine mm_icmp_le (X := p0.toInt) (Y := z_4.toInt) (tgt := 18) hx hb dX5_pass_13 (by decide) rfl rfl (fun c_5 => ?_) (fun c_5 => ?_)
    · refine lv_aload_n hx hb dX5_pass_18 rfl (lv_at hl 0 rfl) ?_
      refine lv_dup hx hb dX5_pass_19 rfl ?_
      refine cr_get (κ := 5) (ci := 5) (k := 6) (C := RX5) (T := TX5) (N := 13) (fs := cfs 5) (v := .int (I x0 6)) E hM mx0 kx0 (fun _ _ => rfl) rfl hin5 (by decide) (index := 70) (mm_at 1 rfl) rfl rfl dX5_pass_20 ?_
      refine lv_iload_n hx hb dX5_pass_23 rfl (lv_at hl 1 rfl) ?_
      refine mm_iadd (X := (I x0 6).toInt) (Y := p0.toInt) hx hb dX5_pass_24 rfl rfl (by omega) (fun z_6 hz_6 => ?_)
      refine cr_puti (κ := 5) (ci := 5) (k := 6) (C := RX5) (T := TX5) (N := 13) (fs := cfs 5) (ty := .int) (v := z_6) E hM mx0 kx0 (fun _ _ => rfl) rfl hin5 tyX5 tyX5_ok nmX5 (by decide) (index := 70) (mm_at 1 rfl) rfl (Or.inl rfl) (by decide +kernel) rfl rfl (show (6 : Nat) < 13 from by decide) (fun _ _ _ => rfl) (cz_bd (X := z_6.toInt) (a := 0) (b := 200) rfl rfl (by omega)) (cS_upd (hM.sp mx0 kx0) (by decide) (by decide)) (Or.inr (Or.inr rfl)) dX5_pass_25 (fun H locs I_7 eI_7 hM => ?_)
      refine lv_aload_n hx hb dX5_pass_28 rfl (lv_at hl 0 rfl) ?_
      have b_8 : 0 ≤ (I_7 x0 6).toInt ∧ (I_7 x0 6).toInt ≤ 200 := hM.ib mx0 kx0 6 rfl
      have e_9 : (I_7 x0 6).toInt = z_6.toInt := (congrArg Int32.toInt (cu_s eI_7)).trans rfl
      refine cr_get (κ := 5) (ci := 5) (k := 6) (C := RX5) (T := TX5) (N := 13) (fs := cfs 5) (v := .int (I_7 x0 6)) E hM mx0 kx0 (fun _ _ => rfl) rfl hin5 (by decide) (index := 70) (mm_at 1 rfl) rfl rfl dX5_pass_29 ?_
      exact cr_ri (mc := 0) (ms := 0) E hr hlk hsz hM ⟨show (0 : Nat) ≤ 0 from by omega, show (0 : Nat) ≤ 0 from by omega⟩ (show (0 ≤ p0.toInt ∧ p0.toInt + (I x0 6).toInt ≤ 200 ∧ (I_7 x0 6).toInt = (I x0 6).toInt + p0.toInt ∧ (I_7 x0 6).toInt = (I x0 6).toInt + p0.toInt) ∨ (¬ (0 ≤ p0.toInt ∧ p0.toInt + (I x0 6).toInt ≤ 200) ∧ (I_7 x0 6).toInt = -1 ∧ (I_7 x0 6).toInt = (I x0 6).toInt) from by omega) dX5_pass_32
    · refine lv_iconst (v := (-1)) hx hb dX5_pass_16 (by decide) ?_
      exact cr_ri (mc := 0) (ms := 0) E hr hlk hsz hM ⟨show (0 : Nat) ≤ 0 from by omega, show (0 : Nat) ≤ 0 from by omega⟩ (show (0 ≤ p0.toInt ∧ p0.toInt + (I x0 6).toInt ≤ 200 ∧ ((-1) : Int32).toInt = (I x0 6).toInt + p0.toInt ∧ (I x0 6).toInt = (I x0 6).toInt + p0.toInt) ∨ (¬ (0 ≤ p0.toInt ∧ p0.toInt + (I x0 6).toInt ≤ 200) ∧ ((-1) : Int32).toInt = -1 ∧ (I x0 6).toInt = (I x0 6).toInt) from by have n9 := num_m1; omega) dX5_pass_17
def w4X2_hasEvent : List Cond := .code yX2_hasEvent cX2_hasEvent 3 (some .boolean) :: ([.fieldLink RX2 15 "SkiShots$Format" "laps" "I", .fieldLink RX2 18 "SkiShots$Format" "shootings" "I"] ++ wsX20)
set_option maxHeartbeats 4000000 in
set_option maxRecDepth 100000 in
theorem h4_X2_hasEvent (l : Launch) (D : va_G) (cA : Nat → ClassId) (ad av : Nat → Nat) (L : List Nat) (K : Nat → Nat) (I : Nat → Nat → Int32) (O : Nat → Nat → Option Nat) (sz : Nat) (x0 : Nat) (p0 : Int32) (p1 : Int32) (hI : cI L K I O) (mx0 : x0 ∈ L) (kx0 : K x0 = 2)  : Met l yX2_hasEvent w4X2_hasEvent ({ frames := 0, cells := 0, slots := 0, locals := 0 }) (cPre D cA ad av L K I O sz [.ref x0, .int p0, .int p1]) (cQi D cA L K I O sz [] [] [] (fun r L' K' I' O' => (L' = L ∧ K' = K ∧ I' = I ∧ O' = O) ∧ (True))) 0 0 (va_A (cW cA L K I O) sz) := by
  refine cr_met (own := RX2) (xs := []) (WI := []) (WO := []) (cc := cX2_hasEvent) (maxL := 3) (ret := (some .boolean)) (by decide) rfl rfl (Nat.le_of_ble_eq_true rfl) hI ?_
  intro p e s m args below meth c ls E hV hml hr hlk hname hsz hA hM hl
  have hx := E.1
  have hb := E.2.1
  have hts := E.2.2.1
  have hown := E.2.2.2.1
  have hl : lv_has ls 3 [(0, .ref x0), (1, .int p0), (2, .int p1)] := hl
  have hin2 : ∀ w ∈ wsX20, w ∈ w4X2_hasEvent := by decide +kernel
  refine lv_iload_n hx hb dX2_hasEvent_0 rfl (lv_at hl 1 rfl) ?_
  by_cases s_1 : p0.toInt = 0
  · refine lv_tableIn (tgt := 32) (off := 31) hx hb dX2_hasEvent_1 (by omega) (by omega) (by rw [s_1]; rfl) (by decide) ?_
    refine lv_iload_n hx hb dX2_hasEvent_32 rfl (lv_at hl 2 rfl) ?_
    refine lv_iconst (v := 1) hx hb dX2_hasEvent_33 (by decide) ?_
    refine mm_icmp_lt (X := p1.toInt) (Y := 1) (tgt := 49) hx hb dX2_hasEvent_34 (by decide) rfl num_1 (fun c_2 => ?_) (fun c_2 => ?_)
    · refine lv_iconst (v := 0) hx hb dX2_hasEvent_49 (by decide) ?_
      exact cr_rz (mc := 0) (ms := 0) (X := 0) E hr hlk hsz hM ⟨show (0 : Nat) ≤ 0 from by omega, show (0 : Nat) ≤ 0 from by omega⟩ num_0 (by omega) ⟨⟨rfl, rfl, rfl, rfl⟩, trivial⟩ dX2_hasEvent_50
    · refine lv_iload_n hx hb dX2_hasEvent_37 rfl (lv_at hl 2 rfl) ?_
      refine lv_aload_n hx hb dX2_hasEvent_38 rfl (lv_at hl 0 rfl) ?_
      refine cr_get (κ := 2) (ci := 2) (k := 1) (C := RX2) (T := TX2) (N := 8) (fs := cfs 2) (v := .int (I x0 1)) E hM mx0 kx0 (fun _ _ => rfl) rfl hin2 (by decide) (index := 15) (mm_at 1 rfl) rfl rfl dX2_hasEvent_39 ?_
      refine mm_icmp_gt (X := p1.toInt) (Y := (I x0 1).toInt) (tgt := 49) hx hb dX2_hasEvent_42 (by decide) rfl rfl (fun c_3 => ?_) (fun c_3 => ?_)
      · refine lv_iconst (v := 0) hx hb dX2_hasEvent_49 (by decide) ?_
        exact cr_rz (mc := 0) (ms := 0) (X := 0) E hr hlk hsz hM ⟨show (0 : Nat) ≤ 0 from by omega, show (0 : Nat) ≤ 0 from by omega⟩ num_0 (by omega) ⟨⟨rfl, rfl, rfl, rfl⟩, trivial⟩ dX2_hasEvent_50
      · refine lv_iconst (v := 1) hx hb dX2_hasEvent_45 (by decide) ?_
        refine lv_goto (tgt := 50) hx hb dX2_hasEvent_46 (by decide) ?_
        exact cr_rz (mc := 0) (ms := 0) (X := 1) E hr hlk hsz hM ⟨show (0 : Nat) ≤ 0 from by omega, show (0 : Nat) ≤ 0 from by omega⟩ num_1 (by omega) ⟨⟨rfl, rfl, rfl, rfl⟩, trivial⟩ dX2_hasEvent_50
  by_cases s_4 : p0.toInt = 1
  · refine lv_tableIn (tgt := 51) (off := 50) hx hb dX2_hasEvent_1 (by omega) (by omega) (by rw [s_4]; rfl) (by decide) ?_
    refine lv_iload_n hx hb dX2_hasEvent_51 rfl (lv_at hl 2 rfl) ?_
    refine mm_if_lt (X := p1.toInt) (tgt := 67) hx hb dX2_hasEvent_52 (by decide) rfl (fun c_5 => ?_) (fun c_5 => ?_)
    · refine lv_iconst (v := 0) hx hb dX2_hasEvent_67 (by decide) ?_
      exact cr_rz (mc := 0) (ms := 0) (X := 0) E hr hlk hsz hM ⟨show (0 : Nat) ≤ 0 from by omega, show (0 : Nat) ≤ 0 from by omega⟩ num_0 (by omega) ⟨⟨rfl, rfl, rfl, rfl⟩, trivial⟩ dX2_hasEvent_68
    · refine lv_iload_n hx hb dX2_hasEvent_55 rfl (lv_at hl 2 rfl) ?_
      refine lv_aload_n hx hb dX2_hasEvent_56 rfl (lv_at hl 0 rfl) ?_
      refine cr_get (κ := 2) (ci := 2) (k := 2) (C := RX2) (T := TX2) (N := 8) (fs := cfs 2) (v := .int (I x0 2)) E hM mx0 kx0 (fun _ _ => rfl) rfl hin2 (by decide) (index := 18) (mm_at 2 rfl) rfl rfl dX2_hasEvent_57 ?_
      refine mm_icmp_ge (X := p1.toInt) (Y := (I x0 2).toInt) (tgt := 67) hx hb dX2_hasEvent_60 (by decide) rfl rfl (fun c_6 => ?_) (fun c_6 => ?_)
      · refine lv_iconst (v := 0) hx hb dX2_hasEvent_67 (by decide) ?_
        exact cr_rz (mc := 0) (ms := 0) (X := 0) E hr hlk hsz hM ⟨show (0 : Nat) ≤ 0 from by omega, show (0 : Nat) ≤ 0 from by omega⟩ num_0 (by omega) ⟨⟨rfl, rfl, rfl, rfl⟩, trivial⟩ dX2_hasEvent_68
      · refine lv_iconst (v := 1) hx hb dX2_hasEvent_63 (by decide) ?_
        refine lv_goto (tgt := 68) hx hb dX2_hasEvent_64 (by decide) ?_
        exact cr_rz (mc := 0) (ms := 0) (X := 1) E hr hlk hsz hM ⟨show (0 : Nat) ≤ 0 from by omega, show (0 : Nat) ≤ 0 from by omega⟩ num_1 (by omega) ⟨⟨rfl, rfl, rfl, rfl⟩, trivial⟩ dX2_hasEvent_68
  by_cases s_7 : p0.toInt = 2
  · refine lv_tableIn (tgt := 51) (off := 50) hx hb dX2_hasEvent_1 (by omega) (by omega) (by rw [s_7]; rfl) (by decide) ?_
    refine lv_iload_n hx hb dX2_hasEvent_51 rfl (lv_at hl 2 rfl) ?_
    refine mm_if_lt (X := p1.toInt) (tgt := 67) hx hb dX2_hasEvent_52 (by decide) rfl (fun c_8 => ?_) (fun c_8 => ?_)
    · refine lv_iconst (v := 0) hx hb dX2_hasEvent_67 (by decide) ?_
      exact cr_rz (mc := 0) (ms := 0) (X := 0) E hr hlk hsz hM ⟨show (0 : Nat) ≤ 0 from by omega, show (0 : Nat) ≤ 0 from by omega⟩ num_0 (by omega) ⟨⟨rfl, rfl, rfl, rfl⟩, trivial⟩ dX2_hasEvent_68
    · refine lv_iload_n hx hb dX2_hasEvent_55 rfl (lv_at hl 2 rfl) ?_
      refine lv_aload_n hx hb dX2_hasEvent_56 rfl (lv_at hl 0 rfl) ?_
      refine cr_get (κ := 2) (ci := 2) (k := 2) (C := RX2) (T := TX2) (N := 8) (fs := cfs 2) (v := .int (I x0 2)) E hM mx0 kx0 (fun _ _ => rfl) rfl hin2 (by decide) (index := 18) (mm_at 2 rfl) rfl rfl dX2_hasEvent_57 ?_
      refine mm_icmp_ge (X := p1.toInt) (Y := (I x0 2).toInt) (tgt := 67) hx hb dX2_hasEvent_60 (by decide) rfl rfl (fun c_9 => ?_) (fun c_9 => ?_)
      · refine lv_iconst (v := 0) hx hb dX2_hasEvent_67 (by decide) ?_
        exact cr_rz (mc := 0) (ms := 0) (X := 0) E hr hlk hsz hM ⟨show (0 : Nat) ≤ 0 from by omega, show (0 : Nat) ≤ 0 from by omega⟩ num_0 (by omega) ⟨⟨rfl, rfl, rfl, rfl⟩, trivial⟩ dX2_hasEvent_68
      · refine lv_iconst (v := 1) hx hb dX2_hasEvent_63 (by decide) ?_
        refine lv_goto (tgt := 68) hx hb dX2_hasEvent_64 (by decide) ?_
        exact cr_rz (mc := 0) (ms := 0) (X := 1) E hr hlk hsz hM ⟨show (0 : Nat) ≤ 0 from by omega, show (0 : Nat) ≤ 0 from by omega⟩ num_1 (by omega) ⟨⟨rfl, rfl, rfl, rfl⟩, trivial⟩ dX2_hasEvent_68
  by_cases s_10 : p0.toInt = 3
  · refine lv_tableIn (tgt := 69) (off := 68) hx hb dX2_hasEvent_1 (by omega) (by omega) (by rw [s_10]; rfl) (by decide) ?_
    refine lv_iload_n hx hb dX2_hasEvent_69 rfl (lv_at hl 2 rfl) ?_
    refine mm_if_ne (X := p1.toInt) (tgt := 77) hx hb dX2_hasEvent_70 (by decide) rfl (fun c_11 => ?_) (fun c_11 => ?_)
    · refine lv_iconst (v := 0) hx hb dX2_hasEvent_77 (by decide) ?_
      exact cr_rz (mc := 0) (ms := 0) (X := 0) E hr hlk hsz hM ⟨show (0 : Nat) ≤ 0 from by omega, show (0 : Nat) ≤ 0 from by omega⟩ num_0 (by omega) ⟨⟨rfl, rfl, rfl, rfl⟩, trivial⟩ dX2_hasEvent_78
    · refine lv_iconst (v := 1) hx hb dX2_hasEvent_73 (by decide) ?_
      refine lv_goto (tgt := 78) hx hb dX2_hasEvent_74 (by decide) ?_
      exact cr_rz (mc := 0) (ms := 0) (X := 1) E hr hlk hsz hM ⟨show (0 : Nat) ≤ 0 from by omega, show (0 : Nat) ≤ 0 from by omega⟩ num_1 (by omega) ⟨⟨rfl, rfl, rfl, rfl⟩, trivial⟩ dX2_hasEvent_78
  · refine lv_tableOut (tgt := 79) hx hb dX2_hasEvent_1 (by omega) (by decide) ?_
    refine lv_iconst (v := 0) hx hb dX2_hasEvent_79 (by decide) ?_
    exact cr_rz (mc := 0) (ms := 0) (X := 0) E hr hlk hsz hM ⟨show (0 : Nat) ≤ 0 from by omega, show (0 : Nat) ≤ 0 from by omega⟩ num_0 (by omega) ⟨⟨rfl, rfl, rfl, rfl⟩, trivial⟩ dX2_hasEvent_80
def w4X0_sinceStart : List Cond := .code yX0_sinceStart cX0_sinceStart 2 (some .int) :: ([.fieldLink RX0 36 "SkiShots$Entry" "start" "I"] ++ wsX00)
set_option maxHeartbeats 4000000 in
set_option maxRecDepth 100000 in
theorem h4_X0_sinceStart (l : Launch) (D : va_G) (cA : Nat → ClassId) (ad av : Nat → Nat) (L : List Nat) (K : Nat → Nat) (I : Nat → Nat → Int32) (O : Nat → Nat → Option Nat) (sz : Nat) (x0 : Nat) (p0 : Int32) (hI : cI L K I O) (mx0 : x0 ∈ L) (kx0 : K x0 = 0)  : Met l yX0_sinceStart w4X0_sinceStart ({ frames := 0, cells := 0, slots := 0, locals := 0 }) (cPre D cA ad av L K I O sz [.ref x0, .int p0]) (cQi D cA L K I O sz [] [] [] (fun r L' K' I' O' => (L' = L ∧ K' = K ∧ I' = I ∧ O' = O) ∧ (True))) 0 0 (va_A (cW cA L K I O) sz) := by
  refine cr_met (own := RX0) (xs := []) (WI := []) (WO := []) (cc := cX0_sinceStart) (maxL := 2) (ret := (some .int)) (by decide) rfl rfl (Nat.le_of_ble_eq_true rfl) hI ?_
  intro p e s m args below meth c ls E hV hml hr hlk hname hsz hA hM hl
  have hx := E.1
  have hb := E.2.1
  have hts := E.2.2.1
  have hown := E.2.2.2.1
  have hl : lv_has ls 2 [(0, .ref x0), (1, .int p0)] := hl
  have hin0 : ∀ w ∈ wsX00, w ∈ w4X0_sinceStart := by decide +kernel
  refine lv_aload_n hx hb dX0_sinceStart_0 rfl (lv_at hl 0 rfl) ?_
  refine cr_get (κ := 0) (ci := 0) (k := 2) (C := RX0) (T := TX0) (N := 10) (fs := cfs 0) (v := .int (I x0 2)) E hM mx0 kx0 (fun _ _ => rfl) rfl hin0 (by decide) (index := 36) (mm_at 1 rfl) rfl rfl dX0_sinceStart_1 ?_
  refine lv_iconst (v := (-1)) hx hb dX0_sinceStart_4 (by decide) ?_
  refine mm_icmp_eq (X := (I x0 2).toInt) (Y := (-1)) (tgt := 21) hx hb dX0_sinceStart_5 (by decide) rfl num_m1 (fun c_1 => ?_) (fun c_1 => ?_)
  · refine lv_iconst (v := (-1)) hx hb dX0_sinceStart_21 (by decide) ?_
    refine lv_goto (tgt := 31) hx hb dX0_sinceStart_22 (by decide) ?_
    exact cr_ri (mc := 0) (ms := 0) E hr hlk hsz hM ⟨show (0 : Nat) ≤ 0 from by omega, show (0 : Nat) ≤ 0 from by omega⟩ ⟨⟨rfl, rfl, rfl, rfl⟩, trivial⟩ dX0_sinceStart_31
  · refine lv_iload_n hx hb dX0_sinceStart_8 rfl (lv_at hl 1 rfl) ?_
    refine lv_iconst (v := (-1)) hx hb dX0_sinceStart_9 (by decide) ?_
    refine mm_icmp_eq (X := p0.toInt) (Y := (-1)) (tgt := 21) hx hb dX0_sinceStart_10 (by decide) rfl num_m1 (fun c_2 => ?_) (fun c_2 => ?_)
    · refine lv_iconst (v := (-1)) hx hb dX0_sinceStart_21 (by decide) ?_
      refine lv_goto (tgt := 31) hx hb dX0_sinceStart_22 (by decide) ?_
      exact cr_ri (mc := 0) (ms := 0) E hr hlk hsz hM ⟨show (0 : Nat) ≤ 0 from by omega, show (0 : Nat) ≤ 0 from by omega⟩ ⟨⟨rfl, rfl, rfl, rfl⟩, trivial⟩ dX0_sinceStart_31
    · refine lv_iload_n hx hb dX0_sinceStart_13 rfl (lv_at hl 1 rfl) ?_
      refine lv_aload_n hx hb dX0_sinceStart_14 rfl (lv_at hl 0 rfl) ?_
      refine cr_get (κ := 0) (ci := 0) (k := 2) (C := RX0) (T := TX0) (N := 10) (fs := cfs 0) (v := .int (I x0 2)) E hM mx0 kx0 (fun _ _ => rfl) rfl hin0 (by decide) (index := 36) (mm_at 1 rfl) rfl rfl dX0_sinceStart_15 ?_
      refine mm_icmp_ge (X := p0.toInt) (Y := (I x0 2).toInt) (tgt := 25) hx hb dX0_sinceStart_18 (by decide) rfl rfl (fun c_3 => ?_) (fun c_3 => ?_)
      · refine lv_iload_n hx hb dX0_sinceStart_25 rfl (lv_at hl 1 rfl) ?_
        refine lv_aload_n hx hb dX0_sinceStart_26 rfl (lv_at hl 0 rfl) ?_
        refine cr_get (κ := 0) (ci := 0) (k := 2) (C := RX0) (T := TX0) (N := 10) (fs := cfs 0) (v := .int (I x0 2)) E hM mx0 kx0 (fun _ _ => rfl) rfl hin0 (by decide) (index := 36) (mm_at 1 rfl) rfl rfl dX0_sinceStart_27 ?_
        refine mm_isubU hx hb dX0_sinceStart_30 (fun z_4 => ?_)
        exact cr_ri (mc := 0) (ms := 0) E hr hlk hsz hM ⟨show (0 : Nat) ≤ 0 from by omega, show (0 : Nat) ≤ 0 from by omega⟩ ⟨⟨rfl, rfl, rfl, rfl⟩, trivial⟩ dX0_sinceStart_31
      · refine lv_iconst (v := (-1)) hx hb dX0_sinceStart_21 (by decide) ?_
        refine lv_goto (tgt := 31) hx hb dX0_sinceStart_22 (by decide) ?_
        exact cr_ri (mc := 0) (ms := 0) E hr hlk hsz hM ⟨show (0 : Nat) ≤ 0 from by omega, show (0 : Nat) ≤ 0 from by omega⟩ ⟨⟨rfl, rfl, rfl, rfl⟩, trivial⟩ dX0_sinceStart_31
def w4X0_hasTime : List Cond := .code yX0_hasTime cX0_hasTime 1 (some .boolean) :: ([.fieldLink RX0 39 "SkiShots$Entry" "low" "I"] ++ wsX00)
set_option maxHeartbeats 4000000 in
set_option maxRecDepth 100000 in
theorem h4_X0_hasTime (l : Launch) (D : va_G) (cA : Nat → ClassId) (ad av : Nat → Nat) (L : List Nat) (K : Nat → Nat) (I : Nat → Nat → Int32) (O : Nat → Nat → Option Nat) (sz : Nat) (x0 : Nat) (hI : cI L K I O) (mx0 : x0 ∈ L) (kx0 : K x0 = 0)  : Met l yX0_hasTime w4X0_hasTime ({ frames := 0, cells := 0, slots := 0, locals := 0 }) (cPre D cA ad av L K I O sz [.ref x0]) (cQi D cA L K I O sz [] [] [] (fun r L' K' I' O' => (L' = L ∧ K' = K ∧ I' = I ∧ O' = O) ∧ (True))) 0 0 (va_A (cW cA L K I O) sz) := by
  refine cr_met (own := RX0) (xs := []) (WI := []) (WO := []) (cc := cX0_hasTime) (maxL := 1) (ret := (some .boolean)) (by decide) rfl rfl (Nat.le_of_ble_eq_true rfl) hI ?_
  intro p e s m args below meth c ls E hV hml hr hlk hname hsz hA hM hl
  have hx := E.1
  have hb := E.2.1
  have hts := E.2.2.1
  have hown := E.2.2.2.1
  have hl : lv_has ls 1 [(0, .ref x0)] := hl
  have hin0 : ∀ w ∈ wsX00, w ∈ w4X0_hasTime := by decide +kernel
  refine lv_aload_n hx hb dX0_hasTime_0 rfl (lv_at hl 0 rfl) ?_
  refine cr_get (κ := 0) (ci := 0) (k := 3) (C := RX0) (T := TX0) (N := 10) (fs := cfs 0) (v := .int (I x0 3)) E hM mx0 kx0 (fun _ _ => rfl) rfl hin0 (by decide) (index := 39) (mm_at 1 rfl) rfl rfl dX0_hasTime_1 ?_
  refine lv_iconst (v := (-1)) hx hb dX0_hasTime_4 (by decide) ?_
  refine mm_icmp_eq (X := (I x0 3).toInt) (Y := (-1)) (tgt := 12) hx hb dX0_hasTime_5 (by decide) rfl num_m1 (fun c_1 => ?_) (fun c_1 => ?_)
  · refine lv_iconst (v := 0) hx hb dX0_hasTime_12 (by decide) ?_
    exact cr_rz (mc := 0) (ms := 0) (X := 0) E hr hlk hsz hM ⟨show (0 : Nat) ≤ 0 from by omega, show (0 : Nat) ≤ 0 from by omega⟩ num_0 (by omega) ⟨⟨rfl, rfl, rfl, rfl⟩, trivial⟩ dX0_hasTime_13
  · refine lv_iconst (v := 1) hx hb dX0_hasTime_8 (by decide) ?_
    refine lv_goto (tgt := 13) hx hb dX0_hasTime_9 (by decide) ?_
    exact cr_rz (mc := 0) (ms := 0) (X := 1) E hr hlk hsz hM ⟨show (0 : Nat) ≤ 0 from by omega, show (0 : Nat) ≤ 0 from by omega⟩ num_1 (by omega) ⟨⟨rfl, rfl, rfl, rfl⟩, trivial⟩ dX0_hasTime_13
