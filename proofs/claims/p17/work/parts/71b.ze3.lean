theorem runLo_nn (lp run : Int) : 0 ≤ runLo lp run := by
  unfold runLo
  (repeat' split) <;> omega
theorem runHi_nn (lp run : Int) : 0 ≤ runHi lp run := by
  unfold runHi
  (repeat' split) <;> omega
theorem penLo_bd {lp c b run : Int} (h : 0 ≤ c ∧ c ≤ 600) : 0 ≤ penLo lp (10 * c) b run ∧ penLo lp (10 * c) b run ≤ 30000 := by
  have h1 := fewS_bd b
  have h2 := runLo_nn lp run
  unfold penLo
  split
  · exact wk_mul5 (by omega) (by omega)
  · omega
theorem penHi_bd {lp c b run : Int} (h : 0 ≤ c ∧ c ≤ 600) : 0 ≤ penHi lp (10 * c) b run ∧ penHi lp (10 * c) b run ≤ 30000 := by
  have h1 := manyS_bd b
  have h2 := runHi_nn lp run
  unfold penHi
  split
  · exact wk_mul5 (by omega) (by omega)
  · omega
def w5X0_workOut : List Cond := .code yX0_workOut cX0_workOut 5 none :: ([.fieldLink RX0 62 "SkiShots$Format" "shootings" "I", .fieldLink RX0 46 "SkiShots$Entry" "struck" "Z", .fieldLink RX0 71 "SkiShots$Format" "laps" "I", .methodLink RX0 42 yX0_known, .instanceMethod yX0_known, .selects RX0 yX0_known yX0_known, .initialized RX0, .code yX0_known cX0_known 5 (some .int), .fieldLink RX0 19 "SkiShots$Event" "day" "I", .fieldLink RX0 33 "SkiShots$Event" "before" "LSkiShots$Event;", .fieldLink RX0 24 "SkiShots$Event" "sort" "I", .fieldLink RX0 27 "SkiShots$Event" "k" "I", .fieldLink RX0 30 "SkiShots$Event" "v" "I", .fieldLink RX0 15 "SkiShots$Entry" "latest" "LSkiShots$Event;", .methodLink RX0 74 yX0_sinceStart, .instanceMethod yX0_sinceStart, .selects RX0 yX0_sinceStart yX0_sinceStart, .code yX0_sinceStart cX0_sinceStart 2 (some .int), .fieldLink RX0 36 "SkiShots$Entry" "start" "I", .fieldLink RX0 56 "SkiShots$Entry" "leastPenalty" "I", .fieldLink RX0 39 "SkiShots$Entry" "low" "I", .fieldLink RX0 59 "SkiShots$Entry" "greatestPenalty" "I", .fieldLink RX0 78 "SkiShots$Entry" "high" "I", .methodLink RX0 67 yX0_addShooting, .instanceMethod yX0_addShooting, .selects RX0 yX0_addShooting yX0_addShooting, .code yX0_addShooting cX0_addShooting 11 none, .methodLink RX0 81 yJ6_bitCount_0f7a4, .static yJ6_bitCount_0f7a4, .initialized RJ6, .code yJ6_bitCount_0f7a4 cJ6_bitCount_0f7a4 1 (some .int), .constant RJ6 265 (1431655765), .constant RJ6 266 (858993459), .constant RJ6 267 (252645135), .fieldLink RX0 86 "SkiShots$Format" "loops" "Z", .fieldLink RX0 89 "SkiShots$Format" "missSeconds" "I", .fieldLink RX0 50 "SkiShots$Entry" "fewestMisses" "I", .fieldLink RX0 53 "SkiShots$Entry" "mostMisses" "I", .methodLink RX0 92 Lib.Math.max.name, .static Lib.Math.max.name, .initialized "java/lang/Math", .code Lib.Math.max.name Lib.Math.max.code 2 (some .int)] ++ wsX00 ++ wsX10 ++ wsX20)
set_option maxRecDepth 20000 in
theorem gz_X0_workOut_X0_known_7 : GoodIn w5X0_workOut (wsV RX0 42 RX0 yX0_known w5X0_known) := goodIn_p _ [8] rfl (by decide +kernel)
set_option maxRecDepth 20000 in
theorem gz_X0_workOut_X0_sinceStart_12 : GoodIn w5X0_workOut (wsV RX0 74 RX0 yX0_sinceStart w5X0_sinceStart) := goodIn_p _ [18] rfl (by decide +kernel)
set_option maxRecDepth 20000 in
theorem gz_X0_workOut_X0_addShooting_75 : GoodIn w5X0_workOut (wsV RX0 67 RX0 yX0_addShooting w5X0_addShooting) := goodIn_p _ [27, 8, 31, 42] rfl (by decide +kernel)
set_option maxRecDepth 20000 in
theorem gz_X0_workOut_X0_known_88 : GoodIn w5X0_workOut (wsV RX0 42 RX0 yX0_known w5X0_known) := goodIn_p _ [8] rfl (by decide +kernel)
set_option maxHeartbeats 4000000 in
set_option maxRecDepth 100000 in
theorem h5_X0_workOut (l : Launch) (D : va_G) (cA : Nat → ClassId) (ad av : Nat → Nat) (L : List Nat) (K : Nat → Nat) (I : Nat → Nat → Int32) (O : Nat → Nat → Option Nat) (sz : Nat) (x0 : Nat) (p0 : Nat) (p1 : Int32) (p2 : Int32) (hI : cI L K I O) (mx0 : x0 ∈ L) (kx0 : K x0 = 0) (mp0 : p0 ∈ L) (kp0 : K p0 = 2) (Fe : Nat → Int32) (Ge : Nat → Nat → Int32) (re : Int) (ve : Int) (hev : lEv Ge re ve L K I O (Fe 31).toInt.toNat (O x0 1)) (hbd : ∀ k : Int, (-1 ≤ kN Ge re ve 0 k p2.toInt (Fe 31).toInt.toNat ∧ kN Ge re ve 0 k p2.toInt (Fe 31).toInt.toNat ≤ 200000) ∧ (-1 ≤ kN Ge re ve 1 k p2.toInt (Fe 31).toInt.toNat ∧ kN Ge re ve 1 k p2.toInt (Fe 31).toInt.toNat ≤ 31) ∧ (-1 ≤ kN Ge re ve 2 k p2.toInt (Fe 31).toInt.toNat ∧ kN Ge re ve 2 k p2.toInt (Fe 31).toInt.toNat ≤ 9) ∧ (-1 ≤ kN Ge re ve 3 k p2.toInt (Fe 31).toInt.toNat ∧ kN Ge re ve 3 k p2.toInt (Fe 31).toInt.toNat ≤ 1)) (h19 : (I p0 1).toInt = (Ge 19 re.toNat).toInt) (h20 : (I p0 2).toInt = (Ge 20 re.toNat).toInt) (h22 : (I p0 4).toInt = (Ge 22 re.toNat).toInt) (h23 : (I p0 5).toInt = (Ge 23 re.toNat).toInt) (hco : 0 ≤ (I p0 5).toInt ∧ (I p0 5).toInt ≤ 600) (hsh : 0 ≤ (I p0 2).toInt ∧ (I p0 2).toInt ≤ 4) (hbg : -1 ≤ p1.toInt ∧ p1.toInt ≤ 1000000) : Met l yX0_workOut w5X0_workOut ({ frames := 2, cells := 0, slots := 0, locals := 54 }) (cPre D cA ad av L K I O sz [.ref x0, .ref p0, .int p1, .int p2]) (cQv D cA L K I O sz [] [(0, 2), (0, 3), (0, 4), (0, 5), (0, 6), (0, 7), (0, 8), (0, 9)] [] (fun L' K' I' O' => (I' x0 2).toInt = p1.toInt ∧ (I' x0 5).toInt = (if kN Ge re ve 3 0 p2.toInt (Fe 31).toInt.toNat = 1 then 1 else 0) ∧ (I' x0 6).toInt = sumS (wkMl Fe Ge re ve p2.toInt) (Ge 20 re.toNat).toInt.toNat ∧ (I' x0 7).toInt = sumS (wkMh Fe Ge re ve p2.toInt) (Ge 20 re.toNat).toInt.toNat ∧ (I' x0 3).toInt = lowS p1.toInt (kN Ge re ve 0 (Ge 19 re.toNat).toInt p2.toInt (Fe 31).toInt.toNat) (sumS (wkA Fe Ge re ve p2.toInt) (Ge 20 re.toNat).toInt.toNat) (kN Ge re ve 3 0 p2.toInt (Fe 31).toInt.toNat) ∧ (I' x0 4).toInt = lowS p1.toInt (kN Ge re ve 0 (Ge 19 re.toNat).toInt p2.toInt (Fe 31).toInt.toNat) (sumS (wkB Fe Ge re ve p2.toInt) (Ge 20 re.toNat).toInt.toNat) (kN Ge re ve 3 0 p2.toInt (Fe 31).toInt.toNat) ∧ (∀ a : Nat, a ∈ L → K a = 0 → ¬ a = x0 → ∀ j : Nat, I' a j = I a j))) 0 0 (va_A (cW cA L K I O) sz) := by
  refine cr_met (own := RX0) (xs := []) (WI := [(0, 2), (0, 3), (0, 4), (0, 5), (0, 6), (0, 7), (0, 8), (0, 9)]) (WO := []) (cc := cX0_workOut) (maxL := 5) (ret := none) (by decide) rfl rfl (Nat.le_of_ble_eq_true rfl) hI ?_
  intro p e s m args below meth c ls E hV hml hr hlk hname hsz hA hM hl
  have hx := E.1
  have hb := E.2.1
  have hts := E.2.2.1
  have hown := E.2.2.2.1
  have hl : lv_has ls 5 [(0, .ref x0), (1, .ref p0), (2, .int p1), (3, .int p2)] := hl
  have hin0 : ∀ w ∈ wsX00, w ∈ w5X0_workOut := by decide +kernel
  have hin1 : ∀ w ∈ wsX10, w ∈ w5X0_workOut := by decide +kernel
  have hin2 : ∀ w ∈ wsX20, w ∈ w5X0_workOut := by decide +kernel
  have B_48 : ∀ n_48 : Nat, ∀ (H : Heap) (locs : List Loc) (ls : Array Slot) (Lc_48 : List Nat) (Kc_48 : Nat → Nat) (Ic_48 : Nat → Nat → Int32) (Oc_48 : Nat → Nat → Option Nat) (k : Int32), (0 ≤ k.toInt ∧ k.toInt ≤ 4) → (Ic_48 x0 2).toInt = p1.toInt → (Ic_48 x0 5).toInt = (if kN Ge re ve 3 0 p2.toInt (Fe 31).toInt.toNat = 1 then 1 else 0) → k.toInt ≤ (I p0 2).toInt → (Ic_48 x0 6).toInt = sumS (wkMl Fe Ge re ve p2.toInt) k.toInt.toNat → (Ic_48 x0 7).toInt = sumS (wkMh Fe Ge re ve p2.toInt) k.toInt.toNat → (Ic_48 x0 8).toInt = sumS (wkA Fe Ge re ve p2.toInt) k.toInt.toNat → (Ic_48 x0 9).toInt = sumS (wkB Fe Ge re ve p2.toInt) k.toInt.toNat → 0 ≤ (Ic_48 x0 6).toInt ∧ (Ic_48 x0 6).toInt ≤ 5 * k.toInt → 0 ≤ (Ic_48 x0 7).toInt ∧ (Ic_48 x0 7).toInt ≤ 5 * k.toInt → 0 ≤ (Ic_48 x0 8).toInt ∧ (Ic_48 x0 8).toInt ≤ 30000 * k.toInt → 0 ≤ (Ic_48 x0 9).toInt ∧ (Ic_48 x0 9).toInt ≤ 30000 * k.toInt → (∀ a : Nat, a ∈ L → K a = 0 → ¬ a = x0 → ∀ j : Nat, Ic_48 a j = I a j) → (5 - k.toInt) < (n_48 : Int) → cQ D cA (va_A (cW cA L K I O) sz) s.heap [] [(0, 2), (0, 3), (0, 4), (0, 5), (0, 6), (0, 7), (0, 8), (0, 9)] [] L K I O H locs Lc_48 Kc_48 Ic_48 Oc_48 → lv_has ls 5 [(0, .ref x0), (1, .ref p0), (2, .int p1), (3, .int p2), (4, .int k)] → W p l e ({ frames := 2, cells := 0, slots := 0, locals := 54 }) s m args below meth c H locs 0 0 (MQ below (cQv D cA L K I O sz [] [(0, 2), (0, 3), (0, 4), (0, 5), (0, 6), (0, 7), (0, 8), (0, 9)] [] (fun L' K' I' O' => (I' x0 2).toInt = p1.toInt ∧ (I' x0 5).toInt = (if kN Ge re ve 3 0 p2.toInt (Fe 31).toInt.toNat = 1 then 1 else 0) ∧ (I' x0 6).toInt = sumS (wkMl Fe Ge re ve p2.toInt) (Ge 20 re.toNat).toInt.toNat ∧ (I' x0 7).toInt = sumS (wkMh Fe Ge re ve p2.toInt) (Ge 20 re.toNat).toInt.toNat ∧ (I' x0 3).toInt = lowS p1.toInt (kN Ge re ve 0 (Ge 19 re.toNat).toInt p2.toInt (Fe 31).toInt.toNat) (sumS (wkA Fe Ge re ve p2.toInt) (Ge 20 re.toNat).toInt.toNat) (kN Ge re ve 3 0 p2.toInt (Fe 31).toInt.toNat) ∧ (I' x0 4).toInt = lowS p1.toInt (kN Ge re ve 0 (Ge 19 re.toNat).toInt p2.toInt (Fe 31).toInt.toNat) (sumS (wkB Fe Ge re ve p2.toInt) (Ge 20 re.toNat).toInt.toNat) (kN Ge re ve 3 0 p2.toInt (Fe 31).toInt.toNat) ∧ (∀ a : Nat, a ∈ L → K a = 0 → ¬ a = x0 → ∀ j : Nat, I' a j = I a j))) args s 0 0 (va_A (cW cA L K I O) sz)) (F0 m 48 ls []) := by
    intro n_48
    induction n_48 with
    | zero => intro H locs ls Lc_48 Kc_48 Ic_48 Oc_48 k f48_0 f48_1 f48_2 f48_3 f48_4 f48_5 f48_6 f48_7 f48_8 f48_9 f48_10 f48_11 f48_12 hn hM hl; exact False.elim (by omega)
    | succ n_48 ih_48 =>
      intro H locs ls Lc_48 Kc_48 Ic_48 Oc_48 k f48_0 f48_1 f48_2 f48_3 f48_4 f48_5 f48_6 f48_7 f48_8 f48_9 f48_10 f48_11 f48_12 hn hM hl
      have hfr_48 := hM.2.2.2.2
      have m_1 := (hfr_48 x0 mx0 (fun z => by cases z)).1
      have k_1 : Kc_48 x0 = 0 := (hfr_48 x0 mx0 (fun z => by cases z)).2.1.trans kx0
      have m_2 := (hfr_48 p0 mp0 (fun z => by cases z)).1
      have k_2 : Kc_48 p0 = 2 := (hfr_48 p0 mp0 (fun z => by cases z)).2.1.trans kp0
      refine lv_iload hx hb dX0_workOut_48 (lv_at hl 4 rfl) ?_
      refine lv_aload_n hx hb dX0_workOut_50 rfl (lv_at hl 1 rfl) ?_
      have e_3 : (Ic_48 p0 2).toInt = (I p0 2).toInt := congrArg Int32.toInt ((hfr_48 p0 mp0 (fun z => by cases z)).2.2.1 2 (by rw [kp0]; rfl))
      refine cr_get (κ := 2) (ci := 2) (k := 2) (C := RX2) (T := TX2) (N := 8) (fs := cfs 2) (v := .int (Ic_48 p0 2)) E hM m_2 k_2 (fun _ _ => rfl) rfl hin2 (by decide) (index := 62) (mm_at 1 rfl) rfl rfl dX0_workOut_51 ?_
      refine mm_icmp_ge (X := k.toInt) (Y := (Ic_48 p0 2).toInt) (tgt := 71) hx hb dX0_workOut_54 (by decide) rfl rfl (fun c_4 => ?_) (fun c_4 => ?_)
      · have h5k : (Ic_48 x0 5).toInt = (if kN Ge re ve 3 0 p2.toInt (Fe 31).toInt.toNat = 1 then 1 else 0) := f48_2
        have h5s : ((Ic_48 x0 5).toInt = 1 ∧ kN Ge re ve 3 0 p2.toInt (Fe 31).toInt.toNat = 1) ∨ ((Ic_48 x0 5).toInt = 0 ∧ ¬ kN Ge re ve 3 0 p2.toInt (Fe 31).toInt.toNat = 1) := by
          rw [h5k]
          split <;> omega
        refine lv_aload_n hx hb dX0_workOut_71 rfl (lv_at hl 0 rfl) ?_
        refine cr_get (κ := 0) (ci := 0) (k := 5) (C := RX0) (T := TX0) (N := 10) (fs := cfs 0) (v := .int (Ic_48 x0 5)) E hM m_1 k_1 (fun _ _ => rfl) rfl hin0 (by decide) (index := 46) (mm_at 2 rfl) rfl rfl dX0_workOut_72 ?_
        refine mm_if_eq (X := (Ic_48 x0 5).toInt) (tgt := 82) hx hb dX0_workOut_75 (by decide) rfl (fun c_5 => ?_) (fun c_5 => ?_)
        · refine lv_aload_n hx hb dX0_workOut_82 rfl (lv_at hl 0 rfl) ?_
          refine lv_aload_n hx hb dX0_workOut_83 rfl (lv_at hl 0 rfl) ?_
          refine lv_iconst (v := 0) hx hb dX0_workOut_84 (by decide) ?_
          refine lv_aload_n hx hb dX0_workOut_85 rfl (lv_at hl 1 rfl) ?_
          have e_6 : (Ic_48 p0 1).toInt = (I p0 1).toInt := congrArg Int32.toInt ((hfr_48 p0 mp0 (fun z => by cases z)).2.2.1 1 (by rw [kp0]; rfl))
          refine cr_get (κ := 2) (ci := 2) (k := 1) (C := RX2) (T := TX2) (N := 8) (fs := cfs 2) (v := .int (Ic_48 p0 1)) E hM m_2 k_2 (fun _ _ => rfl) rfl hin2 (by decide) (index := 71) (mm_at 3 rfl) rfl rfl dX0_workOut_86 ?_
          refine lv_iload_n hx hb dX0_workOut_89 rfl (lv_at hl 3 rfl) ?_
          refine cc_Vip (vs := [.int 0, .int (Ic_48 p0 1), .int p2]) (rest := [.ref x0]) (b := x0) (κ := 0) E hV rfl hA hml hM m_1 k_1 rfl rfl (h5_X0_known l D cA ad av Lc_48 Kc_48 Ic_48 Oc_48 _ x0 0 (Ic_48 p0 1) p2 hM.2.2.2.1 m_1 k_1 Fe Ge re ve (by rw [show Oc_48 x0 1 = O x0 1 from (hM.2.2.2.2 x0 mx0 (fun z => by cases z)).2.2.2 1 (by rw [kx0]; rfl)]; exact lEv_fr hev hM.2.2.2.2 (fun _ => rfl) rfl)) (cwV 3 hts gz_X0_workOut_X0_known_7 rfl rfl rfl (by decide +kernel) ⟨Nat.le_of_ble_eq_true rfl, Nat.le_of_ble_eq_true rfl⟩) rfl hl.1 rfl (Nat.le_of_ble_eq_true rfl) dX0_workOut_90 ⟨show (0 : Nat) ≤ 0 from by omega, show (0 : Nat) ≤ 0 from by omega⟩ (fun r_8 H locs p_9 hM => ?_)
          replace p_9 : r_8.toInt = kN Ge re ve (0 : Int32).toInt (Ic_48 p0 1).toInt p2.toInt (Fe 31).toInt.toNat := p_9
          have nn_11 := num_0
          have ke : kN Ge re ve 0 (Ge 19 re.toNat).toInt p2.toInt (Fe 31).toInt.toNat = r_8.toInt := by rw [p_9, show ((0 : Int32)).toInt = 0 from by decide, show (Ic_48 p0 1).toInt = (Ge 19 re.toNat).toInt from by omega]
          have keb := (hbd (Ge 19 re.toNat).toInt).1
          rw [ke] at keb
          refine cc_Vip (vs := [.int r_8]) (rest := []) (b := x0) (κ := 0) E hV rfl hA hml hM m_1 k_1 rfl rfl (h5_X0_sinceStart l D cA ad av Lc_48 Kc_48 Ic_48 Oc_48 _ x0 r_8 hM.2.2.2.1 m_1 k_1 (show -1 ≤ r_8.toInt ∧ r_8.toInt ≤ 200000 from by omega) (show -1 ≤ (Ic_48 x0 2).toInt from by omega)) (cwV 1 hts gz_X0_workOut_X0_sinceStart_12 rfl rfl rfl (by decide +kernel) ⟨Nat.le_of_ble_eq_true rfl, Nat.le_of_ble_eq_true rfl⟩) rfl hl.1 rfl (Nat.le_of_ble_eq_true rfl) dX0_workOut_93 ⟨show (0 : Nat) ≤ 0 from by omega, show (0 : Nat) ≤ 0 from by omega⟩ (fun r_13 H locs p_14 hM => ?_)
          replace p_14 : ((r_13.toInt = -1 ∧ ((Ic_48 x0 2).toInt < 0 ∨ r_8.toInt < (Ic_48 x0 2).toInt)) ∨ (0 ≤ (Ic_48 x0 2).toInt ∧ (Ic_48 x0 2).toInt ≤ r_8.toInt ∧ r_13.toInt = r_8.toInt - (Ic_48 x0 2).toInt)) := p_14
          refine lv_istore (lv' := [(4, .int r_13), (0, .ref x0), (1, .ref p0), (2, .int p1), (3, .int p2)]) hx hb dX0_workOut_96 hl (by decide) rfl (fun ls hl => ?_)
          refine lv_aload_n hx hb dX0_workOut_98 rfl (lv_at hl 1 rfl) ?_
          refine lv_iload hx hb dX0_workOut_99 (lv_at hl 0 rfl) ?_
          refine lv_iconst (v := (-1)) hx hb dX0_workOut_101 (by decide) ?_
          refine mm_icmp_ne (X := r_13.toInt) (Y := (-1)) (tgt := 109) hx hb dX0_workOut_102 (by decide) rfl num_m1 (fun c_16 => ?_) (fun c_16 => ?_)
          · refine lv_iload hx hb dX0_workOut_109 (lv_at hl 0 rfl) ?_
            refine lv_aload_n hx hb dX0_workOut_111 rfl (lv_at hl 1 rfl) ?_
            refine cr_get (κ := 0) (ci := 0) (k := 8) (C := RX0) (T := TX0) (N := 10) (fs := cfs 0) (v := .int (Ic_48 x0 8)) E hM m_1 k_1 (fun _ _ => rfl) rfl hin0 (by decide) (index := 56) (mm_at 20 rfl) rfl rfl dX0_workOut_112 ?_
            refine mm_iadd (X := r_13.toInt) (Y := (Ic_48 x0 8).toInt) hx hb dX0_workOut_115 rfl rfl (by omega) (fun z_17 hz_17 => ?_)
            refine cr_puti (κ := 0) (ci := 0) (k := 3) (C := RX0) (T := TX0) (N := 10) (fs := cfs 0) (ty := .int) (v := z_17) E hM m_1 k_1 (fun _ _ => rfl) rfl hin0 tyX0 tyX0_ok nmX0 (by decide) (index := 39) (mm_at 21 rfl) rfl (Or.inl rfl) (by decide +kernel) rfl rfl (show (3 : Nat) < 10 from by decide) (fun _ _ _ => rfl) (cz_nb rfl) (cS_upd (hM.sp m_1 k_1) (by decide) (by decide)) (Or.inr (Or.inr rfl)) dX0_workOut_116 (fun H locs I_18 eI_18 hM => ?_)
            refine lv_aload_n hx hb dX0_workOut_119 rfl (lv_at hl 1 rfl) ?_
            refine lv_iload hx hb dX0_workOut_120 (lv_at hl 0 rfl) ?_
            refine lv_iconst (v := (-1)) hx hb dX0_workOut_122 (by decide) ?_
            refine mm_icmp_ne (X := r_13.toInt) (Y := (-1)) (tgt := 130) hx hb dX0_workOut_123 (by decide) rfl num_m1 (fun c_19 => ?_) (fun c_19 => ?_)
            · refine lv_iload hx hb dX0_workOut_130 (lv_at hl 0 rfl) ?_
              refine lv_aload_n hx hb dX0_workOut_132 rfl (lv_at hl 1 rfl) ?_
              have e_20 : (I_18 x0 9).toInt = (Ic_48 x0 9).toInt := congrArg Int32.toInt (cu_k eI_18 (by decide))
              refine cr_get (κ := 0) (ci := 0) (k := 9) (C := RX0) (T := TX0) (N := 10) (fs := cfs 0) (v := .int (I_18 x0 9)) E hM m_1 k_1 (fun _ _ => rfl) rfl hin0 (by decide) (index := 59) (mm_at 22 rfl) rfl rfl dX0_workOut_133 ?_
              refine mm_iadd (X := r_13.toInt) (Y := (I_18 x0 9).toInt) hx hb dX0_workOut_136 rfl rfl (by omega) (fun z_21 hz_21 => ?_)
              refine cr_puti (κ := 0) (ci := 0) (k := 4) (C := RX0) (T := TX0) (N := 10) (fs := cfs 0) (ty := .int) (v := z_21) E hM m_1 k_1 (fun _ _ => rfl) rfl hin0 tyX0 tyX0_ok nmX0 (by decide) (index := 78) (mm_at 23 rfl) rfl (Or.inl rfl) (by decide +kernel) rfl rfl (show (4 : Nat) < 10 from by decide) (fun _ _ _ => rfl) (cz_nb rfl) (cS_upd (hM.sp m_1 k_1) (by decide) (by decide)) (Or.inr (Or.inr rfl)) dX0_workOut_137 (fun H locs I_22 eI_22 hM => ?_)
              have e_23 : (I_18 x0 2).toInt = (Ic_48 x0 2).toInt := congrArg Int32.toInt (cu_k eI_18 (by decide))
              have e_24 : (I_22 x0 2).toInt = (I_18 x0 2).toInt := congrArg Int32.toInt (cu_k eI_22 (by decide))
              have e_25 : (I_18 x0 5).toInt = (Ic_48 x0 5).toInt := congrArg Int32.toInt (cu_k eI_18 (by decide))
              have e_26 : (I_22 x0 5).toInt = (I_18 x0 5).toInt := congrArg Int32.toInt (cu_k eI_22 (by decide))
              have e_27 : (I_18 x0 6).toInt = (Ic_48 x0 6).toInt := congrArg Int32.toInt (cu_k eI_18 (by decide))
              have e_28 : (I_22 x0 6).toInt = (I_18 x0 6).toInt := congrArg Int32.toInt (cu_k eI_22 (by decide))
              have e_29 : (I_18 x0 7).toInt = (Ic_48 x0 7).toInt := congrArg Int32.toInt (cu_k eI_18 (by decide))
              have e_30 : (I_22 x0 7).toInt = (I_18 x0 7).toInt := congrArg Int32.toInt (cu_k eI_22 (by decide))
              have e_31 : (I_18 x0 3).toInt = z_17.toInt := (congrArg Int32.toInt (cu_s eI_18)).trans rfl
              have e_32 : (I_22 x0 3).toInt = (I_18 x0 3).toInt := congrArg Int32.toInt (cu_k eI_22 (by decide))
              have e_33 : (I_22 x0 4).toInt = z_21.toInt := (congrArg Int32.toInt (cu_s eI_22)).trans rfl
              exact cr_rv (mc := 0) (ms := 0) E hr hlk hsz hM ⟨show (0 : Nat) ≤ 0 from by omega, show (0 : Nat) ≤ 0 from by omega⟩ (show (I_22 x0 2).toInt = p1.toInt ∧ (I_22 x0 5).toInt = (if kN Ge re ve 3 0 p2.toInt (Fe 31).toInt.toNat = 1 then 1 else 0) ∧ (I_22 x0 6).toInt = sumS (wkMl Fe Ge re ve p2.toInt) (Ge 20 re.toNat).toInt.toNat ∧ (I_22 x0 7).toInt = sumS (wkMh Fe Ge re ve p2.toInt) (Ge 20 re.toNat).toInt.toNat ∧ (I_22 x0 3).toInt = lowS p1.toInt (kN Ge re ve 0 (Ge 19 re.toNat).toInt p2.toInt (Fe 31).toInt.toNat) (sumS (wkA Fe Ge re ve p2.toInt) (Ge 20 re.toNat).toInt.toNat) (kN Ge re ve 3 0 p2.toInt (Fe 31).toInt.toNat) ∧ (I_22 x0 4).toInt = lowS p1.toInt (kN Ge re ve 0 (Ge 19 re.toNat).toInt p2.toInt (Fe 31).toInt.toNat) (sumS (wkB Fe Ge re ve p2.toInt) (Ge 20 re.toNat).toInt.toNat) (kN Ge re ve 3 0 p2.toInt (Fe 31).toInt.toNat) ∧ (∀ a : Nat, a ∈ L → K a = 0 → ¬ a = x0 → ∀ j : Nat, I_22 a j = I a j) from by have ek : (Ge 20 re.toNat).toInt.toNat = k.toInt.toNat := (by omega); exact ⟨by omega, (by rw [show (I_22 x0 5).toInt = (Ic_48 x0 5).toInt from by omega]; exact f48_2), (by rw [ek, ← f48_4]; omega), (by rw [ek, ← f48_5]; omega), (by rw [ek, ← f48_6]; unfold lowS; split <;> omega), (by rw [ek, ← f48_7]; unfold lowS; split <;> omega), fun a ha ka na j => (by have t1_ := hfr_48 a ha (fun z => by cases z); have k1_ := t1_.2.1.trans ka; have m1_ := t1_.1; exact ((congrFun (cu_a eI_22 na) j).trans ((congrFun (cu_a eI_18 na) j).trans (f48_12 a ha ka na j))))⟩) dX0_workOut_140
            · refine lv_iconst (v := (-1)) hx hb dX0_workOut_126 (by decide) ?_
              refine lv_goto (tgt := 137) hx hb dX0_workOut_127 (by decide) ?_
              refine cr_puti (κ := 0) (ci := 0) (k := 4) (C := RX0) (T := TX0) (N := 10) (fs := cfs 0) (ty := .int) (v := (-1)) E hM m_1 k_1 (fun _ _ => rfl) rfl hin0 tyX0 tyX0_ok nmX0 (by decide) (index := 78) (mm_at 23 rfl) rfl (Or.inl rfl) (by decide +kernel) rfl rfl (show (4 : Nat) < 10 from by decide) (fun _ _ _ => rfl) (cz_nb rfl) (cS_upd (hM.sp m_1 k_1) (by decide) (by decide)) (Or.inr (Or.inr rfl)) dX0_workOut_137 (fun H locs I_34 eI_34 hM => ?_)
              have e_35 : (I_18 x0 2).toInt = (Ic_48 x0 2).toInt := congrArg Int32.toInt (cu_k eI_18 (by decide))
              have e_36 : (I_34 x0 2).toInt = (I_18 x0 2).toInt := congrArg Int32.toInt (cu_k eI_34 (by decide))
              have e_37 : (I_18 x0 5).toInt = (Ic_48 x0 5).toInt := congrArg Int32.toInt (cu_k eI_18 (by decide))
              have e_38 : (I_34 x0 5).toInt = (I_18 x0 5).toInt := congrArg Int32.toInt (cu_k eI_34 (by decide))
              have e_39 : (I_18 x0 6).toInt = (Ic_48 x0 6).toInt := congrArg Int32.toInt (cu_k eI_18 (by decide))
              have e_40 : (I_34 x0 6).toInt = (I_18 x0 6).toInt := congrArg Int32.toInt (cu_k eI_34 (by decide))
              have e_41 : (I_18 x0 7).toInt = (Ic_48 x0 7).toInt := congrArg Int32.toInt (cu_k eI_18 (by decide))
              have e_42 : (I_34 x0 7).toInt = (I_18 x0 7).toInt := congrArg Int32.toInt (cu_k eI_34 (by decide))
              have e_43 : (I_18 x0 3).toInt = z_17.toInt := (congrArg Int32.toInt (cu_s eI_18)).trans rfl
              have e_44 : (I_34 x0 3).toInt = (I_18 x0 3).toInt := congrArg Int32.toInt (cu_k eI_34 (by decide))
              have e_45 : (I_34 x0 4).toInt = (-1) := (congrArg Int32.toInt (cu_s eI_34)).trans num_m1
              exact cr_rv (mc := 0) (ms := 0) E hr hlk hsz hM ⟨show (0 : Nat) ≤ 0 from by omega, show (0 : Nat) ≤ 0 from by omega⟩ (show (I_34 x0 2).toInt = p1.toInt ∧ (I_34 x0 5).toInt = (if kN Ge re ve 3 0 p2.toInt (Fe 31).toInt.toNat = 1 then 1 else 0) ∧ (I_34 x0 6).toInt = sumS (wkMl Fe Ge re ve p2.toInt) (Ge 20 re.toNat).toInt.toNat ∧ (I_34 x0 7).toInt = sumS (wkMh Fe Ge re ve p2.toInt) (Ge 20 re.toNat).toInt.toNat ∧ (I_34 x0 3).toInt = lowS p1.toInt (kN Ge re ve 0 (Ge 19 re.toNat).toInt p2.toInt (Fe 31).toInt.toNat) (sumS (wkA Fe Ge re ve p2.toInt) (Ge 20 re.toNat).toInt.toNat) (kN Ge re ve 3 0 p2.toInt (Fe 31).toInt.toNat) ∧ (I_34 x0 4).toInt = lowS p1.toInt (kN Ge re ve 0 (Ge 19 re.toNat).toInt p2.toInt (Fe 31).toInt.toNat) (sumS (wkB Fe Ge re ve p2.toInt) (Ge 20 re.toNat).toInt.toNat) (kN Ge re ve 3 0 p2.toInt (Fe 31).toInt.toNat) ∧ (∀ a : Nat, a ∈ L → K a = 0 → ¬ a = x0 → ∀ j : Nat, I_34 a j = I a j) from by have ek : (Ge 20 re.toNat).toInt.toNat = k.toInt.toNat := (by omega); exact ⟨by omega, (by rw [show (I_34 x0 5).toInt = (Ic_48 x0 5).toInt from by omega]; exact f48_2), (by rw [ek, ← f48_4]; omega), (by rw [ek, ← f48_5]; omega), (by rw [ek, ← f48_6]; unfold lowS; split <;> omega), (by rw [ek, ← f48_7]; unfold lowS; split <;> omega), fun a ha ka na j => (by have t1_ := hfr_48 a ha (fun z => by cases z); have k1_ := t1_.2.1.trans ka; have m1_ := t1_.1; exact ((congrFun (cu_a eI_34 na) j).trans ((congrFun (cu_a eI_18 na) j).trans (f48_12 a ha ka na j))))⟩) dX0_workOut_140
          · refine lv_iconst (v := (-1)) hx hb dX0_workOut_105 (by decide) ?_
            refine lv_goto (tgt := 116) hx hb dX0_workOut_106 (by decide) ?_
            refine cr_puti (κ := 0) (ci := 0) (k := 3) (C := RX0) (T := TX0) (N := 10) (fs := cfs 0) (ty := .int) (v := (-1)) E hM m_1 k_1 (fun _ _ => rfl) rfl hin0 tyX0 tyX0_ok nmX0 (by decide) (index := 39) (mm_at 21 rfl) rfl (Or.inl rfl) (by decide +kernel) rfl rfl (show (3 : Nat) < 10 from by decide) (fun _ _ _ => rfl) (cz_nb rfl) (cS_upd (hM.sp m_1 k_1) (by decide) (by decide)) (Or.inr (Or.inr rfl)) dX0_workOut_116 (fun H locs I_46 eI_46 hM => ?_)
            refine lv_aload_n hx hb dX0_workOut_119 rfl (lv_at hl 1 rfl) ?_
            refine lv_iload hx hb dX0_workOut_120 (lv_at hl 0 rfl) ?_
            refine lv_iconst (v := (-1)) hx hb dX0_workOut_122 (by decide) ?_
            refine mm_icmp_ne (X := r_13.toInt) (Y := (-1)) (tgt := 130) hx hb dX0_workOut_123 (by decide) rfl num_m1 (fun c_47 => False.elim (by omega)) (fun c_47 => ?_)
            refine lv_iconst (v := (-1)) hx hb dX0_workOut_126 (by decide) ?_
            refine lv_goto (tgt := 137) hx hb dX0_workOut_127 (by decide) ?_
            refine cr_puti (κ := 0) (ci := 0) (k := 4) (C := RX0) (T := TX0) (N := 10) (fs := cfs 0) (ty := .int) (v := (-1)) E hM m_1 k_1 (fun _ _ => rfl) rfl hin0 tyX0 tyX0_ok nmX0 (by decide) (index := 78) (mm_at 23 rfl) rfl (Or.inl rfl) (by decide +kernel) rfl rfl (show (4 : Nat) < 10 from by decide) (fun _ _ _ => rfl) (cz_nb rfl) (cS_upd (hM.sp m_1 k_1) (by decide) (by decide)) (Or.inr (Or.inr rfl)) dX0_workOut_137 (fun H locs I_48 eI_48 hM => ?_)
            have e_49 : (I_46 x0 2).toInt = (Ic_48 x0 2).toInt := congrArg Int32.toInt (cu_k eI_46 (by decide))
            have e_50 : (I_48 x0 2).toInt = (I_46 x0 2).toInt := congrArg Int32.toInt (cu_k eI_48 (by decide))
            have e_51 : (I_46 x0 5).toInt = (Ic_48 x0 5).toInt := congrArg Int32.toInt (cu_k eI_46 (by decide))
            have e_52 : (I_48 x0 5).toInt = (I_46 x0 5).toInt := congrArg Int32.toInt (cu_k eI_48 (by decide))
            have e_53 : (I_46 x0 6).toInt = (Ic_48 x0 6).toInt := congrArg Int32.toInt (cu_k eI_46 (by decide))
            have e_54 : (I_48 x0 6).toInt = (I_46 x0 6).toInt := congrArg Int32.toInt (cu_k eI_48 (by decide))
            have e_55 : (I_46 x0 7).toInt = (Ic_48 x0 7).toInt := congrArg Int32.toInt (cu_k eI_46 (by decide))
            have e_56 : (I_48 x0 7).toInt = (I_46 x0 7).toInt := congrArg Int32.toInt (cu_k eI_48 (by decide))
            have e_57 : (I_46 x0 3).toInt = (-1) := (congrArg Int32.toInt (cu_s eI_46)).trans num_m1
            have e_58 : (I_48 x0 3).toInt = (I_46 x0 3).toInt := congrArg Int32.toInt (cu_k eI_48 (by decide))
            have e_59 : (I_48 x0 4).toInt = (-1) := (congrArg Int32.toInt (cu_s eI_48)).trans num_m1
            exact cr_rv (mc := 0) (ms := 0) E hr hlk hsz hM ⟨show (0 : Nat) ≤ 0 from by omega, show (0 : Nat) ≤ 0 from by omega⟩ (show (I_48 x0 2).toInt = p1.toInt ∧ (I_48 x0 5).toInt = (if kN Ge re ve 3 0 p2.toInt (Fe 31).toInt.toNat = 1 then 1 else 0) ∧ (I_48 x0 6).toInt = sumS (wkMl Fe Ge re ve p2.toInt) (Ge 20 re.toNat).toInt.toNat ∧ (I_48 x0 7).toInt = sumS (wkMh Fe Ge re ve p2.toInt) (Ge 20 re.toNat).toInt.toNat ∧ (I_48 x0 3).toInt = lowS p1.toInt (kN Ge re ve 0 (Ge 19 re.toNat).toInt p2.toInt (Fe 31).toInt.toNat) (sumS (wkA Fe Ge re ve p2.toInt) (Ge 20 re.toNat).toInt.toNat) (kN Ge re ve 3 0 p2.toInt (Fe 31).toInt.toNat) ∧ (I_48 x0 4).toInt = lowS p1.toInt (kN Ge re ve 0 (Ge 19 re.toNat).toInt p2.toInt (Fe 31).toInt.toNat) (sumS (wkB Fe Ge re ve p2.toInt) (Ge 20 re.toNat).toInt.toNat) (kN Ge re ve 3 0 p2.toInt (Fe 31).toInt.toNat) ∧ (∀ a : Nat, a ∈ L → K a = 0 → ¬ a = x0 → ∀ j : Nat, I_48 a j = I a j) from by have ek : (Ge 20 re.toNat).toInt.toNat = k.toInt.toNat := (by omega); exact ⟨by omega, (by rw [show (I_48 x0 5).toInt = (Ic_48 x0 5).toInt from by omega]; exact f48_2), (by rw [ek, ← f48_4]; omega), (by rw [ek, ← f48_5]; omega), (by rw [ek, ← f48_6]; unfold lowS; split <;> omega), (by rw [ek, ← f48_7]; unfold lowS; split <;> omega), fun a ha ka na j => (by have t1_ := hfr_48 a ha (fun z => by cases z); have k1_ := t1_.2.1.trans ka; have m1_ := t1_.1; exact ((congrFun (cu_a eI_48 na) j).trans ((congrFun (cu_a eI_46 na) j).trans (f48_12 a ha ka na j))))⟩) dX0_workOut_140
        · refine lv_iconst (v := (-1)) hx hb dX0_workOut_78 (by decide) ?_
          refine lv_goto (tgt := 96) hx hb dX0_workOut_79 (by decide) ?_
          refine lv_istore (lv' := [(4, .int (-1)), (0, .ref x0), (1, .ref p0), (2, .int p1), (3, .int p2)]) hx hb dX0_workOut_96 hl (by decide) rfl (fun ls hl => ?_)
          refine lv_aload_n hx hb dX0_workOut_98 rfl (lv_at hl 1 rfl) ?_
          refine lv_iload hx hb dX0_workOut_99 (lv_at hl 0 rfl) ?_
          refine lv_iconst (v := (-1)) hx hb dX0_workOut_101 (by decide) ?_
          refine mm_icmp_ne (X := (-1)) (Y := (-1)) (tgt := 109) hx hb dX0_workOut_102 (by decide) num_m1 num_m1 (fun c_60 => False.elim (by omega)) (fun c_60 => ?_)
          refine lv_iconst (v := (-1)) hx hb dX0_workOut_105 (by decide) ?_
          refine lv_goto (tgt := 116) hx hb dX0_workOut_106 (by decide) ?_
          refine cr_puti (κ := 0) (ci := 0) (k := 3) (C := RX0) (T := TX0) (N := 10) (fs := cfs 0) (ty := .int) (v := (-1)) E hM m_1 k_1 (fun _ _ => rfl) rfl hin0 tyX0 tyX0_ok nmX0 (by decide) (index := 39) (mm_at 21 rfl) rfl (Or.inl rfl) (by decide +kernel) rfl rfl (show (3 : Nat) < 10 from by decide) (fun _ _ _ => rfl) (cz_nb rfl) (cS_upd (hM.sp m_1 k_1) (by decide) (by decide)) (Or.inr (Or.inr rfl)) dX0_workOut_116 (fun H locs I_61 eI_61 hM => ?_)
          refine lv_aload_n hx hb dX0_workOut_119 rfl (lv_at hl 1 rfl) ?_
          refine lv_iload hx hb dX0_workOut_120 (lv_at hl 0 rfl) ?_
          refine lv_iconst (v := (-1)) hx hb dX0_workOut_122 (by decide) ?_
          refine mm_icmp_ne (X := (-1)) (Y := (-1)) (tgt := 130) hx hb dX0_workOut_123 (by decide) num_m1 num_m1 (fun c_62 => False.elim (by omega)) (fun c_62 => ?_)
          refine lv_iconst (v := (-1)) hx hb dX0_workOut_126 (by decide) ?_
          refine lv_goto (tgt := 137) hx hb dX0_workOut_127 (by decide) ?_
          refine cr_puti (κ := 0) (ci := 0) (k := 4) (C := RX0) (T := TX0) (N := 10) (fs := cfs 0) (ty := .int) (v := (-1)) E hM m_1 k_1 (fun _ _ => rfl) rfl hin0 tyX0 tyX0_ok nmX0 (by decide) (index := 78) (mm_at 23 rfl) rfl (Or.inl rfl) (by decide +kernel) rfl rfl (show (4 : Nat) < 10 from by decide) (fun _ _ _ => rfl) (cz_nb rfl) (cS_upd (hM.sp m_1 k_1) (by decide) (by decide)) (Or.inr (Or.inr rfl)) dX0_workOut_137 (fun H locs I_63 eI_63 hM => ?_)
          have e_64 : (I_61 x0 2).toInt = (Ic_48 x0 2).toInt := congrArg Int32.toInt (cu_k eI_61 (by decide))
          have e_65 : (I_63 x0 2).toInt = (I_61 x0 2).toInt := congrArg Int32.toInt (cu_k eI_63 (by decide))
          have e_66 : (I_61 x0 5).toInt = (Ic_48 x0 5).toInt := congrArg Int32.toInt (cu_k eI_61 (by decide))
          have e_67 : (I_63 x0 5).toInt = (I_61 x0 5).toInt := congrArg Int32.toInt (cu_k eI_63 (by decide))
          have e_68 : (I_61 x0 6).toInt = (Ic_48 x0 6).toInt := congrArg Int32.toInt (cu_k eI_61 (by decide))
          have e_69 : (I_63 x0 6).toInt = (I_61 x0 6).toInt := congrArg Int32.toInt (cu_k eI_63 (by decide))
          have e_70 : (I_61 x0 7).toInt = (Ic_48 x0 7).toInt := congrArg Int32.toInt (cu_k eI_61 (by decide))
          have e_71 : (I_63 x0 7).toInt = (I_61 x0 7).toInt := congrArg Int32.toInt (cu_k eI_63 (by decide))
          have e_72 : (I_61 x0 3).toInt = (-1) := (congrArg Int32.toInt (cu_s eI_61)).trans num_m1
          have e_73 : (I_63 x0 3).toInt = (I_61 x0 3).toInt := congrArg Int32.toInt (cu_k eI_63 (by decide))
          have e_74 : (I_63 x0 4).toInt = (-1) := (congrArg Int32.toInt (cu_s eI_63)).trans num_m1
          exact cr_rv (mc := 0) (ms := 0) E hr hlk hsz hM ⟨show (0 : Nat) ≤ 0 from by omega, show (0 : Nat) ≤ 0 from by omega⟩ (show (I_63 x0 2).toInt = p1.toInt ∧ (I_63 x0 5).toInt = (if kN Ge re ve 3 0 p2.toInt (Fe 31).toInt.toNat = 1 then 1 else 0) ∧ (I_63 x0 6).toInt = sumS (wkMl Fe Ge re ve p2.toInt) (Ge 20 re.toNat).toInt.toNat ∧ (I_63 x0 7).toInt = sumS (wkMh Fe Ge re ve p2.toInt) (Ge 20 re.toNat).toInt.toNat ∧ (I_63 x0 3).toInt = lowS p1.toInt (kN Ge re ve 0 (Ge 19 re.toNat).toInt p2.toInt (Fe 31).toInt.toNat) (sumS (wkA Fe Ge re ve p2.toInt) (Ge 20 re.toNat).toInt.toNat) (kN Ge re ve 3 0 p2.toInt (Fe 31).toInt.toNat) ∧ (I_63 x0 4).toInt = lowS p1.toInt (kN Ge re ve 0 (Ge 19 re.toNat).toInt p2.toInt (Fe 31).toInt.toNat) (sumS (wkB Fe Ge re ve p2.toInt) (Ge 20 re.toNat).toInt.toNat) (kN Ge re ve 3 0 p2.toInt (Fe 31).toInt.toNat) ∧ (∀ a : Nat, a ∈ L → K a = 0 → ¬ a = x0 → ∀ j : Nat, I_63 a j = I a j) from by have ek : (Ge 20 re.toNat).toInt.toNat = k.toInt.toNat := (by omega); exact ⟨by omega, (by rw [show (I_63 x0 5).toInt = (Ic_48 x0 5).toInt from by omega]; exact f48_2), (by rw [ek, ← f48_4]; omega), (by rw [ek, ← f48_5]; omega), (by rw [ek, ← f48_6]; unfold lowS; split <;> omega), (by rw [ek, ← f48_7]; unfold lowS; split <;> omega), fun a ha ka na j => (by have t1_ := hfr_48 a ha (fun z => by cases z); have k1_ := t1_.2.1.trans ka; have m1_ := t1_.1; exact ((congrFun (cu_a eI_63 na) j).trans ((congrFun (cu_a eI_61 na) j).trans (f48_12 a ha ka na j))))⟩) dX0_workOut_140
      · refine lv_aload_n hx hb dX0_workOut_57 rfl (lv_at hl 0 rfl) ?_
        refine lv_aload_n hx hb dX0_workOut_58 rfl (lv_at hl 1 rfl) ?_
        refine lv_iload hx hb dX0_workOut_59 (lv_at hl 4 rfl) ?_
        refine lv_iload_n hx hb dX0_workOut_61 rfl (lv_at hl 3 rfl) ?_
        have e_76 : (Ic_48 p0 5).toInt = (I p0 5).toInt := congrArg Int32.toInt ((hfr_48 p0 mp0 (fun z => by cases z)).2.2.1 5 (by rw [kp0]; rfl))
        have e_77 : (Ic_48 p0 4).toInt = (I p0 4).toInt := congrArg Int32.toInt ((hfr_48 p0 mp0 (fun z => by cases z)).2.2.1 4 (by rw [kp0]; rfl))
        refine cc_Vv (vs := [.ref p0, .int k, .int p2]) (rest := []) (b := x0) (κ := 0) E hV rfl hA hml hM m_1 k_1 rfl rfl (h5_X0_addShooting l D cA ad av Lc_48 Kc_48 Ic_48 Oc_48 _ x0 p0 k p2 hM.2.2.2.1 m_1 k_1 m_2 k_2 Fe Ge re ve (by rw [show Oc_48 x0 1 = O x0 1 from (hM.2.2.2.2 x0 mx0 (fun z => by cases z)).2.2.2 1 (by rw [kx0]; rfl)]; exact lEv_fr hev hM.2.2.2.2 (fun _ => rfl) rfl) (hbd k.toInt).2.1 (hbd k.toInt).2.2.1 (show 0 ≤ (Ic_48 p0 5).toInt ∧ (Ic_48 p0 5).toInt ≤ 600 from by omega) (show 0 ≤ (Ic_48 x0 6).toInt ∧ (Ic_48 x0 6).toInt ≤ 1000 from by omega) (show 0 ≤ (Ic_48 x0 7).toInt ∧ (Ic_48 x0 7).toInt ≤ 1000 from by omega) (show 0 ≤ (Ic_48 x0 8).toInt ∧ (Ic_48 x0 8).toInt ≤ 10000000 from by omega) (show 0 ≤ (Ic_48 x0 9).toInt ∧ (Ic_48 x0 9).toInt ≤ 10000000 from by omega)) (cwV 3 hts gz_X0_workOut_X0_addShooting_75 rfl rfl rfl (by decide +kernel) ⟨Nat.le_of_ble_eq_true rfl, Nat.le_of_ble_eq_true rfl⟩) rfl hl.1 rfl (Nat.le_of_ble_eq_true rfl) dX0_workOut_62 ⟨show (0 + 0 : Nat) ≤ 0 from by omega, show (0 + 0 : Nat) ≤ 0 from by omega⟩ (fun _ h => by cases h) (by decide) (by decide) (fun L_80 K_80 I_80 O_80 H locs fr_80 p_79 hM => ?_)
        have m_81 := (fr_80 x0 m_1 (fun z => by cases z)).1
        have k_81 : K_80 x0 = 0 := (fr_80 x0 m_1 (fun z => by cases z)).2.1.trans k_1
        have m_82 := (fr_80 p0 m_2 (fun z => by cases z)).1
        have k_82 : K_80 p0 = 2 := (fr_80 p0 m_2 (fun z => by cases z)).2.1.trans k_2
        replace p_79 : (I_80 x0 6).toInt = (Ic_48 x0 6).toInt + fewS (kN Ge re ve 1 k.toInt p2.toInt (Fe 31).toInt.toNat) ∧ (I_80 x0 7).toInt = (Ic_48 x0 7).toInt + manyS (kN Ge re ve 1 k.toInt p2.toInt (Fe 31).toInt.toNat) ∧ (I_80 x0 8).toInt = (Ic_48 x0 8).toInt + penLo (Ic_48 p0 4).toInt (10 * (Ic_48 p0 5).toInt) (kN Ge re ve 1 k.toInt p2.toInt (Fe 31).toInt.toNat) (kN Ge re ve 2 k.toInt p2.toInt (Fe 31).toInt.toNat) ∧ (I_80 x0 9).toInt = (Ic_48 x0 9).toInt + penHi (Ic_48 p0 4).toInt (10 * (Ic_48 p0 5).toInt) (kN Ge re ve 1 k.toInt p2.toInt (Fe 31).toInt.toNat) (kN Ge re ve 2 k.toInt p2.toInt (Fe 31).toInt.toNat) ∧ (∀ a : Nat, a ∈ Lc_48 → Kc_48 a = 0 → ¬ a = x0 → ∀ j : Nat, I_80 a j = Ic_48 a j) := p_79
        rcases p_79 with ⟨s6_83, s7_83, s8_83, s9_83, fas_83⟩
        refine mm_iinc (X := k.toInt) (v := 1) (lv2 := fun z => [(4, .int z), (0, .ref x0), (1, .ref p0), (2, .int p1), (3, .int p2)]) hx hb dX0_workOut_65 hl (k := 4) rfl rfl (by decide) num_1 (by omega) (by decide) (fun _ => rfl) (fun z_84 ls hz_84 hl => ?_)
        have hl : lv_has ls 5 [(4, .int z_84), (0, .ref x0), (1, .ref p0), (2, .int p1), (3, .int p2)] := hl
        refine lv_goto (tgt := 48) hx hb dX0_workOut_68 (by decide) ?_
        have e_85 : (I_80 x0 2).toInt = (Ic_48 x0 2).toInt := congrArg Int32.toInt ((fr_80 x0 m_1 (fun z => by cases z)).2.2.1 2 (by rw [k_1]; rfl))
        have e_86 : (I_80 x0 5).toInt = (Ic_48 x0 5).toInt := congrArg Int32.toInt ((fr_80 x0 m_1 (fun z => by cases z)).2.2.1 5 (by rw [k_1]; rfl))
        exact ih_48 _ _ _ L_80 K_80 I_80 O_80 z_84    (show (0 ≤ z_84.toInt ∧ z_84.toInt ≤ 4) from by omega) (show (I_80 x0 2).toInt = p1.toInt from by omega) (show (I_80 x0 5).toInt = (if kN Ge re ve 3 0 p2.toInt (Fe 31).toInt.toNat = 1 then 1 else 0) from by rw [show (I_80 x0 5).toInt = (Ic_48 x0 5).toInt from by omega]; exact f48_2) (show z_84.toInt ≤ (I p0 2).toInt from by omega) (show (I_80 x0 6).toInt = sumS (wkMl Fe Ge re ve p2.toInt) z_84.toInt.toNat from by rw [show z_84.toInt.toNat = k.toInt.toNat + 1 from by omega, sumS_s, show wkMl Fe Ge re ve p2.toInt k.toInt.toNat = fewS (kN Ge re ve 1 k.toInt p2.toInt (Fe 31).toInt.toNat) from by unfold wkMl; rw [show ((k.toInt.toNat : Nat) : Int) = k.toInt from by omega]]; omega) (show (I_80 x0 7).toInt = sumS (wkMh Fe Ge re ve p2.toInt) z_84.toInt.toNat from by rw [show z_84.toInt.toNat = k.toInt.toNat + 1 from by omega, sumS_s, show wkMh Fe Ge re ve p2.toInt k.toInt.toNat = manyS (kN Ge re ve 1 k.toInt p2.toInt (Fe 31).toInt.toNat) from by unfold wkMh; rw [show ((k.toInt.toNat : Nat) : Int) = k.toInt from by omega]]; omega) (show (I_80 x0 8).toInt = sumS (wkA Fe Ge re ve p2.toInt) z_84.toInt.toNat from by rw [show z_84.toInt.toNat = k.toInt.toNat + 1 from by omega, sumS_s, show wkA Fe Ge re ve p2.toInt k.toInt.toNat = penLo (Ic_48 p0 4).toInt (10 * (Ic_48 p0 5).toInt) (kN Ge re ve 1 k.toInt p2.toInt (Fe 31).toInt.toNat) (kN Ge re ve 2 k.toInt p2.toInt (Fe 31).toInt.toNat) from by unfold wkA; rw [show ((k.toInt.toNat : Nat) : Int) = k.toInt from by omega, show (Ge 22 re.toNat).toInt = (Ic_48 p0 4).toInt from by omega, show (Ge 23 re.toNat).toInt = (Ic_48 p0 5).toInt from by omega]]; omega) (show (I_80 x0 9).toInt = sumS (wkB Fe Ge re ve p2.toInt) z_84.toInt.toNat from by rw [show z_84.toInt.toNat = k.toInt.toNat + 1 from by omega, sumS_s, show wkB Fe Ge re ve p2.toInt k.toInt.toNat = penHi (Ic_48 p0 4).toInt (10 * (Ic_48 p0 5).toInt) (kN Ge re ve 1 k.toInt p2.toInt (Fe 31).toInt.toNat) (kN Ge re ve 2 k.toInt p2.toInt (Fe 31).toInt.toNat) from by unfold wkB; rw [show ((k.toInt.toNat : Nat) : Int) = k.toInt from by omega, show (Ge 22 re.toNat).toInt = (Ic_48 p0 4).toInt from by omega, show (Ge 23 re.toNat).toInt = (Ic_48 p0 5).toInt from by omega]]; omega) (show 0 ≤ (I_80 x0 6).toInt ∧ (I_80 x0 6).toInt ≤ 5 * z_84.toInt from by have q1 := fewS_bd (kN Ge re ve 1 k.toInt p2.toInt (Fe 31).toInt.toNat); omega) (show 0 ≤ (I_80 x0 7).toInt ∧ (I_80 x0 7).toInt ≤ 5 * z_84.toInt from by have q1 := manyS_bd (kN Ge re ve 1 k.toInt p2.toInt (Fe 31).toInt.toNat); omega) (show 0 ≤ (I_80 x0 8).toInt ∧ (I_80 x0 8).toInt ≤ 30000 * z_84.toInt from by have q1 := penLo_bd (lp := (Ic_48 p0 4).toInt) (c := (Ic_48 p0 5).toInt) (b := kN Ge re ve 1 k.toInt p2.toInt (Fe 31).toInt.toNat) (run := kN Ge re ve 2 k.toInt p2.toInt (Fe 31).toInt.toNat) (by omega); omega) (show 0 ≤ (I_80 x0 9).toInt ∧ (I_80 x0 9).toInt ≤ 30000 * z_84.toInt from by have q1 := penHi_bd (lp := (Ic_48 p0 4).toInt) (c := (Ic_48 p0 5).toInt) (b := kN Ge re ve 1 k.toInt p2.toInt (Fe 31).toInt.toNat) (run := kN Ge re ve 2 k.toInt p2.toInt (Fe 31).toInt.toNat) (by omega); omega) (show (∀ a : Nat, a ∈ L → K a = 0 → ¬ a = x0 → ∀ j : Nat, I_80 a j = I a j) from by exact fun a ha ka na j => (by have t1_ := hfr_48 a ha (fun z => by cases z); have k1_ := t1_.2.1.trans ka; have m1_ := t1_.1; have t2_ := fr_80 a m1_ (fun z => by cases z); have k2_ := t2_.2.1.trans k1_; have m2_ := t2_.1; exact ((fas_83 a m1_ k1_ na j).trans (f48_12 a ha ka na j)))) (show (5 - z_84.toInt) < ((n_48 : Nat) : Int) from by omega) hM (lv_sub hl [1, 2, 3, 4, 0] rfl)
  refine lv_aload_n hx hb dX0_workOut_0 rfl (lv_at hl 0 rfl) ?_
  refine lv_iload_n hx hb dX0_workOut_1 rfl (lv_at hl 2 rfl) ?_
  refine cr_puti (κ := 0) (ci := 0) (k := 2) (C := RX0) (T := TX0) (N := 10) (fs := cfs 0) (ty := .int) (v := p1) E hM mx0 kx0 (fun _ _ => rfl) rfl hin0 tyX0 tyX0_ok nmX0 (by decide) (index := 36) (mm_at 19 rfl) rfl (Or.inl rfl) (by decide +kernel) rfl rfl (show (2 : Nat) < 10 from by decide) (fun _ _ _ => rfl) (cz_nb rfl) (cS_upd (hM.sp mx0 kx0) (by decide) (by decide)) (Or.inr (Or.inr rfl)) dX0_workOut_2 (fun H locs I_87 eI_87 hM => ?_)
  refine lv_aload_n hx hb dX0_workOut_5 rfl (lv_at hl 0 rfl) ?_
  refine lv_aload_n hx hb dX0_workOut_6 rfl (lv_at hl 0 rfl) ?_
  refine lv_iconst (v := 3) hx hb dX0_workOut_7 (by decide) ?_
  refine lv_iconst (v := 0) hx hb dX0_workOut_8 (by decide) ?_
  refine lv_iload_n hx hb dX0_workOut_9 rfl (lv_at hl 3 rfl) ?_
  refine cc_Vip (vs := [.int 3, .int 0, .int p2]) (rest := [.ref x0]) (b := x0) (κ := 0) E hV rfl hA hml hM mx0 kx0 rfl rfl (h5_X0_known l D cA ad av L K I_87 O _ x0 3 0 p2 hM.2.2.2.1 mx0 kx0 Fe Ge re ve (by rw [show O x0 1 = O x0 1 from (hM.2.2.2.2 x0 mx0 (fun z => by cases z)).2.2.2 1 (by rw [kx0]; rfl)]; exact lEv_fr hev hM.2.2.2.2 (fun _ => rfl) rfl)) (cwV 3 hts gz_X0_workOut_X0_known_88 rfl rfl rfl (by decide +kernel) ⟨Nat.le_of_ble_eq_true rfl, Nat.le_of_ble_eq_true rfl⟩) rfl hl.1 rfl (Nat.le_of_ble_eq_true rfl) dX0_workOut_10 ⟨show (0 : Nat) ≤ 0 from by omega, show (0 : Nat) ≤ 0 from by omega⟩ (fun r_89 H locs p_90 hM => ?_)
  replace p_90 : r_89.toInt = kN Ge re ve (3 : Int32).toInt (0 : Int32).toInt p2.toInt (Fe 31).toInt.toNat := p_90
  have nn_92 := num_3
  have nn_93 := num_0
  have ks : kN Ge re ve 3 0 p2.toInt (Fe 31).toInt.toNat = r_89.toInt := by rw [p_90, show ((3 : Int32)).toInt = 3 from by decide, show ((0 : Int32)).toInt = 0 from by decide]
  refine lv_iconst (v := 1) hx hb dX0_workOut_13 (by decide) ?_
  refine mm_icmp_ne (X := r_89.toInt) (Y := 1) (tgt := 21) hx hb dX0_workOut_14 (by decide) rfl num_1 (fun c_94 => ?_) (fun c_94 => ?_)
  · refine lv_iconst (v := 0) hx hb dX0_workOut_21 (by decide) ?_
    refine cr_puti (κ := 0) (ci := 0) (k := 5) (C := RX0) (T := TX0) (N := 10) (fs := cfs 0) (ty := .boolean) (v := 0) E hM mx0 kx0 (fun _ _ => rfl) rfl hin0 tyX0 tyX0_ok nmX0 (by decide) (index := 46) (mm_at 2 rfl) rfl (Or.inl rfl) (by decide +kernel) (cz_nar (X := 0) num_0 (by omega)).1 (cz_nar (X := 0) num_0 (by omega)).2 (show (5 : Nat) < 10 from by decide) (fun _ _ _ => rfl) (cz_nb rfl) (cS_upd (hM.sp mx0 kx0) (by decide) (by decide)) (Or.inr (Or.inr rfl)) dX0_workOut_22 (fun H locs I_95 eI_95 hM => ?_)
    refine lv_aload_n hx hb dX0_workOut_25 rfl (lv_at hl 0 rfl) ?_
    refine lv_iconst (v := 0) hx hb dX0_workOut_26 (by decide) ?_
    refine cr_puti (κ := 0) (ci := 0) (k := 6) (C := RX0) (T := TX0) (N := 10) (fs := cfs 0) (ty := .int) (v := 0) E hM mx0 kx0 (fun _ _ => rfl) rfl hin0 tyX0 tyX0_ok nmX0 (by decide) (index := 50) (mm_at 37 rfl) rfl (Or.inl rfl) (by decide +kernel) rfl rfl (show (6 : Nat) < 10 from by decide) (fun _ _ _ => rfl) (cz_nb rfl) (cS_upd (hM.sp mx0 kx0) (by decide) (by decide)) (Or.inr (Or.inr rfl)) dX0_workOut_27 (fun H locs I_96 eI_96 hM => ?_)
    refine lv_aload_n hx hb dX0_workOut_30 rfl (lv_at hl 0 rfl) ?_
    refine lv_iconst (v := 0) hx hb dX0_workOut_31 (by decide) ?_
    refine cr_puti (κ := 0) (ci := 0) (k := 7) (C := RX0) (T := TX0) (N := 10) (fs := cfs 0) (ty := .int) (v := 0) E hM mx0 kx0 (fun _ _ => rfl) rfl hin0 tyX0 tyX0_ok nmX0 (by decide) (index := 53) (mm_at 38 rfl) rfl (Or.inl rfl) (by decide +kernel) rfl rfl (show (7 : Nat) < 10 from by decide) (fun _ _ _ => rfl) (cz_nb rfl) (cS_upd (hM.sp mx0 kx0) (by decide) (by decide)) (Or.inr (Or.inr rfl)) dX0_workOut_32 (fun H locs I_97 eI_97 hM => ?_)
    refine lv_aload_n hx hb dX0_workOut_35 rfl (lv_at hl 0 rfl) ?_
    refine lv_iconst (v := 0) hx hb dX0_workOut_36 (by decide) ?_
    refine cr_puti (κ := 0) (ci := 0) (k := 8) (C := RX0) (T := TX0) (N := 10) (fs := cfs 0) (ty := .int) (v := 0) E hM mx0 kx0 (fun _ _ => rfl) rfl hin0 tyX0 tyX0_ok nmX0 (by decide) (index := 56) (mm_at 20 rfl) rfl (Or.inl rfl) (by decide +kernel) rfl rfl (show (8 : Nat) < 10 from by decide) (fun _ _ _ => rfl) (cz_nb rfl) (cS_upd (hM.sp mx0 kx0) (by decide) (by decide)) (Or.inr (Or.inr rfl)) dX0_workOut_37 (fun H locs I_98 eI_98 hM => ?_)
    refine lv_aload_n hx hb dX0_workOut_40 rfl (lv_at hl 0 rfl) ?_
    refine lv_iconst (v := 0) hx hb dX0_workOut_41 (by decide) ?_
    refine cr_puti (κ := 0) (ci := 0) (k := 9) (C := RX0) (T := TX0) (N := 10) (fs := cfs 0) (ty := .int) (v := 0) E hM mx0 kx0 (fun _ _ => rfl) rfl hin0 tyX0 tyX0_ok nmX0 (by decide) (index := 59) (mm_at 22 rfl) rfl (Or.inl rfl) (by decide +kernel) rfl rfl (show (9 : Nat) < 10 from by decide) (fun _ _ _ => rfl) (cz_nb rfl) (cS_upd (hM.sp mx0 kx0) (by decide) (by decide)) (Or.inr (Or.inr rfl)) dX0_workOut_42 (fun H locs I_99 eI_99 hM => ?_)
    refine lv_iconst (v := 0) hx hb dX0_workOut_45 (by decide) ?_
    refine lv_istore (lv' := [(4, .int 0), (0, .ref x0), (1, .ref p0), (2, .int p1), (3, .int p2)]) hx hb dX0_workOut_46 hl (by decide) rfl (fun ls hl => ?_)
    have e_100 : (I_87 x0 2).toInt = p1.toInt := (congrArg Int32.toInt (cu_s eI_87)).trans rfl
    have e_101 : (I_95 x0 2).toInt = (I_87 x0 2).toInt := congrArg Int32.toInt (cu_k eI_95 (by decide))
    have e_102 : (I_96 x0 2).toInt = (I_95 x0 2).toInt := congrArg Int32.toInt (cu_k eI_96 (by decide))
    have e_103 : (I_97 x0 2).toInt = (I_96 x0 2).toInt := congrArg Int32.toInt (cu_k eI_97 (by decide))
    have e_104 : (I_98 x0 2).toInt = (I_97 x0 2).toInt := congrArg Int32.toInt (cu_k eI_98 (by decide))
    have e_105 : (I_99 x0 2).toInt = (I_98 x0 2).toInt := congrArg Int32.toInt (cu_k eI_99 (by decide))
    have e_106 : (I_95 x0 5).toInt = 0 := (congrArg Int32.toInt (cu_s eI_95)).trans num_0
    have e_107 : (I_96 x0 5).toInt = (I_95 x0 5).toInt := congrArg Int32.toInt (cu_k eI_96 (by decide))
    have e_108 : (I_97 x0 5).toInt = (I_96 x0 5).toInt := congrArg Int32.toInt (cu_k eI_97 (by decide))
    have e_109 : (I_98 x0 5).toInt = (I_97 x0 5).toInt := congrArg Int32.toInt (cu_k eI_98 (by decide))
    have e_110 : (I_99 x0 5).toInt = (I_98 x0 5).toInt := congrArg Int32.toInt (cu_k eI_99 (by decide))
    have e_111 : (I_96 x0 6).toInt = 0 := (congrArg Int32.toInt (cu_s eI_96)).trans num_0
    have e_112 : (I_97 x0 6).toInt = (I_96 x0 6).toInt := congrArg Int32.toInt (cu_k eI_97 (by decide))
    have e_113 : (I_98 x0 6).toInt = (I_97 x0 6).toInt := congrArg Int32.toInt (cu_k eI_98 (by decide))
    have e_114 : (I_99 x0 6).toInt = (I_98 x0 6).toInt := congrArg Int32.toInt (cu_k eI_99 (by decide))
    have e_115 : (I_97 x0 7).toInt = 0 := (congrArg Int32.toInt (cu_s eI_97)).trans num_0
    have e_116 : (I_98 x0 7).toInt = (I_97 x0 7).toInt := congrArg Int32.toInt (cu_k eI_98 (by decide))
    have e_117 : (I_99 x0 7).toInt = (I_98 x0 7).toInt := congrArg Int32.toInt (cu_k eI_99 (by decide))
    have e_118 : (I_98 x0 8).toInt = 0 := (congrArg Int32.toInt (cu_s eI_98)).trans num_0
    have e_119 : (I_99 x0 8).toInt = (I_98 x0 8).toInt := congrArg Int32.toInt (cu_k eI_99 (by decide))
    have e_120 : (I_99 x0 9).toInt = 0 := (congrArg Int32.toInt (cu_s eI_99)).trans num_0
    exact B_48 4294967296 _ _ _ L K I_99 O 0    (show (0 ≤ (0 : Int32).toInt ∧ (0 : Int32).toInt ≤ 4) from by have n_0 := num_0; omega) (show (I_99 x0 2).toInt = p1.toInt from by have n_0 := num_0; omega) (show (I_99 x0 5).toInt = (if kN Ge re ve 3 0 p2.toInt (Fe 31).toInt.toNat = 1 then 1 else 0) from by have n_0 := num_0; rw [ks]; split <;> omega) (show (0 : Int32).toInt ≤ (I p0 2).toInt from by have n_0 := num_0; omega) (show (I_99 x0 6).toInt = sumS (wkMl Fe Ge re ve p2.toInt) (0 : Int32).toInt.toNat from by have n_0 := num_0; rw [show (0 : Int32).toInt.toNat = 0 from by decide]; show _ = (0 : Int); omega) (show (I_99 x0 7).toInt = sumS (wkMh Fe Ge re ve p2.toInt) (0 : Int32).toInt.toNat from by have n_0 := num_0; rw [show (0 : Int32).toInt.toNat = 0 from by decide]; show _ = (0 : Int); omega) (show (I_99 x0 8).toInt = sumS (wkA Fe Ge re ve p2.toInt) (0 : Int32).toInt.toNat from by have n_0 := num_0; rw [show (0 : Int32).toInt.toNat = 0 from by decide]; show _ = (0 : Int); omega) (show (I_99 x0 9).toInt = sumS (wkB Fe Ge re ve p2.toInt) (0 : Int32).toInt.toNat from by have n_0 := num_0; rw [show (0 : Int32).toInt.toNat = 0 from by decide]; show _ = (0 : Int); omega) (show 0 ≤ (I_99 x0 6).toInt ∧ (I_99 x0 6).toInt ≤ 5 * (0 : Int32).toInt from by have n_0 := num_0; omega) (show 0 ≤ (I_99 x0 7).toInt ∧ (I_99 x0 7).toInt ≤ 5 * (0 : Int32).toInt from by have n_0 := num_0; omega) (show 0 ≤ (I_99 x0 8).toInt ∧ (I_99 x0 8).toInt ≤ 30000 * (0 : Int32).toInt from by have n_0 := num_0; omega) (show 0 ≤ (I_99 x0 9).toInt ∧ (I_99 x0 9).toInt ≤ 30000 * (0 : Int32).toInt from by have n_0 := num_0; omega) (show (∀ a : Nat, a ∈ L → K a = 0 → ¬ a = x0 → ∀ j : Nat, I_99 a j = I a j) from by have n_0 := num_0; exact fun a ha ka na j => (by exact ((congrFun (cu_a eI_99 na) j).trans ((congrFun (cu_a eI_98 na) j).trans ((congrFun (cu_a eI_97 na) j).trans ((congrFun (cu_a eI_96 na) j).trans ((congrFun (cu_a eI_95 na) j).trans (congrFun (cu_a eI_87 na) j)))))))) (show (5 - (0 : Int32).toInt) < ((4294967296 : Nat) : Int) from by have n_0 := num_0; omega) hM (lv_sub hl [1, 2, 3, 4, 0] rfl)
  · refine lv_iconst (v := 1) hx hb dX0_workOut_17 (by decide) ?_
    refine lv_goto (tgt := 22) hx hb dX0_workOut_18 (by decide) ?_
    refine cr_puti (κ := 0) (ci := 0) (k := 5) (C := RX0) (T := TX0) (N := 10) (fs := cfs 0) (ty := .boolean) (v := 1) E hM mx0 kx0 (fun _ _ => rfl) rfl hin0 tyX0 tyX0_ok nmX0 (by decide) (index := 46) (mm_at 2 rfl) rfl (Or.inl rfl) (by decide +kernel) (cz_nar (X := 1) num_1 (by omega)).1 (cz_nar (X := 1) num_1 (by omega)).2 (show (5 : Nat) < 10 from by decide) (fun _ _ _ => rfl) (cz_nb rfl) (cS_upd (hM.sp mx0 kx0) (by decide) (by decide)) (Or.inr (Or.inr rfl)) dX0_workOut_22 (fun H locs I_121 eI_121 hM => ?_)
    refine lv_aload_n hx hb dX0_workOut_25 rfl (lv_at hl 0 rfl) ?_
    refine lv_iconst (v := 0) hx hb dX0_workOut_26 (by decide) ?_
    refine cr_puti (κ := 0) (ci := 0) (k := 6) (C := RX0) (T := TX0) (N := 10) (fs := cfs 0) (ty := .int) (v := 0) E hM mx0 kx0 (fun _ _ => rfl) rfl hin0 tyX0 tyX0_ok nmX0 (by decide) (index := 50) (mm_at 37 rfl) rfl (Or.inl rfl) (by decide +kernel) rfl rfl (show (6 : Nat) < 10 from by decide) (fun _ _ _ => rfl) (cz_nb rfl) (cS_upd (hM.sp mx0 kx0) (by decide) (by decide)) (Or.inr (Or.inr rfl)) dX0_workOut_27 (fun H locs I_122 eI_122 hM => ?_)
    refine lv_aload_n hx hb dX0_workOut_30 rfl (lv_at hl 0 rfl) ?_
    refine lv_iconst (v := 0) hx hb dX0_workOut_31 (by decide) ?_
    refine cr_puti (κ := 0) (ci := 0) (k := 7) (C := RX0) (T := TX0) (N := 10) (fs := cfs 0) (ty := .int) (v := 0) E hM mx0 kx0 (fun _ _ => rfl) rfl hin0 tyX0 tyX0_ok nmX0 (by decide) (index := 53) (mm_at 38 rfl) rfl (Or.inl rfl) (by decide +kernel) rfl rfl (show (7 : Nat) < 10 from by decide) (fun _ _ _ => rfl) (cz_nb rfl) (cS_upd (hM.sp mx0 kx0) (by decide) (by decide)) (Or.inr (Or.inr rfl)) dX0_workOut_32 (fun H locs I_123 eI_123 hM => ?_)
    refine lv_aload_n hx hb dX0_workOut_35 rfl (lv_at hl 0 rfl) ?_
    refine lv_iconst (v := 0) hx hb dX0_workOut_36 (by decide) ?_
    refine cr_puti (κ := 0) (ci := 0) (k := 8) (C := RX0) (T := TX0) (N := 10) (fs := cfs 0) (ty := .int) (v := 0) E hM mx0 kx0 (fun _ _ => rfl) rfl hin0 tyX0 tyX0_ok nmX0 (by decide) (index := 56) (mm_at 20 rfl) rfl (Or.inl rfl) (by decide +kernel) rfl rfl (show (8 : Nat) < 10 from by decide) (fun _ _ _ => rfl) (cz_nb rfl) (cS_upd (hM.sp mx0 kx0) (by decide) (by decide)) (Or.inr (Or.inr rfl)) dX0_workOut_37 (fun H locs I_124 eI_124 hM => ?_)
    refine lv_aload_n hx hb dX0_workOut_40 rfl (lv_at hl 0 rfl) ?_
    refine lv_iconst (v := 0) hx hb dX0_workOut_41 (by decide) ?_
    refine cr_puti (κ := 0) (ci := 0) (k := 9) (C := RX0) (T := TX0) (N := 10) (fs := cfs 0) (ty := .int) (v := 0) E hM mx0 kx0 (fun _ _ => rfl) rfl hin0 tyX0 tyX0_ok nmX0 (by decide) (index := 59) (mm_at 22 rfl) rfl (Or.inl rfl) (by decide +kernel) rfl rfl (show (9 : Nat) < 10 from by decide) (fun _ _ _ => rfl) (cz_nb rfl) (cS_upd (hM.sp mx0 kx0) (by decide) (by decide)) (Or.inr (Or.inr rfl)) dX0_workOut_42 (fun H locs I_125 eI_125 hM => ?_)
    refine lv_iconst (v := 0) hx hb dX0_workOut_45 (by decide) ?_
    refine lv_istore (lv' := [(4, .int 0), (0, .ref x0), (1, .ref p0), (2, .int p1), (3, .int p2)]) hx hb dX0_workOut_46 hl (by decide) rfl (fun ls hl => ?_)
    have e_126 : (I_87 x0 2).toInt = p1.toInt := (congrArg Int32.toInt (cu_s eI_87)).trans rfl
    have e_127 : (I_121 x0 2).toInt = (I_87 x0 2).toInt := congrArg Int32.toInt (cu_k eI_121 (by decide))
    have e_128 : (I_122 x0 2).toInt = (I_121 x0 2).toInt := congrArg Int32.toInt (cu_k eI_122 (by decide))
    have e_129 : (I_123 x0 2).toInt = (I_122 x0 2).toInt := congrArg Int32.toInt (cu_k eI_123 (by decide))
    have e_130 : (I_124 x0 2).toInt = (I_123 x0 2).toInt := congrArg Int32.toInt (cu_k eI_124 (by decide))
    have e_131 : (I_125 x0 2).toInt = (I_124 x0 2).toInt := congrArg Int32.toInt (cu_k eI_125 (by decide))
    have e_132 : (I_121 x0 5).toInt = 1 := (congrArg Int32.toInt (cu_s eI_121)).trans num_1
    have e_133 : (I_122 x0 5).toInt = (I_121 x0 5).toInt := congrArg Int32.toInt (cu_k eI_122 (by decide))
    have e_134 : (I_123 x0 5).toInt = (I_122 x0 5).toInt := congrArg Int32.toInt (cu_k eI_123 (by decide))
    have e_135 : (I_124 x0 5).toInt = (I_123 x0 5).toInt := congrArg Int32.toInt (cu_k eI_124 (by decide))
    have e_136 : (I_125 x0 5).toInt = (I_124 x0 5).toInt := congrArg Int32.toInt (cu_k eI_125 (by decide))
    have e_137 : (I_122 x0 6).toInt = 0 := (congrArg Int32.toInt (cu_s eI_122)).trans num_0
    have e_138 : (I_123 x0 6).toInt = (I_122 x0 6).toInt := congrArg Int32.toInt (cu_k eI_123 (by decide))
    have e_139 : (I_124 x0 6).toInt = (I_123 x0 6).toInt := congrArg Int32.toInt (cu_k eI_124 (by decide))
    have e_140 : (I_125 x0 6).toInt = (I_124 x0 6).toInt := congrArg Int32.toInt (cu_k eI_125 (by decide))
    have e_141 : (I_123 x0 7).toInt = 0 := (congrArg Int32.toInt (cu_s eI_123)).trans num_0
    have e_142 : (I_124 x0 7).toInt = (I_123 x0 7).toInt := congrArg Int32.toInt (cu_k eI_124 (by decide))
    have e_143 : (I_125 x0 7).toInt = (I_124 x0 7).toInt := congrArg Int32.toInt (cu_k eI_125 (by decide))
    have e_144 : (I_124 x0 8).toInt = 0 := (congrArg Int32.toInt (cu_s eI_124)).trans num_0
    have e_145 : (I_125 x0 8).toInt = (I_124 x0 8).toInt := congrArg Int32.toInt (cu_k eI_125 (by decide))
    have e_146 : (I_125 x0 9).toInt = 0 := (congrArg Int32.toInt (cu_s eI_125)).trans num_0
    exact B_48 4294967296 _ _ _ L K I_125 O 0    (show (0 ≤ (0 : Int32).toInt ∧ (0 : Int32).toInt ≤ 4) from by have n_0 := num_0; omega) (show (I_125 x0 2).toInt = p1.toInt from by have n_0 := num_0; omega) (show (I_125 x0 5).toInt = (if kN Ge re ve 3 0 p2.toInt (Fe 31).toInt.toNat = 1 then 1 else 0) from by have n_0 := num_0; rw [ks]; split <;> omega) (show (0 : Int32).toInt ≤ (I p0 2).toInt from by have n_0 := num_0; omega) (show (I_125 x0 6).toInt = sumS (wkMl Fe Ge re ve p2.toInt) (0 : Int32).toInt.toNat from by have n_0 := num_0; rw [show (0 : Int32).toInt.toNat = 0 from by decide]; show _ = (0 : Int); omega) (show (I_125 x0 7).toInt = sumS (wkMh Fe Ge re ve p2.toInt) (0 : Int32).toInt.toNat from by have n_0 := num_0; rw [show (0 : Int32).toInt.toNat = 0 from by decide]; show _ = (0 : Int); omega) (show (I_125 x0 8).toInt = sumS (wkA Fe Ge re ve p2.toInt) (0 : Int32).toInt.toNat from by have n_0 := num_0; rw [show (0 : Int32).toInt.toNat = 0 from by decide]; show _ = (0 : Int); omega) (show (I_125 x0 9).toInt = sumS (wkB Fe Ge re ve p2.toInt) (0 : Int32).toInt.toNat from by have n_0 := num_0; rw [show (0 : Int32).toInt.toNat = 0 from by decide]; show _ = (0 : Int); omega) (show 0 ≤ (I_125 x0 6).toInt ∧ (I_125 x0 6).toInt ≤ 5 * (0 : Int32).toInt from by have n_0 := num_0; omega) (show 0 ≤ (I_125 x0 7).toInt ∧ (I_125 x0 7).toInt ≤ 5 * (0 : Int32).toInt from by have n_0 := num_0; omega) (show 0 ≤ (I_125 x0 8).toInt ∧ (I_125 x0 8).toInt ≤ 30000 * (0 : Int32).toInt from by have n_0 := num_0; omega) (show 0 ≤ (I_125 x0 9).toInt ∧ (I_125 x0 9).toInt ≤ 30000 * (0 : Int32).toInt from by have n_0 := num_0; omega) (show (∀ a : Nat, a ∈ L → K a = 0 → ¬ a = x0 → ∀ j : Nat, I_125 a j = I a j) from by have n_0 := num_0; exact fun a ha ka na j => (by exact ((congrFun (cu_a eI_125 na) j).trans ((congrFun (cu_a eI_124 na) j).trans ((congrFun (cu_a eI_123 na) j).trans ((congrFun (cu_a eI_122 na) j).trans ((congrFun (cu_a eI_121 na) j).trans (congrFun (cu_a eI_87 na) j)))))))) (show (5 - (0 : Int32).toInt) < ((4294967296 : Nat) : Int) from by have n_0 := num_0; omega) hM (lv_sub hl [1, 2, 3, 4, 0] rfl)
