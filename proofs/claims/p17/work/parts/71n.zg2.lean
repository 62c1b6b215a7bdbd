def w5X5_addUpCup : List Cond := .code yX5_addUpCup cX5_addUpCup 3 none :: ([.fieldLink RX5 80 "SkiShots" "raceCount" "I", .fieldLink RX5 29 "SkiShots" "races" "[LSkiShots$Race;", .methodLink RX5 230 yX5_addToCup, .instanceMethod yX5_addToCup, .selects RX5 yX5_addToCup yX5_addToCup, .initialized RX5, .code yX5_addToCup cX5_addToCup 4 none, .fieldLink RX5 106 "SkiShots$Race" "entryCount" "I", .fieldLink RX5 161 "SkiShots$Race" "entries" "[LSkiShots$Entry;", .methodLink RX5 209 yX0_hasTime, .instanceMethod yX0_hasTime, .selects RX0 yX0_hasTime yX0_hasTime, .initialized RX0, .code yX0_hasTime cX0_hasTime 1 (some .boolean), .fieldLink RX0 39 "SkiShots$Entry" "low" "I", .fieldLink RX5 33 "SkiShots" "cup" "[I", .fieldLink RX5 165 "SkiShots$Entry" "racer" "I", .methodLink RX5 188 yX3_lastPlace, .instanceMethod yX3_lastPlace, .selects RX3 yX3_lastPlace yX3_lastPlace, .initialized RX3, .code yX3_lastPlace cX3_lastPlace 5 (some .int), .fieldLink RX3 29 "SkiShots$Race" "entryCount" "I", .fieldLink RX3 25 "SkiShots$Race" "entries" "[LSkiShots$Entry;", .methodLink RX3 49 yX0_hasTime, .fieldLink RX3 53 "SkiShots$Entry" "low" "I", .fieldLink RX3 77 "SkiShots$Entry" "high" "I", .methodLink RX5 234 Lib.Math.max.name, .static Lib.Math.max.name, .initialized "java/lang/Math", .code Lib.Math.max.name Lib.Math.max.code 2 (some .int), .fieldLink RX5 77 "SkiShots" "racerCount" "I", .methodLink RX5 171 yX5_workOut, .instanceMethod yX5_workOut, .selects RX5 yX5_workOut yX5_workOut, .code yX5_workOut cX5_workOut 4 none, .methodLink RX5 228 yX3_workOut, .instanceMethod yX3_workOut, .selects RX3 yX3_workOut yX3_workOut, .code yX3_workOut cX3_workOut 4 none, .fieldLink RX3 9 "SkiShots$Race" "format" "LSkiShots$Format;", .methodLink RX3 41 yX3_startOf, .instanceMethod yX3_startOf, .selects RX3 yX3_startOf yX3_startOf, .code yX3_startOf cX3_startOf 2 (some .int), .fieldLink RX3 56 "SkiShots$Format" "startSort" "I", .fieldLink RX3 61 "SkiShots$Format" "startSeconds" "I", .fieldLink RX3 35 "SkiShots$Entry" "racer" "I", .methodLink RX3 64 yX3_chaseStart, .instanceMethod yX3_chaseStart, .selects RX3 yX3_chaseStart yX3_chaseStart, .code yX3_chaseStart cX3_chaseStart 4 (some .int), .fieldLink RX3 15 "SkiShots$Race" "by" "LSkiShots$Race;", .methodLink RX3 67 yX3_entryOf, .instanceMethod yX3_entryOf, .selects RX3 yX3_entryOf yX3_entryOf, .code yX3_entryOf cX3_entryOf 3 (some (.object "SkiShots$Entry")), .fieldLink RX3 38 "SkiShots$Race" "leastLow" "I", .methodLink RX3 71 Lib.Math.min.name, .static Lib.Math.min.name, .code Lib.Math.min.name Lib.Math.min.code 2 (some .int), .methodLink RX3 45 yX0_workOut, .instanceMethod yX0_workOut, .selects RX0 yX0_workOut yX0_workOut, .code yX0_workOut cX0_workOut 5 none, .fieldLink RX0 62 "SkiShots$Format" "shootings" "I", .fieldLink RX0 46 "SkiShots$Entry" "struck" "Z", .fieldLink RX0 71 "SkiShots$Format" "laps" "I", .methodLink RX0 42 yX0_known, .instanceMethod yX0_known, .selects RX0 yX0_known yX0_known, .code yX0_known cX0_known 5 (some .int), .fieldLink RX0 19 "SkiShots$Event" "day" "I", .fieldLink RX0 33 "SkiShots$Event" "before" "LSkiShots$Event;", .fieldLink RX0 24 "SkiShots$Event" "sort" "I", .fieldLink RX0 27 "SkiShots$Event" "k" "I", .fieldLink RX0 30 "SkiShots$Event" "v" "I", .fieldLink RX0 15 "SkiShots$Entry" "latest" "LSkiShots$Event;", .methodLink RX0 74 yX0_sinceStart, .instanceMethod yX0_sinceStart, .selects RX0 yX0_sinceStart yX0_sinceStart, .code yX0_sinceStart cX0_sinceStart 2 (some .int), .fieldLink RX0 36 "SkiShots$Entry" "start" "I", .fieldLink RX0 56 "SkiShots$Entry" "leastPenalty" "I", .fieldLink RX0 59 "SkiShots$Entry" "greatestPenalty" "I", .fieldLink RX0 78 "SkiShots$Entry" "high" "I", .methodLink RX0 67 yX0_addShooting, .instanceMethod yX0_addShooting, .selects RX0 yX0_addShooting yX0_addShooting, .code yX0_addShooting cX0_addShooting 11 none, .methodLink RX0 81 yJ6_bitCount_0f7a4, .static yJ6_bitCount_0f7a4, .initialized RJ6, .code yJ6_bitCount_0f7a4 cJ6_bitCount_0f7a4 1 (some .int), .constant RJ6 265 (1431655765), .constant RJ6 266 (858993459), .constant RJ6 267 (252645135), .fieldLink RX0 86 "SkiShots$Format" "loops" "Z", .fieldLink RX0 89 "SkiShots$Format" "missSeconds" "I", .fieldLink RX0 50 "SkiShots$Entry" "fewestMisses" "I", .fieldLink RX0 53 "SkiShots$Entry" "mostMisses" "I", .methodLink RX0 92 Lib.Math.max.name] ++ wsX00 ++ wsX10 ++ wsX20 ++ wsX30 ++ wsX50)
set_option maxRecDepth 20000 in
theorem gz_X5_addUpCup_X5_addToCup_8 : GoodIn w5X5_addUpCup (wsV RX5 230 RX5 yX5_addToCup w5X5_addToCup) := goodIn_p _ [7, 14, 22, 31] rfl (by decide +kernel)
set_option maxRecDepth 20000 in
theorem gz_X5_addUpCup_X5_workOut_29 : GoodIn w5X5_addUpCup (wsV RX5 171 RX5 yX5_workOut w5X5_workOut) := goodIn_p _ [36, 40, 45, 52, 57, 14, 61, 65, 72, 82, 90, 94, 31] rfl (by decide +kernel)
set_option maxHeartbeats 4000000 in
set_option maxRecDepth 100000 in
theorem h5_X5_addUpCup (l : Launch) (D : va_G) (cA : Nat → ClassId) (ad av : Nat → Nat) (L : List Nat) (K : Nat → Nat) (I : Nat → Nat → Int32) (O : Nat → Nat → Option Nat) (sz : Nat) (x0 : Nat) (p0 : Int32) (hI : cI L K I O) (mx0 : x0 ∈ L) (kx0 : K x0 = 5) (rz : Nat) (bz : Nat → Nat) (fz : Nat → Nat) (ez : Nat → Nat) (wz : Nat → Nat → Nat) (Fz : Nat → Int32) (Gz : Nat → Nat → Int32) (hwx : lWx x0 rz bz fz ez wz L K I O Fz Gz) (q10 : (I x0 10).toInt = (Fz 17).toInt) (cu : Nat) (hcu : O x0 12 = some cu) (q8 : (I x0 8).toInt = (Fz 15).toInt) : Met l yX5_addUpCup w5X5_addUpCup ({ frames := 5, cells := 0, slots := 0, locals := 124 }) (cPre D cA ad av L K I O sz [.ref x0, .int p0]) (cQv D cA L K I O sz [] [(0, 2), (0, 3), (0, 4), (0, 5), (0, 6), (0, 7), (0, 8), (0, 9), (3, 6), (13, 0)] [] (fun L' K' I' O' => ((∀ u t : Nat, (u : Int) < (Fz 17).toInt → (t : Int) < (Gz 27 u).toInt → wkP Fz (cGv wz I' Gz) p0.toInt u t) ∧ ∀ v : Nat, (v : Int) < (Fz 15).toInt → (I' cu v).toInt = cuA (cGv wz I' Gz) (v : Int) (Fz 17).toInt.toNat) ∧ True)) 0 0 (va_A (cW cA L K I O) sz) := by
  refine cr_met (own := RX5) (xs := []) (WI := [(0, 2), (0, 3), (0, 4), (0, 5), (0, 6), (0, 7), (0, 8), (0, 9), (3, 6), (13, 0)]) (WO := []) (cc := cX5_addUpCup) (maxL := 3) (ret := none) (by decide) rfl rfl (Nat.le_of_ble_eq_true rfl) hI ?_
  intro p e s m args below meth c ls E hV hml hr hlk hname hsz hA hM hl
  have hx := E.1
  have hb := E.2.1
  have hts := E.2.2.1
  have hown := E.2.2.2.1
  have hl : lv_has ls 3 [(0, .ref x0), (1, .int p0)] := hl
  have hin0 : ∀ w ∈ wsX00, w ∈ w5X5_addUpCup := by decide +kernel
  have hin1 : ∀ w ∈ wsX10, w ∈ w5X5_addUpCup := by decide +kernel
  have hin2 : ∀ w ∈ wsX20, w ∈ w5X5_addUpCup := by decide +kernel
  have hin3 : ∀ w ∈ wsX30, w ∈ w5X5_addUpCup := by decide +kernel
  have hin5 : ∀ w ∈ wsX50, w ∈ w5X5_addUpCup := by decide +kernel
  have B_34 : ∀ n_34 : Nat, ∀ (H : Heap) (locs : List Loc) (ls : Array Slot) (Lc_34 : List Nat) (Kc_34 : Nat → Nat) (Ic_34 : Nat → Nat → Int32) (Oc_34 : Nat → Nat → Option Nat) (i : Int32), (0 ≤ i.toInt ∧ i.toInt ≤ 8) → (∀ u t : Nat, (u : Int) < (Fz 17).toInt → (t : Int) < (Gz 27 u).toInt → wkP Fz (cGv wz Ic_34 Gz) p0.toInt u t ∧ -1 ≤ (Ic_34 (wz u t) 3).toInt) → i.toInt ≤ (Fz 17).toInt → (∀ v : Nat, (v : Int) < (Fz 15).toInt → (Ic_34 cu v).toInt = cuA (cGv wz Ic_34 Gz) (v : Int) (Int32.toNatClampNeg i)) → (8 - i.toInt) < (n_34 : Int) → cQ D cA (va_A (cW cA L K I O) sz) s.heap [] [(0, 2), (0, 3), (0, 4), (0, 5), (0, 6), (0, 7), (0, 8), (0, 9), (3, 6), (13, 0)] [] L K I O H locs Lc_34 Kc_34 Ic_34 Oc_34 → lv_has ls 3 [(0, .ref x0), (1, .int p0), (2, .int i)] → W p l e ({ frames := 5, cells := 0, slots := 0, locals := 124 }) s m args below meth c H locs 0 0 (MQ below (cQv D cA L K I O sz [] [(0, 2), (0, 3), (0, 4), (0, 5), (0, 6), (0, 7), (0, 8), (0, 9), (3, 6), (13, 0)] [] (fun L' K' I' O' => ((∀ u t : Nat, (u : Int) < (Fz 17).toInt → (t : Int) < (Gz 27 u).toInt → wkP Fz (cGv wz I' Gz) p0.toInt u t) ∧ ∀ v : Nat, (v : Int) < (Fz 15).toInt → (I' cu v).toInt = cuA (cGv wz I' Gz) (v : Int) (Fz 17).toInt.toNat) ∧ True)) args s 0 0 (va_A (cW cA L K I O) sz)) (F0 m 34 ls []) := by
    intro n_34
    induction n_34 with
    | zero => intro H locs ls Lc_34 Kc_34 Ic_34 Oc_34 i f34_0 f34_1 f34_2 f34_3 hn hM hl; exact False.elim (by omega)
    | succ n_34 ih_34 =>
      intro H locs ls Lc_34 Kc_34 Ic_34 Oc_34 i f34_0 f34_1 f34_2 f34_3 hn hM hl
      have hfr_34 := hM.2.2.2.2
      have m_1 := (hfr_34 x0 mx0 (fun z => by cases z)).1
      have k_1 : Kc_34 x0 = 5 := (hfr_34 x0 mx0 (fun z => by cases z)).2.1.trans kx0
      obtain ⟨hR, hWr, -, -, hmz⟩ := id hwx
      have hwc := lWx.fr hwx mx0 kx0 hM.2.2.2.2 (fun _ => rfl) (by decide) (by decide) (by decide) (fun _ => rfl)
      obtain ⟨hRc, -, -, -, -⟩ := id hwc
      have h15 := hWr.2.2.2.1
      have h17 := hWr.2.2.2.2.1
      have hcu_2 : Oc_34 x0 12 = some cu := ((hfr_34 x0 mx0 (fun z => by cases z)).2.2.2 12 (by rw [kx0]; rfl)).trans hcu
      obtain ⟨mcu_2, kcu_2⟩ := hM.rt m_1 k_1 12 (κ' := 13) rfl hcu_2
      have b_3 : 0 ≤ (Ic_34 x0 8).toInt ∧ (Ic_34 x0 8).toInt ≤ 16 := hM.ib m_1 k_1 8 rfl
      have e_4 : (Ic_34 x0 8).toInt = (I x0 8).toInt := congrArg Int32.toInt ((hfr_34 x0 mx0 (fun z => by cases z)).2.2.1 8 (by rw [kx0]; rfl))
      have b_5 : 0 ≤ (Ic_34 x0 10).toInt ∧ (Ic_34 x0 10).toInt ≤ 8 := hM.ib m_1 k_1 10 rfl
      have e_6 : (Ic_34 x0 10).toInt = (I x0 10).toInt := congrArg Int32.toInt ((hfr_34 x0 mx0 (fun z => by cases z)).2.2.1 10 (by rw [kx0]; rfl))
      obtain ⟨orz, mrz, krz⟩ := hRc.1
      have hti : (((Int32.toNatClampNeg i) : Nat) : Int) = i.toInt := by rw [mm_nat]; omega
      refine lv_iload_n hx hb dX5_addUpCup_34 rfl (lv_at hl 2 rfl) ?_
      refine lv_aload_n hx hb dX5_addUpCup_35 rfl (lv_at hl 0 rfl) ?_
      refine cr_get (κ := 5) (ci := 5) (k := 10) (C := RX5) (T := TX5) (N := 13) (fs := cfs 5) (v := .int (Ic_34 x0 10)) E hM m_1 k_1 (fun _ _ => rfl) rfl hin5 (by decide) (index := 80) (mm_at 1 rfl) rfl rfl dX5_addUpCup_36 ?_
      refine mm_icmp_ge (X := i.toInt) (Y := (Ic_34 x0 10).toInt) (tgt := 58) hx hb dX5_addUpCup_39 (by decide) rfl rfl (fun c_7 => ?_) (fun c_7 => ?_)
      · exact cr_rv (mc := 0) (ms := 0) E hr hlk hsz hM ⟨show (0 : Nat) ≤ 0 from by omega, show (0 : Nat) ≤ 0 from by omega⟩ (show ((∀ u t : Nat, (u : Int) < (Fz 17).toInt → (t : Int) < (Gz 27 u).toInt → wkP Fz (cGv wz Ic_34 Gz) p0.toInt u t) ∧ ∀ v : Nat, (v : Int) < (Fz 15).toInt → (Ic_34 cu v).toInt = cuA (cGv wz Ic_34 Gz) (v : Int) (Fz 17).toInt.toNat) ∧ True from by exact ⟨⟨fun u t h1 h2 => (f34_1 u t h1 h2).1, fun v hv => by rw [show (Fz 17).toInt.toNat = Int32.toNatClampNeg i from by have h2 := mm_nat i; omega]; exact f34_3 v hv⟩, trivial⟩) dX5_addUpCup_58
      · have hrt : (((Int32.toNatClampNeg i) : Nat) : Int) < (Fz 17).toInt := by omega
        obtain ⟨obz, mbz, kbz⟩ := (hRc.2.2.1 (Int32.toNatClampNeg i) hrt).1
        have hbc9 : ∀ v : Nat, (v : Int) < (Fz 15).toInt → 0 ≤ (Ic_34 cu v).toInt ∧ (Ic_34 cu v).toInt ≤ 3000 := fun v hv => by
          have q9 := cuA_bd (G := cGv wz Ic_34 Gz) (fun j => (hmz.2.1 27 (0, 16) rfl j).2) (Int32.toNatClampNeg i) (v : Int)
          rw [f34_3 v hv]
          omega
        refine lv_aload_n hx hb dX5_addUpCup_42 rfl (lv_at hl 0 rfl) ?_
        refine lv_aload_n hx hb dX5_addUpCup_43 rfl (lv_at hl 0 rfl) ?_
        refine cr_get (κ := 5) (ci := 5) (k := 9) (C := RX5) (T := TX5) (N := 13) (fs := cfs 5) (v := .ref rz) E hM m_1 k_1 (fun _ _ => rfl) rfl hin5 (by decide) (index := 29) (mm_at 2 rfl) rfl (by show some (va_rf (Oc_34 x0 9)) = some (.ref rz); rw [orz]; rfl) dX5_addUpCup_44 ?_
        refine lv_iload_n hx hb dX5_addUpCup_47 rfl (lv_at hl 2 rfl) ?_
        refine cr_aalds (κ := 12) (t0 := 2) (X := i.toInt) E hM mrz krz (fun _ _ => rfl) rfl rfl (by omega) obz dX5_addUpCup_48 ?_
        refine cc_Vv (vs := [.ref (bz (Int32.toNatClampNeg i))]) (rest := []) (b := x0) (κ := 5) E hV rfl hA hml hM m_1 k_1 rfl rfl (h5_X5_addToCup l D cA ad av Lc_34 Kc_34 Ic_34 Oc_34 _ x0 (bz (Int32.toNatClampNeg i)) hM.2.2.2.1 m_1 k_1 mbz kbz rz bz fz ez wz Fz Gz hwc (by omega) cu hcu_2 (by omega) (Int32.toNatClampNeg i) hrt rfl (fun t ht => (f34_1 (Int32.toNatClampNeg i) t hrt ht).2) hbc9) (cwV 1 hts gz_X5_addUpCup_X5_addToCup_8 rfl rfl rfl (by decide +kernel) ⟨Nat.le_of_ble_eq_true rfl, Nat.le_of_ble_eq_true rfl⟩) rfl hl.1 rfl (Nat.le_of_ble_eq_true rfl) dX5_addUpCup_49 ⟨show (0 + 0 : Nat) ≤ 0 from by omega, show (0 + 0 : Nat) ≤ 0 from by omega⟩ (fun _ h => by cases h) (by decide) (by decide) (fun L_11 K_11 I_11 O_11 H locs fr_11 p_10 hM => ?_)
        have m_12 := (fr_11 x0 m_1 (fun z => by cases z)).1
        have k_12 : K_11 x0 = 5 := (fr_11 x0 m_1 (fun z => by cases z)).2.1.trans k_1
        have m_13 := (fr_11 rz mrz (fun z => by cases z)).1
        have k_13 : K_11 rz = 12 := (fr_11 rz mrz (fun z => by cases z)).2.1.trans krz
        have m_14 := (fr_11 cu mcu_2 (fun z => by cases z)).1
        have k_14 : K_11 cu = 13 := (fr_11 cu mcu_2 (fun z => by cases z)).2.1.trans kcu_2
        have m_15 := (fr_11 (bz (Int32.toNatClampNeg i)) mbz (fun z => by cases z)).1
        have k_15 : K_11 (bz (Int32.toNatClampNeg i)) = 3 := (fr_11 (bz (Int32.toNatClampNeg i)) mbz (fun z => by cases z)).2.1.trans kbz
        replace p_10 : (∀ v : Nat, (v : Int) < (Fz 15).toInt → (I_11 cu v).toInt = (Ic_34 cu v).toInt + cuR (cGv wz Ic_34 Gz) (Int32.toNatClampNeg i) (v : Int) (Gz 27 (Int32.toNatClampNeg i)).toInt.toNat) ∧ True := p_10
        rcases p_10 with ⟨acp_16, -⟩
        have hsm : ∀ t j : Nat, (t : Int) < (Fz 17).toInt → (j : Int) < (Gz 27 t).toInt → ∀ c : Nat, I_11 (wz t j) c = Ic_34 (wz t j) c := fun t j ht hj c => by
          have q9 := hRc.2.2.2.1 t j ht hj
          have u9 := (fr_11 _ q9.1.2.1 (fun z => by cases z)).2.2.1
          rw [q9.1.2.2] at u9
          exact u9 c rfl
        have hce : cGv wz I_11 Gz = cGv wz Ic_34 Gz := cGv_same hWr hsm
        refine mm_iinc (X := i.toInt) (v := 1) (lv2 := fun z => [(2, .int z), (0, .ref x0), (1, .int p0)]) hx hb dX5_addUpCup_52 hl (k := 2) rfl rfl (by decide) num_1 (by omega) (by decide) (fun _ => rfl) (fun z_17 ls hz_17 hl => ?_)
        have hl : lv_has ls 3 [(2, .int z_17), (0, .ref x0), (1, .int p0)] := hl
        refine lv_goto (tgt := 34) hx hb dX5_addUpCup_55 (by decide) ?_
        exact ih_34 _ _ _ L_11 K_11 I_11 O_11 z_17    (show (0 ≤ z_17.toInt ∧ z_17.toInt ≤ 8) from by omega) (show (∀ u t : Nat, (u : Int) < (Fz 17).toInt → (t : Int) < (Gz 27 u).toInt → wkP Fz (cGv wz I_11 Gz) p0.toInt u t ∧ -1 ≤ (I_11 (wz u t) 3).toInt) from by rw [hce]; exact fun u t h1 h2 => by rw [hsm u t h1 h2 3]; exact f34_1 u t h1 h2) (show z_17.toInt ≤ (Fz 17).toInt from by omega) (show (∀ v : Nat, (v : Int) < (Fz 15).toInt → (I_11 cu v).toInt = cuA (cGv wz I_11 Gz) (v : Int) (Int32.toNatClampNeg z_17)) from by rw [hce]; exact fun v hv => by rw [show Int32.toNatClampNeg z_17 = Int32.toNatClampNeg i + 1 from by have h1 := mm_nat z_17; omega, cuA_s, acp_16 v hv, f34_3 v hv]; rfl) (show (8 - z_17.toInt) < ((n_34 : Nat) : Int) from by omega) hM (lv_sub hl [1, 2, 0] rfl)
  have B_11 : ∀ n_11 : Nat, ∀ (H : Heap) (locs : List Loc) (ls : Array Slot) (Lc_11 : List Nat) (Kc_11 : Nat → Nat) (Ic_11 : Nat → Nat → Int32) (Oc_11 : Nat → Nat → Option Nat) (i : Int32), (0 ≤ i.toInt ∧ i.toInt ≤ 16) → (∀ u t : Nat, (u : Int) < (Fz 17).toInt → (t : Int) < (Gz 27 u).toInt → wkP Fz (cGv wz Ic_11 Gz) p0.toInt u t ∧ -1 ≤ (Ic_11 (wz u t) 3).toInt) → i.toInt ≤ (Fz 15).toInt → (∀ v : Nat, v < Int32.toNatClampNeg i → (Ic_11 cu v).toInt = 0) → (16 - i.toInt) < (n_11 : Int) → cQ D cA (va_A (cW cA L K I O) sz) s.heap [] [(0, 2), (0, 3), (0, 4), (0, 5), (0, 6), (0, 7), (0, 8), (0, 9), (3, 6), (13, 0)] [] L K I O H locs Lc_11 Kc_11 Ic_11 Oc_11 → lv_has ls 3 [(0, .ref x0), (1, .int p0), (2, .int i)] → W p l e ({ frames := 5, cells := 0, slots := 0, locals := 124 }) s m args below meth c H locs 0 0 (MQ below (cQv D cA L K I O sz [] [(0, 2), (0, 3), (0, 4), (0, 5), (0, 6), (0, 7), (0, 8), (0, 9), (3, 6), (13, 0)] [] (fun L' K' I' O' => ((∀ u t : Nat, (u : Int) < (Fz 17).toInt → (t : Int) < (Gz 27 u).toInt → wkP Fz (cGv wz I' Gz) p0.toInt u t) ∧ ∀ v : Nat, (v : Int) < (Fz 15).toInt → (I' cu v).toInt = cuA (cGv wz I' Gz) (v : Int) (Fz 17).toInt.toNat) ∧ True)) args s 0 0 (va_A (cW cA L K I O) sz)) (F0 m 11 ls []) := by
    intro n_11
    induction n_11 with
    | zero => intro H locs ls Lc_11 Kc_11 Ic_11 Oc_11 i f11_0 f11_1 f11_2 f11_3 hn hM hl; exact False.elim (by omega)
    | succ n_11 ih_11 =>
      intro H locs ls Lc_11 Kc_11 Ic_11 Oc_11 i f11_0 f11_1 f11_2 f11_3 hn hM hl
      have hfr_11 := hM.2.2.2.2
      have m_18 := (hfr_11 x0 mx0 (fun z => by cases z)).1
      have k_18 : Kc_11 x0 = 5 := (hfr_11 x0 mx0 (fun z => by cases z)).2.1.trans kx0
      obtain ⟨hR, hWr, -, -, hmz⟩ := id hwx
      have hwc := lWx.fr hwx mx0 kx0 hM.2.2.2.2 (fun _ => rfl) (by decide) (by decide) (by decide) (fun _ => rfl)
      obtain ⟨hRc, -, -, -, -⟩ := id hwc
      have h15 := hWr.2.2.2.1
      have h17 := hWr.2.2.2.2.1
      have hcu_19 : Oc_11 x0 12 = some cu := ((hfr_11 x0 mx0 (fun z => by cases z)).2.2.2 12 (by rw [kx0]; rfl)).trans hcu
      obtain ⟨mcu_19, kcu_19⟩ := hM.rt m_18 k_18 12 (κ' := 13) rfl hcu_19
      have b_20 : 0 ≤ (Ic_11 x0 8).toInt ∧ (Ic_11 x0 8).toInt ≤ 16 := hM.ib m_18 k_18 8 rfl
      have e_21 : (Ic_11 x0 8).toInt = (I x0 8).toInt := congrArg Int32.toInt ((hfr_11 x0 mx0 (fun z => by cases z)).2.2.1 8 (by rw [kx0]; rfl))
      have b_22 : 0 ≤ (Ic_11 x0 10).toInt ∧ (Ic_11 x0 10).toInt ≤ 8 := hM.ib m_18 k_18 10 rfl
      have e_23 : (Ic_11 x0 10).toInt = (I x0 10).toInt := congrArg Int32.toInt ((hfr_11 x0 mx0 (fun z => by cases z)).2.2.1 10 (by rw [kx0]; rfl))
      refine lv_iload_n hx hb dX5_addUpCup_11 rfl (lv_at hl 2 rfl) ?_
      refine lv_aload_n hx hb dX5_addUpCup_12 rfl (lv_at hl 0 rfl) ?_
      refine cr_get (κ := 5) (ci := 5) (k := 8) (C := RX5) (T := TX5) (N := 13) (fs := cfs 5) (v := .int (Ic_11 x0 8)) E hM m_18 k_18 (fun _ _ => rfl) rfl hin5 (by decide) (index := 77) (mm_at 32 rfl) rfl rfl dX5_addUpCup_13 ?_
      refine mm_icmp_ge (X := i.toInt) (Y := (Ic_11 x0 8).toInt) (tgt := 32) hx hb dX5_addUpCup_16 (by decide) rfl rfl (fun c_24 => ?_) (fun c_24 => ?_)
      · refine lv_iconst (v := 0) hx hb dX5_addUpCup_32 (by decide) ?_
        refine lv_istore_n (lv' := [(2, .int 0), (0, .ref x0), (1, .int p0)]) hx hb dX5_addUpCup_33 rfl hl (by decide) rfl (fun ls hl => ?_)
        exact B_34 4294967296 _ _ _ Lc_11 Kc_11 Ic_11 Oc_11 0    (show (0 ≤ (0 : Int32).toInt ∧ (0 : Int32).toInt ≤ 8) from by have n_0 := num_0; omega) (show (∀ u t : Nat, (u : Int) < (Fz 17).toInt → (t : Int) < (Gz 27 u).toInt → wkP Fz (cGv wz Ic_11 Gz) p0.toInt u t ∧ -1 ≤ (Ic_11 (wz u t) 3).toInt) from by have n_0 := num_0; exact f11_1) (show (0 : Int32).toInt ≤ (Fz 17).toInt from by have n_0 := num_0; omega) (show (∀ v : Nat, (v : Int) < (Fz 15).toInt → (Ic_11 cu v).toInt = cuA (cGv wz Ic_11 Gz) (v : Int) (Int32.toNatClampNeg (0 : Int32))) from by have n_0 := num_0; exact fun v hv => by rw [show Int32.toNatClampNeg (0 : Int32) = 0 from by decide]; show _ = (0 : Int); exact f11_3 v (by have h2 := mm_nat i; omega)) (show (8 - (0 : Int32).toInt) < ((4294967296 : Nat) : Int) from by have n_0 := num_0; omega) hM (lv_sub hl [1, 2, 0] rfl)
      · refine lv_aload_n hx hb dX5_addUpCup_19 rfl (lv_at hl 0 rfl) ?_
        refine cr_get (κ := 5) (ci := 5) (k := 12) (C := RX5) (T := TX5) (N := 13) (fs := cfs 5) (v := .ref cu) E hM m_18 k_18 (fun _ _ => rfl) rfl hin5 (by decide) (index := 33) (mm_at 16 rfl) rfl (by show some (va_rf (Oc_11 x0 12)) = some (.ref cu); rw [hcu_19]; rfl) dX5_addUpCup_20 ?_
        refine lv_iload_n hx hb dX5_addUpCup_23 rfl (lv_at hl 2 rfl) ?_
        refine lv_iconst (v := 0) hx hb dX5_addUpCup_24 (by decide) ?_
        refine cr_iast (κ := 13) (t0 := 1) (X := i.toInt) E hM mcu_19 kcu_19 (fun _ _ => rfl) rfl rfl (by omega) (by decide) (fun _ => rfl) (Or.inr (Or.inr (fun _ => rfl))) dX5_addUpCup_25 (fun H locs I_25 eI_25 hM => ?_)
        refine mm_iinc (X := i.toInt) (v := 1) (lv2 := fun z => [(2, .int z), (0, .ref x0), (1, .int p0)]) hx hb dX5_addUpCup_26 hl (k := 2) rfl rfl (by decide) num_1 (by omega) (by decide) (fun _ => rfl) (fun z_26 ls hz_26 hl => ?_)
        have hl : lv_has ls 3 [(2, .int z_26), (0, .ref x0), (1, .int p0)] := hl
        refine lv_goto (tgt := 11) hx hb dX5_addUpCup_29 (by decide) ?_
        exact ih_11 _ _ _ Lc_11 Kc_11 I_25 Oc_11 z_26    (show (0 ≤ z_26.toInt ∧ z_26.toInt ≤ 16) from by omega) (show (∀ u t : Nat, (u : Int) < (Fz 17).toInt → (t : Int) < (Gz 27 u).toInt → wkP Fz (cGv wz I_25 Gz) p0.toInt u t ∧ -1 ≤ (I_25 (wz u t) 3).toInt) from by have hsm : ∀ t j : Nat, (t : Int) < (Fz 17).toInt → (j : Int) < (Gz 27 t).toInt → ∀ c : Nat, I_25 (wz t j) c = Ic_11 (wz t j) c := (fun t j ht hj c => congrFun (cu_a eI_25 (c_ne (hRc.2.2.2.1 t j ht hj).1.2.2 kcu_19 (by decide))) c); rw [cGv_same hWr hsm]; exact fun u t h1 h2 => by rw [hsm u t h1 h2 3]; exact f11_1 u t h1 h2) (show z_26.toInt ≤ (Fz 15).toInt from by omega) (show (∀ v : Nat, v < Int32.toNatClampNeg z_26 → (I_25 cu v).toInt = 0) from by exact fun v hv => by by_cases e9 : v = Int32.toNatClampNeg i; (rw [e9, cu_s eI_25]; exact num_0); (rw [cu_k eI_25 e9]; exact f11_3 v (by have h1 := mm_nat z_26; have h2 := mm_nat i; omega))) (show (16 - z_26.toInt) < ((n_11 : Nat) : Int) from by omega) hM (lv_sub hl [1, 2, 0] rfl)
  obtain ⟨mcu, kcu⟩ := hM.rt mx0 kx0 12 (κ' := 13) rfl hcu
  have b_27 : 0 ≤ (I x0 8).toInt ∧ (I x0 8).toInt ≤ 16 := hM.ib mx0 kx0 8 rfl
  have b_28 : 0 ≤ (I x0 10).toInt ∧ (I x0 10).toInt ≤ 8 := hM.ib mx0 kx0 10 rfl
  refine lv_aload_n hx hb dX5_addUpCup_0 rfl (lv_at hl 0 rfl) ?_
  refine lv_aload_n hx hb dX5_addUpCup_1 rfl (lv_at hl 0 rfl) ?_
  refine cr_get (κ := 5) (ci := 5) (k := 10) (C := RX5) (T := TX5) (N := 13) (fs := cfs 5) (v := .int (I x0 10)) E hM mx0 kx0 (fun _ _ => rfl) rfl hin5 (by decide) (index := 80) (mm_at 1 rfl) rfl rfl dX5_addUpCup_2 ?_
  refine lv_iload_n hx hb dX5_addUpCup_5 rfl (lv_at hl 1 rfl) ?_
  refine cc_Vv (vs := [.int (I x0 10), .int p0]) (rest := []) (b := x0) (κ := 5) E hV rfl hA hml hM mx0 kx0 rfl rfl (h5_X5_workOut l D cA ad av L K I O _ x0 (I x0 10) p0 hM.2.2.2.1 mx0 kx0 rz bz fz ez wz Fz Gz hwx q10) (cwV 2 hts gz_X5_addUpCup_X5_workOut_29 rfl rfl rfl (by decide +kernel) ⟨Nat.le_of_ble_eq_true rfl, Nat.le_of_ble_eq_true rfl⟩) rfl hl.1 rfl (Nat.le_of_ble_eq_true rfl) dX5_addUpCup_6 ⟨show (0 + 0 : Nat) ≤ 0 from by omega, show (0 + 0 : Nat) ≤ 0 from by omega⟩ (fun _ h => by cases h) (by decide) (by decide) (fun L_32 K_32 I_32 O_32 H locs fr_32 p_31 hM => ?_)
  have m_33 := (fr_32 x0 mx0 (fun z => by cases z)).1
  have k_33 : K_32 x0 = 5 := (fr_32 x0 mx0 (fun z => by cases z)).2.1.trans kx0
  have m_34 := (fr_32 cu mcu (fun z => by cases z)).1
  have k_34 : K_32 cu = 13 := (fr_32 cu mcu (fun z => by cases z)).2.1.trans kcu
  replace p_31 : (∀ u t : Nat, (u : Int) < (I x0 10).toInt → (u : Int) < (Fz 17).toInt → (t : Int) < (Gz 27 u).toInt → wkP Fz (cGv wz I_32 Gz) p0.toInt u t ∧ -1 ≤ (I_32 (wz u t) 3).toInt ∧ (I_32 (wz u t) 5).toInt = (if kN Gz (u : Int) (Gz 29 (16 * u + t)).toInt 3 0 p0.toInt (Fz 31).toInt.toNat = 1 then 1 else 0)) ∧ True := p_31
  rcases p_31 with ⟨xhp_35, -⟩
  refine lv_iconst (v := 0) hx hb dX5_addUpCup_9 (by decide) ?_
  refine lv_istore_n (lv' := [(2, .int 0), (0, .ref x0), (1, .int p0)]) hx hb dX5_addUpCup_10 rfl hl (by decide) rfl (fun ls hl => ?_)
  exact B_11 4294967296 _ _ _ L_32 K_32 I_32 O_32 0    (show (0 ≤ (0 : Int32).toInt ∧ (0 : Int32).toInt ≤ 16) from by have n_0 := num_0; omega) (show (∀ u t : Nat, (u : Int) < (Fz 17).toInt → (t : Int) < (Gz 27 u).toInt → wkP Fz (cGv wz I_32 Gz) p0.toInt u t ∧ -1 ≤ (I_32 (wz u t) 3).toInt) from by have n_0 := num_0; exact fun u t h1 h2 => ⟨(xhp_35 u t (by omega) h1 h2).1, (xhp_35 u t (by omega) h1 h2).2.1⟩) (show (0 : Int32).toInt ≤ (Fz 15).toInt from by have n_0 := num_0; omega) (show (∀ v : Nat, v < Int32.toNatClampNeg (0 : Int32) → (I_32 cu v).toInt = 0) from by have n_0 := num_0; exact fun v hv => absurd hv (by rw [show Int32.toNatClampNeg (0 : Int32) = 0 from by decide]; exact Nat.not_lt_zero _)) (show (16 - (0 : Int32).toInt) < ((4294967296 : Nat) : Int) from by have n_0 := num_0; omega) hM (lv_sub hl [1, 2, 0] rfl)
