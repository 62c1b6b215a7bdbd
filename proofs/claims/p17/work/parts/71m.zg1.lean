theorem cGv_same {F : Nat → Int32} {G : Nat → Nat → Int32} {w : Nat → Nat → Nat} {I I1 : Nat → Nat → Int32} (W : lWr F G) (h : ∀ t j : Nat, (t : Int) < (F 17).toInt → (j : Int) < (G 27 t).toInt → ∀ c : Nat, I1 (w t j) c = I (w t j) c) : cGv w I1 G = cGv w I G := by
  have q : ∀ c : Nat, cGf w I1 G c = cGf w I G c := fun c => funext fun j => by
    unfold cGf
    by_cases g : j < 128 ∧ 0 ≤ (G 30 j).toInt
    · rw [if_pos g, if_pos g]
      obtain ⟨c1, c2, -⟩ := cG_en W g
      exact h _ _ c1 c2 c
    · rw [if_neg g, if_neg g]
  funext k
  unfold cGv
  rw [q 2, q 3, q 4, q 6, q 7]
def w5X5_addToCup : List Cond := .code yX5_addToCup cX5_addToCup 4 none :: ([.fieldLink RX5 106 "SkiShots$Race" "entryCount" "I", .fieldLink RX5 161 "SkiShots$Race" "entries" "[LSkiShots$Entry;", .methodLink RX5 209 yX0_hasTime, .instanceMethod yX0_hasTime, .selects RX0 yX0_hasTime yX0_hasTime, .initialized RX0, .code yX0_hasTime cX0_hasTime 1 (some .boolean), .fieldLink RX0 39 "SkiShots$Entry" "low" "I", .fieldLink RX5 33 "SkiShots" "cup" "[I", .fieldLink RX5 165 "SkiShots$Entry" "racer" "I", .methodLink RX5 188 yX3_lastPlace, .instanceMethod yX3_lastPlace, .selects RX3 yX3_lastPlace yX3_lastPlace, .initialized RX3, .code yX3_lastPlace cX3_lastPlace 5 (some .int), .fieldLink RX3 29 "SkiShots$Race" "entryCount" "I", .fieldLink RX3 25 "SkiShots$Race" "entries" "[LSkiShots$Entry;", .methodLink RX3 49 yX0_hasTime, .fieldLink RX3 53 "SkiShots$Entry" "low" "I", .fieldLink RX3 77 "SkiShots$Entry" "high" "I", .methodLink RX5 234 Lib.Math.max.name, .static Lib.Math.max.name, .initialized "java/lang/Math", .code Lib.Math.max.name Lib.Math.max.code 2 (some .int)] ++ wsX00 ++ wsX30 ++ wsX50)
set_option maxRecDepth 20000 in
theorem gz_X5_addToCup_X0_hasTime_7 : GoodIn w5X5_addToCup (wsV RX5 209 RX0 yX0_hasTime w5X0_hasTime) := goodIn_p _ [7] rfl (by decide +kernel)
set_option maxRecDepth 20000 in
theorem gz_X5_addToCup_X3_lastPlace_14 : GoodIn w5X5_addToCup (wsV RX5 188 RX3 yX3_lastPlace w5X3_lastPlace) := goodIn_p _ [15, 7] rfl (by decide +kernel)
set_option maxHeartbeats 4000000 in
set_option maxRecDepth 100000 in
theorem h5_X5_addToCup (l : Launch) (D : va_G) (cA : Nat → ClassId) (ad av : Nat → Nat) (L : List Nat) (K : Nat → Nat) (I : Nat → Nat → Int32) (O : Nat → Nat → Option Nat) (sz : Nat) (x0 : Nat) (p0 : Nat) (hI : cI L K I O) (mx0 : x0 ∈ L) (kx0 : K x0 = 5) (mp0 : p0 ∈ L) (kp0 : K p0 = 3) (rz : Nat) (bz : Nat → Nat) (fz : Nat → Nat) (ez : Nat → Nat) (wz : Nat → Nat → Nat) (Fz : Nat → Int32) (Gz : Nat → Nat → Int32) (hwx : lWx x0 rz bz fz ez wz L K I O Fz Gz) (q10 : (I x0 10).toInt = (Fz 17).toInt) (cu : Nat) (hcu : O x0 12 = some cu) (q8 : (I x0 8).toInt = (Fz 15).toInt) (ri : Nat) (hri : (ri : Int) < (Fz 17).toInt) (hpr : p0 = bz ri) (hlo : ∀ t : Nat, (t : Int) < (Gz 27 ri).toInt → -1 ≤ (I (wz ri t) 3).toInt) (hbc : ∀ v : Nat, (v : Int) < (Fz 15).toInt → 0 ≤ (I cu v).toInt ∧ (I cu v).toInt ≤ 3000) : Met l yX5_addToCup w5X5_addToCup ({ frames := 2, cells := 0, slots := 0, locals := 44 }) (cPre D cA ad av L K I O sz [.ref x0, .ref p0]) (cQv D cA L K I O sz [] [(13, 0)] [] (fun L' K' I' O' => (∀ v : Nat, (v : Int) < (Fz 15).toInt → (I' cu v).toInt = (I cu v).toInt + cuR (cGv wz I Gz) ri (v : Int) (Gz 27 ri).toInt.toNat) ∧ True)) 0 0 (va_A (cW cA L K I O) sz) := by
  refine cr_met (own := RX5) (xs := []) (WI := [(13, 0)]) (WO := []) (cc := cX5_addToCup) (maxL := 4) (ret := none) (by decide) rfl rfl (Nat.le_of_ble_eq_true rfl) hI ?_
  intro p e s m args below meth c ls E hV hml hr hlk hname hsz hA hM hl
  have hx := E.1
  have hb := E.2.1
  have hts := E.2.2.1
  have hown := E.2.2.2.1
  have hl : lv_has ls 4 [(0, .ref x0), (1, .ref p0)] := hl
  have hin0 : ∀ w ∈ wsX00, w ∈ w5X5_addToCup := by decide +kernel
  have hin3 : ∀ w ∈ wsX30, w ∈ w5X5_addToCup := by decide +kernel
  have hin5 : ∀ w ∈ wsX50, w ∈ w5X5_addToCup := by decide +kernel
  have B_2 : ∀ n_2 : Nat, ∀ (H : Heap) (locs : List Loc) (ls : Array Slot) (Lc_2 : List Nat) (Kc_2 : Nat → Nat) (Ic_2 : Nat → Nat → Int32) (Oc_2 : Nat → Nat → Option Nat) (i : Int32), (0 ≤ i.toInt ∧ i.toInt ≤ 16) → i.toInt ≤ (I p0 4).toInt → (∀ v : Nat, (v : Int) < (Fz 15).toInt → (Ic_2 cu v).toInt = (I cu v).toInt + cuR (cGv wz I Gz) ri (v : Int) (Int32.toNatClampNeg i)) → (16 - i.toInt) < (n_2 : Int) → cQ D cA (va_A (cW cA L K I O) sz) s.heap [] [(13, 0)] [] L K I O H locs Lc_2 Kc_2 Ic_2 Oc_2 → lv_has ls 4 [(0, .ref x0), (1, .ref p0), (2, .int i)] → W p l e ({ frames := 2, cells := 0, slots := 0, locals := 44 }) s m args below meth c H locs 0 0 (MQ below (cQv D cA L K I O sz [] [(13, 0)] [] (fun L' K' I' O' => (∀ v : Nat, (v : Int) < (Fz 15).toInt → (I' cu v).toInt = (I cu v).toInt + cuR (cGv wz I Gz) ri (v : Int) (Gz 27 ri).toInt.toNat) ∧ True)) args s 0 0 (va_A (cW cA L K I O) sz)) (F0 m 2 ls []) := by
    intro n_2
    induction n_2 with
    | zero => intro H locs ls Lc_2 Kc_2 Ic_2 Oc_2 i f2_0 f2_1 f2_2 hn hM hl; exact False.elim (by omega)
    | succ n_2 ih_2 =>
      intro H locs ls Lc_2 Kc_2 Ic_2 Oc_2 i f2_0 f2_1 f2_2 hn hM hl
      have hfr_2 := hM.2.2.2.2
      have m_1 := (hfr_2 x0 mx0 (fun z => by cases z)).1
      have k_1 : Kc_2 x0 = 5 := (hfr_2 x0 mx0 (fun z => by cases z)).2.1.trans kx0
      have m_2 := (hfr_2 p0 mp0 (fun z => by cases z)).1
      have k_2 : Kc_2 p0 = 3 := (hfr_2 p0 mp0 (fun z => by cases z)).2.1.trans kp0
      obtain ⟨hR, hWr, -, -, hmz⟩ := id hwx
      have hwc := lWx.fr hwx mx0 kx0 hM.2.2.2.2 (fun _ => rfl) (by decide) (by decide) (by decide) (fun _ => rfl)
      obtain ⟨hRc, -, -, -, -⟩ := id hwc
      obtain ⟨-, -, ⟨af3, mez, kez⟩, -, ⟨-, a4, -⟩, -⟩ := id (hRc.2.2.1 ri hri)
      rw [← hpr] at af3 a4
      have hsm : ∀ t j : Nat, (t : Int) < (Fz 17).toInt → (j : Int) < (Gz 27 t).toInt → ∀ c : Nat, Ic_2 (wz t j) c = I (wz t j) c := fun t j ht hj c => by
        have q9 := hR.2.2.2.1 t j ht hj
        have u9 := (hfr_2 _ q9.1.2.1 (fun z => by cases z)).2.2.1
        rw [q9.1.2.2] at u9
        exact u9 c rfl
      have hce : cGv wz Ic_2 Gz = cGv wz I Gz := cGv_same hWr hsm
      have b27 : 0 ≤ (Gz 27 ri).toInt ∧ (Gz 27 ri).toInt ≤ 16 := hmz.2.1 27 (0, 16) rfl _
      have h15 := hWr.2.2.2.1
      have hcu_3 : Oc_2 x0 12 = some cu := ((hfr_2 x0 mx0 (fun z => by cases z)).2.2.2 12 (by rw [kx0]; rfl)).trans hcu
      obtain ⟨mcu_3, kcu_3⟩ := hM.rt m_1 k_1 12 (κ' := 13) rfl hcu_3
      have b_4 : 0 ≤ (Ic_2 p0 4).toInt ∧ (Ic_2 p0 4).toInt ≤ 16 := hM.ib m_2 k_2 4 rfl
      have e_5 : (Ic_2 p0 4).toInt = (I p0 4).toInt := congrArg Int32.toInt ((hfr_2 p0 mp0 (fun z => by cases z)).2.2.1 4 (by rw [kp0]; rfl))
      refine lv_iload_n hx hb dX5_addToCup_2 rfl (lv_at hl 2 rfl) ?_
      refine lv_aload_n hx hb dX5_addToCup_3 rfl (lv_at hl 1 rfl) ?_
      refine cr_get (κ := 3) (ci := 3) (k := 4) (C := RX3) (T := TX3) (N := 7) (fs := cfs 3) (v := .int (Ic_2 p0 4)) E hM m_2 k_2 (fun _ _ => rfl) rfl hin3 (by decide) (index := 106) (mm_at 1 rfl) rfl rfl dX5_addToCup_4 ?_
      refine mm_icmp_ge (X := i.toInt) (Y := (Ic_2 p0 4).toInt) (tgt := 54) hx hb dX5_addToCup_7 (by decide) rfl rfl (fun c_6 => ?_) (fun c_6 => ?_)
      · exact cr_rv (mc := 0) (ms := 0) E hr hlk hsz hM ⟨show (0 : Nat) ≤ 0 from by omega, show (0 : Nat) ≤ 0 from by omega⟩ (show (∀ v : Nat, (v : Int) < (Fz 15).toInt → (Ic_2 cu v).toInt = (I cu v).toInt + cuR (cGv wz I Gz) ri (v : Int) (Gz 27 ri).toInt.toNat) ∧ True from by exact ⟨fun v hv => by rw [show (Gz 27 ri).toInt.toNat = Int32.toNatClampNeg i from by have h2 := mm_nat i; omega]; exact f2_2 v hv, trivial⟩) dX5_addToCup_54
      · have hti : (((Int32.toNatClampNeg i) : Nat) : Int) = i.toInt := by rw [mm_nat]; omega
        have htl : (((Int32.toNatClampNeg i) : Nat) : Int) < (Gz 27 ri).toInt := by omega
        obtain ⟨⟨ow0, mwz, kwz⟩, g0, g1, g2, -⟩ := id (hRc.2.2.2.1 ri (Int32.toNatClampNeg i) hri htl)
        have lo9 : -1 ≤ (Ic_2 (wz ri (Int32.toNatClampNeg i)) 3).toInt := by rw [hsm ri (Int32.toNatClampNeg i) hri htl 3]; exact hlo (Int32.toNatClampNeg i) htl
        refine lv_aload_n hx hb dX5_addToCup_10 rfl (lv_at hl 1 rfl) ?_
        refine cr_get (κ := 3) (ci := 3) (k := 3) (C := RX3) (T := TX3) (N := 7) (fs := cfs 3) (v := .ref (ez ri)) E hM m_2 k_2 (fun _ _ => rfl) rfl hin3 (by decide) (index := 161) (mm_at 2 rfl) rfl (by show some (va_rf (Oc_2 p0 3)) = some (.ref (ez ri)); rw [af3]; rfl) dX5_addToCup_11 ?_
        refine lv_iload_n hx hb dX5_addToCup_14 rfl (lv_at hl 2 rfl) ?_
        refine cr_aalds (κ := 15) (t0 := 4) (X := i.toInt) E hM mez kez (fun _ _ => rfl) rfl rfl (by omega) ow0 dX5_addToCup_15 ?_
        refine lv_astore_n (lv' := [(3, .ref (wz ri (Int32.toNatClampNeg i))), (0, .ref x0), (1, .ref p0), (2, .int i)]) hx hb dX5_addToCup_16 rfl hl (by decide) rfl (fun ls hl => ?_)
        refine lv_aload_n hx hb dX5_addToCup_17 rfl (lv_at hl 0 rfl) ?_
        refine cc_Vip (vs := []) (rest := []) (b := (wz ri (Int32.toNatClampNeg i))) (κ := 0) E hV rfl hA hml hM mwz kwz rfl rfl (h5_X0_hasTime l D cA ad av Lc_2 Kc_2 Ic_2 Oc_2 _ (wz ri (Int32.toNatClampNeg i)) hM.2.2.2.1 mwz kwz) (cwV 0 hts gz_X5_addToCup_X0_hasTime_7 rfl rfl rfl (by decide +kernel) ⟨Nat.le_of_ble_eq_true rfl, Nat.le_of_ble_eq_true rfl⟩) rfl hl.1 rfl (Nat.le_of_ble_eq_true rfl) dX5_addToCup_18 ⟨show (0 : Nat) ≤ 0 from by omega, show (0 : Nat) ≤ 0 from by omega⟩ (fun r_8 H locs p_9 hM => ?_)
        replace p_9 : (r_8.toInt = 1 ∧ ¬ (Ic_2 (wz ri (Int32.toNatClampNeg i)) 3).toInt = -1) ∨ (r_8.toInt = 0 ∧ (Ic_2 (wz ri (Int32.toNatClampNeg i)) 3).toInt = -1) := p_9
        refine mm_if_eq (X := r_8.toInt) (tgt := 48) hx hb dX5_addToCup_21 (by decide) rfl (fun c_11 => ?_) (fun c_11 => ?_)
        · refine mm_iinc (X := i.toInt) (v := 1) (lv2 := fun z => [(2, .int z), (3, .ref (wz ri (Int32.toNatClampNeg i))), (0, .ref x0), (1, .ref p0)]) hx hb dX5_addToCup_48 hl (k := 3) rfl rfl (by decide) num_1 (by omega) (by decide) (fun _ => rfl) (fun z_12 ls hz_12 hl => ?_)
          have hl : lv_has ls 4 [(2, .int z_12), (3, .ref (wz ri (Int32.toNatClampNeg i))), (0, .ref x0), (1, .ref p0)] := hl
          refine lv_goto (tgt := 2) hx hb dX5_addToCup_51 (by decide) ?_
          exact ih_2 _ _ _ Lc_2 Kc_2 Ic_2 Oc_2 z_12    (show (0 ≤ z_12.toInt ∧ z_12.toInt ≤ 16) from by omega) (show z_12.toInt ≤ (I p0 4).toInt from by omega) (show (∀ v : Nat, (v : Int) < (Fz 15).toInt → (Ic_2 cu v).toInt = (I cu v).toInt + cuR (cGv wz I Gz) ri (v : Int) (Int32.toNatClampNeg z_12)) from by have e46 : (cGv wz I Gz 46 (wkI (cGv wz I Gz) ri (Int32.toNatClampNeg i))).toInt = (Ic_2 (wz ri (Int32.toNatClampNeg i)) 3).toInt := (by rw [← hce]; exact congrArg Int32.toInt (cGv_at (w := wz) (I := Ic_2) hWr hri htl).2.1); exact fun v hv => by rw [show Int32.toNatClampNeg z_12 = Int32.toNatClampNeg i + 1 from by have h1 := mm_nat z_12; omega, cuR_skip (by omega)]; exact f2_2 v hv) (show (16 - z_12.toInt) < ((n_2 : Nat) : Int) from by omega) hM (lv_sub hl [2, 3, 0] rfl)
        · refine lv_aload_n hx hb dX5_addToCup_24 rfl (lv_at hl 1 rfl) ?_
          refine cr_get (κ := 5) (ci := 5) (k := 12) (C := RX5) (T := TX5) (N := 13) (fs := cfs 5) (v := .ref cu) E hM m_1 k_1 (fun _ _ => rfl) rfl hin5 (by decide) (index := 33) (mm_at 9 rfl) rfl (by show some (va_rf (Oc_2 x0 12)) = some (.ref cu); rw [hcu_3]; rfl) dX5_addToCup_25 ?_
          refine lv_aload_n hx hb dX5_addToCup_28 rfl (lv_at hl 0 rfl) ?_
          have b_13 : 0 ≤ (Ic_2 (wz ri (Int32.toNatClampNeg i)) 0).toInt ∧ (Ic_2 (wz ri (Int32.toNatClampNeg i)) 0).toInt ≤ 15 := hM.ib mwz kwz 0 rfl
          refine cr_get (κ := 0) (ci := 0) (k := 0) (C := RX0) (T := TX0) (N := 10) (fs := cfs 0) (v := .int (Ic_2 (wz ri (Int32.toNatClampNeg i)) 0)) E hM mwz kwz (fun _ _ => rfl) rfl hin0 (by decide) (index := 165) (mm_at 10 rfl) rfl rfl dX5_addToCup_29 ?_
          have hrc : ((Int32.toNatClampNeg (Ic_2 (wz ri (Int32.toNatClampNeg i)) 0) : Nat) : Int) = (Gz 29 (16 * ri + (Int32.toNatClampNeg i))).toInt := by have h1 := mm_nat (Ic_2 (wz ri (Int32.toNatClampNeg i)) 0); omega
          have sm9 := f2_2 (Int32.toNatClampNeg (Ic_2 (wz ri (Int32.toNatClampNeg i)) 0)) (by omega)
          have sb9 := hbc (Int32.toNatClampNeg (Ic_2 (wz ri (Int32.toNatClampNeg i)) 0)) (by omega)
          have sc9 := cuR_bd (G := cGv wz I Gz) ri (Int32.toNatClampNeg i) ((Int32.toNatClampNeg (Ic_2 (wz ri (Int32.toNatClampNeg i)) 0) : Nat) : Int)
          refine lv_dup2_11 hx hb dX5_addToCup_32 rfl rfl ?_
          refine cr_iald (κ := 13) (t0 := 1) (X := (Ic_2 (wz ri (Int32.toNatClampNeg i)) 0).toInt) E hM mcu_3 kcu_3 (fun _ _ => rfl) rfl rfl (by omega) dX5_addToCup_33 ?_
          refine lv_iconst (v := 0) hx hb dX5_addToCup_34 (by decide) ?_
          refine lv_bipush (v := 21) hx hb dX5_addToCup_35 (by decide) ?_
          refine lv_aload_n hx hb dX5_addToCup_37 rfl (lv_at hl 2 rfl) ?_
          refine lv_aload_n hx hb dX5_addToCup_38 rfl (lv_at hl 0 rfl) ?_
          refine cc_Vip (vs := [.ref (wz ri (Int32.toNatClampNeg i))]) (rest := [.int 21, .int 0, .int (Ic_2 cu (Int32.toNatClampNeg (Ic_2 (wz ri (Int32.toNatClampNeg i)) 0))), .int (Ic_2 (wz ri (Int32.toNatClampNeg i)) 0), .ref cu]) (b := p0) (κ := 3) E hV rfl hA hml hM m_2 k_2 rfl rfl (h5_X3_lastPlace l D cA ad av Lc_2 Kc_2 Ic_2 Oc_2 _ p0 (wz ri (Int32.toNatClampNeg i)) hM.2.2.2.1 m_2 k_2 mwz kwz x0 rz bz fz ez wz Fz Gz hwc m_1 k_1 ri hri hpr (Int32.toNatClampNeg i) htl rfl (fun t ht => by rw [hsm ri t hri ht 3]; exact hlo t ht)) (cwV 1 hts gz_X5_addToCup_X3_lastPlace_14 rfl rfl rfl (by decide +kernel) ⟨Nat.le_of_ble_eq_true rfl, Nat.le_of_ble_eq_true rfl⟩) rfl hl.1 rfl (Nat.le_of_ble_eq_true rfl) dX5_addToCup_39 ⟨show (0 : Nat) ≤ 0 from by omega, show (0 : Nat) ≤ 0 from by omega⟩ (fun r_15 H locs p_16 hM => ?_)
          replace p_16 : ((Ic_2 (wz ri (Int32.toNatClampNeg i)) 3).toInt = -1 ∧ r_15.toInt = -1) ∨ (¬ (Ic_2 (wz ri (Int32.toNatClampNeg i)) 3).toInt = -1 ∧ r_15.toInt = plN (cGv wz Ic_2 Gz) 0 ri (Gz 29 (16 * ri + (Int32.toNatClampNeg i))).toInt.toNat (Gz 27 ri).toInt.toNat) := p_16
          have lp9 : plN (cGv wz I Gz) 0 ri ((Gz 29 (16 * ri + (Int32.toNatClampNeg i))).toInt).toNat (Gz 27 ri).toInt.toNat = r_15.toInt := by
            rcases p_16 with h9 | h9
            · exfalso; omega
            · rw [← hce]; exact h9.2.symm
          have lb9 := plN_bd (G := cGv wz I Gz) 0 ri ((Gz 29 (16 * ri + (Int32.toNatClampNeg i))).toInt).toNat (Gz 27 ri).toInt.toNat
          rw [lp9] at lb9
          refine mm_isub (X := 21) (Y := r_15.toInt) hx hb dX5_addToCup_42 num_21 rfl (by omega) (fun z_18 hz_18 => ?_)
          refine mm_max (X := 0) (Y := z_18.toInt) hx hb (hml.trans hl.1.symm) hown (hts _ (mm_at 21 rfl)) (hts _ (mm_at 22 rfl)) (hts _ (mm_at 23 rfl)) (hts _ (mm_at 24 rfl)) (Nat.le_of_ble_eq_true rfl) (Nat.le_of_ble_eq_true rfl) (Nat.le_of_ble_eq_true rfl) (Nat.le_of_ble_eq_true rfl) num_0 rfl dX5_addToCup_43 (fun z_19 hz_19 => ?_)
          refine mm_iadd (X := (Ic_2 cu (Int32.toNatClampNeg (Ic_2 (wz ri (Int32.toNatClampNeg i)) 0))).toInt) (Y := z_19.toInt) hx hb dX5_addToCup_46 rfl rfl (by omega) (fun z_20 hz_20 => ?_)
          refine cr_iast (κ := 13) (t0 := 1) (X := (Ic_2 (wz ri (Int32.toNatClampNeg i)) 0).toInt) E hM mcu_3 kcu_3 (fun _ _ => rfl) rfl rfl (by omega) (by decide) (fun _ => rfl) (Or.inr (Or.inr (fun _ => rfl))) dX5_addToCup_47 (fun H locs I_21 eI_21 hM => ?_)
          refine mm_iinc (X := i.toInt) (v := 1) (lv2 := fun z => [(2, .int z), (3, .ref (wz ri (Int32.toNatClampNeg i))), (0, .ref x0), (1, .ref p0)]) hx hb dX5_addToCup_48 hl (k := 3) rfl rfl (by decide) num_1 (by omega) (by decide) (fun _ => rfl) (fun z_22 ls hz_22 hl => ?_)
          have hl : lv_has ls 4 [(2, .int z_22), (3, .ref (wz ri (Int32.toNatClampNeg i))), (0, .ref x0), (1, .ref p0)] := hl
          refine lv_goto (tgt := 2) hx hb dX5_addToCup_51 (by decide) ?_
          exact ih_2 _ _ _ Lc_2 Kc_2 I_21 Oc_2 z_22    (show (0 ≤ z_22.toInt ∧ z_22.toInt ≤ 16) from by omega) (show z_22.toInt ≤ (I p0 4).toInt from by omega) (show (∀ v : Nat, (v : Int) < (Fz 15).toInt → (I_21 cu v).toInt = (I cu v).toInt + cuR (cGv wz I Gz) ri (v : Int) (Int32.toNatClampNeg z_22)) from by have e46 : (cGv wz I Gz 46 (wkI (cGv wz I Gz) ri (Int32.toNatClampNeg i))).toInt = (Ic_2 (wz ri (Int32.toNatClampNeg i)) 3).toInt := (by rw [← hce]; exact congrArg Int32.toInt (cGv_at (w := wz) (I := Ic_2) hWr hri htl).2.1); exact fun v hv => by rw [show Int32.toNatClampNeg z_22 = Int32.toNatClampNeg i + 1 from by have h1 := mm_nat z_22; omega]; by_cases e9 : v = Int32.toNatClampNeg (Ic_2 (wz ri (Int32.toNatClampNeg i)) 0); (rw [e9, cu_s eI_21, cuR_own (x := r_15.toInt) (y := z_20.toInt - (Ic_2 cu (Int32.toNatClampNeg (Ic_2 (wz ri (Int32.toNatClampNeg i)) 0))).toInt) (by show (Gz 29 (16 * ri + (Int32.toNatClampNeg i))).toInt = _; omega) (by omega) (by rw [show (((Int32.toNatClampNeg (Ic_2 (wz ri (Int32.toNatClampNeg i)) 0) : Nat) : Int)).toNat = ((Gz 29 (16 * ri + (Int32.toNatClampNeg i))).toInt).toNat from by omega]; exact lp9) (by omega)]; omega); (rw [cu_k eI_21 e9, cuR_oth (by show ¬ (Gz 29 (16 * ri + (Int32.toNatClampNeg i))).toInt = _; omega)]; exact f2_2 v hv)) (show (16 - z_22.toInt) < ((n_2 : Nat) : Int) from by omega) hM (lv_sub hl [2, 3, 0] rfl)
  obtain ⟨mcu, kcu⟩ := hM.rt mx0 kx0 12 (κ' := 13) rfl hcu
  have b_23 : 0 ≤ (I p0 4).toInt ∧ (I p0 4).toInt ≤ 16 := hM.ib mp0 kp0 4 rfl
  refine lv_iconst (v := 0) hx hb dX5_addToCup_0 (by decide) ?_
  refine lv_istore_n (lv' := [(2, .int 0), (0, .ref x0), (1, .ref p0)]) hx hb dX5_addToCup_1 rfl hl (by decide) rfl (fun ls hl => ?_)
  exact B_2 4294967296 _ _ _ L K I O 0    (show (0 ≤ (0 : Int32).toInt ∧ (0 : Int32).toInt ≤ 16) from by have n_0 := num_0; omega) (show (0 : Int32).toInt ≤ (I p0 4).toInt from by have n_0 := num_0; omega) (show (∀ v : Nat, (v : Int) < (Fz 15).toInt → (I cu v).toInt = (I cu v).toInt + cuR (cGv wz I Gz) ri (v : Int) (Int32.toNatClampNeg (0 : Int32))) from by have n_0 := num_0; exact fun v hv => by rw [show Int32.toNatClampNeg (0 : Int32) = 0 from by decide]; show _ = _ + (0 : Int); omega) (show (16 - (0 : Int32).toInt) < ((4294967296 : Nat) : Int) from by have n_0 := num_0; omega) hM (lv_sub hl [1, 2, 0] rfl)
