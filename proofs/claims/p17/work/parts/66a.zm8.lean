def w7X6_enter : List Cond := .code yX6_enter cX6_enter 3 (some .int) :: ([.fieldLink RX6 126 "SkiShotsModel" "thrown" "I", .methodLink RX6 203 yX6_isRace, .instanceMethod yX6_isRace, .selects RX6 yX6_isRace yX6_isRace, .initialized RX6, .code yX6_isRace cX6_isRace 2 (some .boolean), .fieldLink RX6 200 "SkiShotsModel" "races" "I", .methodLink RX6 206 yX6_isRacer, .instanceMethod yX6_isRacer, .selects RX6 yX6_isRacer yX6_isRacer, .code yX6_isRacer cX6_isRacer 2 (some .boolean), .fieldLink RX6 197 "SkiShotsModel" "racers" "I", .fieldLink RX6 81 "SkiShotsModel" "entryOf" "[I", .fieldLink RX6 75 "SkiShotsModel" "rEvents" "[I", .fieldLink RX6 72 "SkiShotsModel" "rEntries" "[I", .fieldLink RX6 78 "SkiShotsModel" "entries" "[I"] ++ wsX60)
set_option maxRecDepth 20000 in
theorem g8_X6_enter_X6_isRace_1 : GoodIn w7X6_enter (wsV RX6 203 RX6 yX6_isRace w3X6_isRace) := goodIn_p _ [6] rfl (by decide +kernel)
set_option maxRecDepth 20000 in
theorem g8_X6_enter_X6_isRacer_6 : GoodIn w7X6_enter (wsV RX6 206 RX6 yX6_isRacer w3X6_isRacer) := goodIn_p _ [11] rfl (by decide +kernel)
set_option maxHeartbeats 4000000 in
set_option maxRecDepth 100000 in
theorem g7_X6_enter (l : Launch) (D : va_G) (h0 : Nat) (q : Nat → Nat) (cq : Nat → ClassId) (F : Nat → Int32) (G : Nat → Nat → Int32) (sz : Nat) (p0 : Int32) (p1 : Int32) (hI : mI F G) (hR1 : mR1 G) : Met l yX6_enter w7X6_enter ({ frames := 1, cells := 0, slots := 0, locals := 21 }) (mPre D h0 q cq F G sz [.ref h0, .int p0, .int p1]) (mQi D h0 q cq F G sz [2] [27, 29, 30] (fun r F' G' => mR1 G' ∧ ((r.toInt = -1 ∧ G' = G ∧ ¬ ((0 ≤ p0.toInt ∧ p0.toInt < (F 17).toInt) ∧ (0 ≤ p1.toInt ∧ p1.toInt < (F 15).toInt) ∧ (G 30 (16 * Int32.toNatClampNeg p0 + Int32.toNatClampNeg p1)).toInt < 0 ∧ (G 28 (Int32.toNatClampNeg p0)).toInt ≤ 0)) ∨ (((0 ≤ p0.toInt ∧ p0.toInt < (F 17).toInt) ∧ (0 ≤ p1.toInt ∧ p1.toInt < (F 15).toInt) ∧ (G 30 (16 * Int32.toNatClampNeg p0 + Int32.toNatClampNeg p1)).toInt < 0 ∧ (G 28 (Int32.toNatClampNeg p0)).toInt ≤ 0) ∧ r.toInt = (G 27 (Int32.toNatClampNeg p0)).toInt + 1 ∧ (G 27 (Int32.toNatClampNeg p0)).toInt ≤ 15 ∧ ∃ z27 : Int32, z27.toInt = (G 27 (Int32.toNatClampNeg p0)).toInt + 1 ∧ G' 27 = upd (G 27) (Int32.toNatClampNeg p0) z27 ∧ G' 29 = upd (G 29) (16 * Int32.toNatClampNeg p0 + Int32.toNatClampNeg (G 27 (Int32.toNatClampNeg p0))) p1 ∧ G' 30 = upd (G 30) (16 * Int32.toNatClampNeg p0 + Int32.toNatClampNeg p1) (G 27 (Int32.toNatClampNeg p0)))))) 0 0 (va_A (mW h0 q cq F G) sz) := by
  refine mr_met (WF := [2]) (WG := [27, 29, 30]) (cc := cX6_enter) (maxL := 3) (ret := (some .int)) (by decide) rfl rfl (by decide +kernel) (Nat.le_of_ble_eq_true rfl) hI ?_
  intro p e s m args below meth c ls E hml hr hlk hsz hA hM hl
  have hx := E.1
  have hb := E.2.1
  have hts := E.2.2.1
  have hown := E.2.2.2.2.1
  have hl : lv_has ls 3 [(0, .ref h0), (1, .int p0), (2, .int p1)] := hl
  refine lv_aload_n hx hb dX6_enter_0 rfl (lv_at hl 0 rfl) ?_
  refine lv_iconst (v := 0) hx hb dX6_enter_1 (by decide) ?_
  refine mr_put (v := 0) E hM 2 (by decide) (index := 126) (mm_at 1 rfl) rfl rfl (by decide +kernel) ms_2 (mm_nb rfl) (by decide) dX6_enter_2 (fun H locs hM => ?_)
  refine lv_aload_n hx hb dX6_enter_5 rfl (lv_at hl 0 rfl) ?_
  refine lv_iload_n hx hb dX6_enter_6 rfl (lv_at hl 1 rfl) ?_
  have b_2 : 0 ≤ (F 17).toInt ∧ (F 17).toInt ≤ 8 := hM.fb 17 rfl
  refine mr_callp (av := [.int p0]) (rest := []) E hA hml hM (g3_X6_isRace l D h0 q cq (upd F 2 0) G _ p0 hM.2.2.2.1 ) (cwV 1 hts g8_X6_enter_X6_isRace_1 rfl rfl rfl (by decide +kernel) ⟨Nat.le_of_ble_eq_true rfl, Nat.le_of_ble_eq_true rfl⟩) rfl hl.1 rfl (Nat.le_of_ble_eq_true rfl) dX6_enter_7 ⟨Nat.le_of_ble_eq_true rfl, Nat.le_of_ble_eq_true rfl⟩ (fun r_3 H locs p_4 hM => ?_)
  replace p_4 : (r_3.toInt = 1 ∧ 0 ≤ p0.toInt ∧ p0.toInt < (F 17).toInt) ∨ (r_3.toInt = 0 ∧ ¬ (0 ≤ p0.toInt ∧ p0.toInt < (F 17).toInt)) := p_4
  refine mm_if_eq (X := r_3.toInt) (tgt := 44) hx hb dX6_enter_10 (by decide) rfl (fun c_5 => ?_) (fun c_5 => ?_)
  · refine lv_iconst (v := (-1)) hx hb dX6_enter_44 (by decide) ?_
    exact mr_ri E hr hlk hsz hM (show mR1 G ∧ ((((-1) : Int32).toInt = -1 ∧ G = G ∧ ¬ ((0 ≤ p0.toInt ∧ p0.toInt < (F 17).toInt) ∧ (0 ≤ p1.toInt ∧ p1.toInt < (F 15).toInt) ∧ (G 30 (16 * Int32.toNatClampNeg p0 + Int32.toNatClampNeg p1)).toInt < 0 ∧ (G 28 (Int32.toNatClampNeg p0)).toInt ≤ 0)) ∨ (((0 ≤ p0.toInt ∧ p0.toInt < (F 17).toInt) ∧ (0 ≤ p1.toInt ∧ p1.toInt < (F 15).toInt) ∧ (G 30 (16 * Int32.toNatClampNeg p0 + Int32.toNatClampNeg p1)).toInt < 0 ∧ (G 28 (Int32.toNatClampNeg p0)).toInt ≤ 0) ∧ ((-1) : Int32).toInt = (G 27 (Int32.toNatClampNeg p0)).toInt + 1 ∧ (G 27 (Int32.toNatClampNeg p0)).toInt ≤ 15 ∧ ∃ z27 : Int32, z27.toInt = (G 27 (Int32.toNatClampNeg p0)).toInt + 1 ∧ G 27 = upd (G 27) (Int32.toNatClampNeg p0) z27 ∧ G 29 = upd (G 29) (16 * Int32.toNatClampNeg p0 + Int32.toNatClampNeg (G 27 (Int32.toNatClampNeg p0))) p1 ∧ G 30 = upd (G 30) (16 * Int32.toNatClampNeg p0 + Int32.toNatClampNeg p1) (G 27 (Int32.toNatClampNeg p0)))) from by have n9 := num_m1; exact ⟨hR1, Or.inl ⟨by omega, rfl, by omega⟩⟩) dX6_enter_45
  · refine lv_aload_n hx hb dX6_enter_13 rfl (lv_at hl 0 rfl) ?_
    refine lv_iload_n hx hb dX6_enter_14 rfl (lv_at hl 2 rfl) ?_
    have b_7 : 0 ≤ (F 15).toInt ∧ (F 15).toInt ≤ 16 := hM.fb 15 rfl
    refine mr_callp (av := [.int p1]) (rest := []) E hA hml hM (g3_X6_isRacer l D h0 q cq (upd F 2 0) G _ p1 hM.2.2.2.1 ) (cwV 1 hts g8_X6_enter_X6_isRacer_6 rfl rfl rfl (by decide +kernel) ⟨Nat.le_of_ble_eq_true rfl, Nat.le_of_ble_eq_true rfl⟩) rfl hl.1 rfl (Nat.le_of_ble_eq_true rfl) dX6_enter_15 ⟨Nat.le_of_ble_eq_true rfl, Nat.le_of_ble_eq_true rfl⟩ (fun r_8 H locs p_9 hM => ?_)
    replace p_9 : (r_8.toInt = 1 ∧ 0 ≤ p1.toInt ∧ p1.toInt < (F 15).toInt) ∨ (r_8.toInt = 0 ∧ ¬ (0 ≤ p1.toInt ∧ p1.toInt < (F 15).toInt)) := p_9
    refine mm_if_eq (X := r_8.toInt) (tgt := 44) hx hb dX6_enter_18 (by decide) rfl (fun c_10 => ?_) (fun c_10 => ?_)
    · refine lv_iconst (v := (-1)) hx hb dX6_enter_44 (by decide) ?_
      exact mr_ri E hr hlk hsz hM (show mR1 G ∧ ((((-1) : Int32).toInt = -1 ∧ G = G ∧ ¬ ((0 ≤ p0.toInt ∧ p0.toInt < (F 17).toInt) ∧ (0 ≤ p1.toInt ∧ p1.toInt < (F 15).toInt) ∧ (G 30 (16 * Int32.toNatClampNeg p0 + Int32.toNatClampNeg p1)).toInt < 0 ∧ (G 28 (Int32.toNatClampNeg p0)).toInt ≤ 0)) ∨ (((0 ≤ p0.toInt ∧ p0.toInt < (F 17).toInt) ∧ (0 ≤ p1.toInt ∧ p1.toInt < (F 15).toInt) ∧ (G 30 (16 * Int32.toNatClampNeg p0 + Int32.toNatClampNeg p1)).toInt < 0 ∧ (G 28 (Int32.toNatClampNeg p0)).toInt ≤ 0) ∧ ((-1) : Int32).toInt = (G 27 (Int32.toNatClampNeg p0)).toInt + 1 ∧ (G 27 (Int32.toNatClampNeg p0)).toInt ≤ 15 ∧ ∃ z27 : Int32, z27.toInt = (G 27 (Int32.toNatClampNeg p0)).toInt + 1 ∧ G 27 = upd (G 27) (Int32.toNatClampNeg p0) z27 ∧ G 29 = upd (G 29) (16 * Int32.toNatClampNeg p0 + Int32.toNatClampNeg (G 27 (Int32.toNatClampNeg p0))) p1 ∧ G 30 = upd (G 30) (16 * Int32.toNatClampNeg p0 + Int32.toNatClampNeg p1) (G 27 (Int32.toNatClampNeg p0)))) from by have n9 := num_m1; exact ⟨hR1, Or.inl ⟨by omega, rfl, by omega⟩⟩) dX6_enter_45
    · refine lv_aload_n hx hb dX6_enter_21 rfl (lv_at hl 0 rfl) ?_
      refine mr_get (v := .ref (q 30)) E hM 30 (by decide) (index := 81) (mm_at 13 rfl) rfl rfl dX6_enter_22 ?_
      refine lv_bipush (v := 16) hx hb dX6_enter_25 (by decide) ?_
      refine lv_iload_n hx hb dX6_enter_27 rfl (lv_at hl 1 rfl) ?_
      refine mm_imul (X := 16) (Y := p0.toInt) hx hb dX6_enter_28 num_16 rfl (by omega) (fun z_11 hz_11 => ?_)
      refine lv_iload_n hx hb dX6_enter_29 rfl (lv_at hl 2 rfl) ?_
      refine mm_iadd (X := z_11.toInt) (Y := p1.toInt) hx hb dX6_enter_30 rfl rfl (by omega) (fun z_12 hz_12 => ?_)
      have ey_13 : (G 30 (Int32.toNatClampNeg z_12)).toInt = (G 30 (16 * Int32.toNatClampNeg p0 + Int32.toNatClampNeg p1)).toInt := by rw [show Int32.toNatClampNeg z_12 = (16 * Int32.toNatClampNeg p0 + Int32.toNatClampNeg p1) from by simp only [mm_nat]; omega]
      refine mr_ald (X := z_12.toInt) E hM 23 22 rfl rfl rfl (by omega) dX6_enter_31 ?_
      have b_14 : -1 ≤ (G 30 (Int32.toNatClampNeg z_12)).toInt ∧ (G 30 (Int32.toNatClampNeg z_12)).toInt ≤ 15 := hM.ab 30 rfl _
      have ez_z_12 : Int32.toNatClampNeg z_12 = 16 * Int32.toNatClampNeg p0 + Int32.toNatClampNeg p1 := by simp only [mm_nat]; omega
      refine mm_if_ge (X := (G 30 (Int32.toNatClampNeg z_12)).toInt) (tgt := 44) hx hb dX6_enter_32 (by decide) rfl (fun c_15 => ?_) (fun c_15 => ?_)
      · refine lv_iconst (v := (-1)) hx hb dX6_enter_44 (by decide) ?_
        exact mr_ri E hr hlk hsz hM (show mR1 G ∧ ((((-1) : Int32).toInt = -1 ∧ G = G ∧ ¬ ((0 ≤ p0.toInt ∧ p0.toInt < (F 17).toInt) ∧ (0 ≤ p1.toInt ∧ p1.toInt < (F 15).toInt) ∧ (G 30 (16 * Int32.toNatClampNeg p0 + Int32.toNatClampNeg p1)).toInt < 0 ∧ (G 28 (Int32.toNatClampNeg p0)).toInt ≤ 0)) ∨ (((0 ≤ p0.toInt ∧ p0.toInt < (F 17).toInt) ∧ (0 ≤ p1.toInt ∧ p1.toInt < (F 15).toInt) ∧ (G 30 (16 * Int32.toNatClampNeg p0 + Int32.toNatClampNeg p1)).toInt < 0 ∧ (G 28 (Int32.toNatClampNeg p0)).toInt ≤ 0) ∧ ((-1) : Int32).toInt = (G 27 (Int32.toNatClampNeg p0)).toInt + 1 ∧ (G 27 (Int32.toNatClampNeg p0)).toInt ≤ 15 ∧ ∃ z27 : Int32, z27.toInt = (G 27 (Int32.toNatClampNeg p0)).toInt + 1 ∧ G 27 = upd (G 27) (Int32.toNatClampNeg p0) z27 ∧ G 29 = upd (G 29) (16 * Int32.toNatClampNeg p0 + Int32.toNatClampNeg (G 27 (Int32.toNatClampNeg p0))) p1 ∧ G 30 = upd (G 30) (16 * Int32.toNatClampNeg p0 + Int32.toNatClampNeg p1) (G 27 (Int32.toNatClampNeg p0)))) from by have n9 := num_m1; exact ⟨hR1, Or.inl ⟨by omega, rfl, by omega⟩⟩) dX6_enter_45
      · refine lv_aload_n hx hb dX6_enter_35 rfl (lv_at hl 0 rfl) ?_
        refine mr_get (v := .ref (q 28)) E hM 28 (by decide) (index := 75) (mm_at 14 rfl) rfl rfl dX6_enter_36 ?_
        refine lv_iload_n hx hb dX6_enter_39 rfl (lv_at hl 1 rfl) ?_
        refine mr_ald (X := p0.toInt) E hM 21 20 rfl rfl rfl (by omega) dX6_enter_40 ?_
        refine mm_if_le (X := (G 28 (Int32.toNatClampNeg p0)).toInt) (tgt := 46) hx hb dX6_enter_41 (by decide) rfl (fun c_16 => ?_) (fun c_16 => ?_)
        · have hneg : (G 30 (16 * Int32.toNatClampNeg p0 + Int32.toNatClampNeg p1)).toInt < 0 := by rw [← ez_z_12]; omega
          have hr8 : Int32.toNatClampNeg p0 < 8 := mm_cl ⟨by omega, by omega⟩
          have hw16 : Int32.toNatClampNeg p1 < 16 := mm_cl ⟨by omega, by omega⟩
          have hc15 : (G 27 (Int32.toNatClampNeg p0)).toInt ≤ 15 := by
            have h1 := hR1 _ hr8
            have h2 := mCn_lt (g := G 30) (r := Int32.toNatClampNeg p0) (n := 16) hw16 hneg
            omega
          refine lv_aload_n hx hb dX6_enter_46 rfl (lv_at hl 0 rfl) ?_
          refine mr_get (v := .ref (q 30)) E hM 30 (by decide) (index := 81) (mm_at 13 rfl) rfl rfl dX6_enter_47 ?_
          refine lv_bipush (v := 16) hx hb dX6_enter_50 (by decide) ?_
          refine lv_iload_n hx hb dX6_enter_52 rfl (lv_at hl 1 rfl) ?_
          refine mm_imul (X := 16) (Y := p0.toInt) hx hb dX6_enter_53 num_16 rfl (by omega) (fun z_17 hz_17 => ?_)
          refine lv_iload_n hx hb dX6_enter_54 rfl (lv_at hl 2 rfl) ?_
          refine mm_iadd (X := z_17.toInt) (Y := p1.toInt) hx hb dX6_enter_55 rfl rfl (by omega) (fun z_18 hz_18 => ?_)
          refine lv_aload_n hx hb dX6_enter_56 rfl (lv_at hl 0 rfl) ?_
          refine mr_get (v := .ref (q 27)) E hM 27 (by decide) (index := 72) (mm_at 15 rfl) rfl rfl dX6_enter_57 ?_
          refine lv_iload_n hx hb dX6_enter_60 rfl (lv_at hl 1 rfl) ?_
          refine mr_ald (X := p0.toInt) E hM 20 19 rfl rfl rfl (by omega) dX6_enter_61 ?_
          have b_19 : 0 ≤ (G 27 (Int32.toNatClampNeg p0)).toInt ∧ (G 27 (Int32.toNatClampNeg p0)).toInt ≤ 16 := hM.ab 27 rfl _
          refine mr_ast (X := z_18.toInt) E hM 30 23 22 rfl rfl rfl (by omega) mg_30 (by decide) (mm_bdA (X := (G 27 (Int32.toNatClampNeg p0)).toInt) (a := -1) (b := 15) rfl rfl (by omega)) (by decide) dX6_enter_62 (fun H locs G_20 eG_20 hM => ?_)
          have g27_21 : (G_20 27 (Int32.toNatClampNeg p0)).toInt = (G 27 (Int32.toNatClampNeg p0)).toInt := congrArg Int32.toInt (congrFun ((show G_20 27 = G 27 from by rw [eG_20]; rfl).trans rfl) _)
          refine lv_aload_n hx hb dX6_enter_63 rfl (lv_at hl 0 rfl) ?_
          refine mr_get (v := .ref (q 29)) E hM 29 (by decide) (index := 78) (mm_at 16 rfl) rfl rfl dX6_enter_64 ?_
          refine lv_bipush (v := 16) hx hb dX6_enter_67 (by decide) ?_
          refine lv_iload_n hx hb dX6_enter_69 rfl (lv_at hl 1 rfl) ?_
          refine mm_imul (X := 16) (Y := p0.toInt) hx hb dX6_enter_70 num_16 rfl (by omega) (fun z_22 hz_22 => ?_)
          refine lv_aload_n hx hb dX6_enter_71 rfl (lv_at hl 0 rfl) ?_
          refine mr_get (v := .ref (q 27)) E hM 27 (by decide) (index := 72) (mm_at 15 rfl) rfl rfl dX6_enter_72 ?_
          refine lv_iload_n hx hb dX6_enter_75 rfl (lv_at hl 1 rfl) ?_
          refine mr_ald (X := p0.toInt) E hM 20 19 rfl rfl rfl (by omega) dX6_enter_76 ?_
          have b_23 : 0 ≤ (G_20 27 (Int32.toNatClampNeg p0)).toInt ∧ (G_20 27 (Int32.toNatClampNeg p0)).toInt ≤ 16 := hM.ab 27 rfl _
          refine mm_iadd (X := z_22.toInt) (Y := (G_20 27 (Int32.toNatClampNeg p0)).toInt) hx hb dX6_enter_77 rfl rfl (by omega) (fun z_24 hz_24 => ?_)
          refine lv_iload_n hx hb dX6_enter_78 rfl (lv_at hl 2 rfl) ?_
          refine mr_ast (X := z_24.toInt) E hM 29 22 21 rfl rfl rfl (by omega) mg_29 (by decide) (mm_bdA (X := p1.toInt) (a := 0) (b := 15) rfl rfl (by omega)) (by decide) dX6_enter_79 (fun H locs G_25 eG_25 hM => ?_)
          have g27_26 : (G_25 27 (Int32.toNatClampNeg p0)).toInt = (G 27 (Int32.toNatClampNeg p0)).toInt := congrArg Int32.toInt (congrFun ((show G_25 27 = G_20 27 from by rw [eG_25]; rfl).trans ((show G_20 27 = G 27 from by rw [eG_20]; rfl).trans rfl)) _)
          refine lv_aload_n hx hb dX6_enter_80 rfl (lv_at hl 0 rfl) ?_
          refine mr_get (v := .ref (q 27)) E hM 27 (by decide) (index := 72) (mm_at 15 rfl) rfl rfl dX6_enter_81 ?_
          refine lv_iload_n hx hb dX6_enter_84 rfl (lv_at hl 1 rfl) ?_
          refine lv_dup2_11 hx hb dX6_enter_85 rfl rfl ?_
          refine mr_ald (X := p0.toInt) E hM 20 19 rfl rfl rfl (by omega) dX6_enter_86 ?_
          have b_27 : 0 ≤ (G_25 27 (Int32.toNatClampNeg p0)).toInt ∧ (G_25 27 (Int32.toNatClampNeg p0)).toInt ≤ 16 := hM.ab 27 rfl _
          refine lv_iconst (v := 1) hx hb dX6_enter_87 (by decide) ?_
          refine mm_iadd (X := (G_25 27 (Int32.toNatClampNeg p0)).toInt) (Y := 1) hx hb dX6_enter_88 rfl num_1 (by omega) (fun z_28 hz_28 => ?_)
          refine mr_ast (X := p0.toInt) E hM 27 20 19 rfl rfl rfl (by omega) mg_27 (by decide) (mm_bdA (X := z_28.toInt) (a := 0) (b := 16) rfl rfl (by omega)) (by decide) dX6_enter_89 (fun H locs G_29 eG_29 hM => ?_)
          refine lv_aload_n hx hb dX6_enter_90 rfl (lv_at hl 0 rfl) ?_
          refine mr_get (v := .ref (q 27)) E hM 27 (by decide) (index := 72) (mm_at 15 rfl) rfl rfl dX6_enter_91 ?_
          refine lv_iload_n hx hb dX6_enter_94 rfl (lv_at hl 1 rfl) ?_
          have g9_30 : (G_29 27 (Int32.toNatClampNeg p0)).toInt = z_28.toInt := by rw [((show G_29 27 = upd (G_25 27) (Int32.toNatClampNeg p0) (z_28) from by rw [eG_29]; rfl).trans (congrArg (fun z => upd z (Int32.toNatClampNeg p0) (z_28)) ((show G_25 27 = G_20 27 from by rw [eG_25]; rfl).trans ((show G_20 27 = G 27 from by rw [eG_20]; rfl).trans rfl))))]; simp only [upd, if_true]
          refine mr_ald (X := p0.toInt) E hM 20 19 rfl rfl rfl (by omega) dX6_enter_95 ?_
          have b_31 : 0 ≤ (G_29 27 (Int32.toNatClampNeg p0)).toInt ∧ (G_29 27 (Int32.toNatClampNeg p0)).toInt ≤ 16 := hM.ab 27 rfl _
          exact mr_ri E hr hlk hsz hM (show mR1 G_29 ∧ (((G_29 27 (Int32.toNatClampNeg p0)).toInt = -1 ∧ G_29 = G ∧ ¬ ((0 ≤ p0.toInt ∧ p0.toInt < (F 17).toInt) ∧ (0 ≤ p1.toInt ∧ p1.toInt < (F 15).toInt) ∧ (G 30 (16 * Int32.toNatClampNeg p0 + Int32.toNatClampNeg p1)).toInt < 0 ∧ (G 28 (Int32.toNatClampNeg p0)).toInt ≤ 0)) ∨ (((0 ≤ p0.toInt ∧ p0.toInt < (F 17).toInt) ∧ (0 ≤ p1.toInt ∧ p1.toInt < (F 15).toInt) ∧ (G 30 (16 * Int32.toNatClampNeg p0 + Int32.toNatClampNeg p1)).toInt < 0 ∧ (G 28 (Int32.toNatClampNeg p0)).toInt ≤ 0) ∧ (G_29 27 (Int32.toNatClampNeg p0)).toInt = (G 27 (Int32.toNatClampNeg p0)).toInt + 1 ∧ (G 27 (Int32.toNatClampNeg p0)).toInt ≤ 15 ∧ ∃ z27 : Int32, z27.toInt = (G 27 (Int32.toNatClampNeg p0)).toInt + 1 ∧ G_29 27 = upd (G 27) (Int32.toNatClampNeg p0) z27 ∧ G_29 29 = upd (G 29) (16 * Int32.toNatClampNeg p0 + Int32.toNatClampNeg (G 27 (Int32.toNatClampNeg p0))) p1 ∧ G_29 30 = upd (G 30) (16 * Int32.toNatClampNeg p0 + Int32.toNatClampNeg p1) (G 27 (Int32.toNatClampNeg p0)))) from by exact ⟨by exact mR1.enter hR1 hr8 hw16 hneg (x := (G 27 (Int32.toNatClampNeg p0))) (z := z_28) (by omega) (by omega) ((show G_29 27 = upd (G_25 27) (Int32.toNatClampNeg p0) (z_28) from by rw [eG_29]; rfl).trans (congrArg (fun z => upd z (Int32.toNatClampNeg p0) (z_28)) ((show G_25 27 = G_20 27 from by rw [eG_25]; rfl).trans ((show G_20 27 = G 27 from by rw [eG_20]; rfl).trans rfl)))) (by rw [← (show Int32.toNatClampNeg z_18 = 16 * Int32.toNatClampNeg p0 + Int32.toNatClampNeg p1 from by simp only [mm_nat]; omega)]; exact ((show G_29 30 = G_25 30 from by rw [eG_29]; rfl).trans ((show G_25 30 = G_20 30 from by rw [eG_25]; rfl).trans ((show G_20 30 = upd (G 30) (Int32.toNatClampNeg z_18) ((G 27 (Int32.toNatClampNeg p0))) from by rw [eG_20]; rfl).trans (congrArg (fun z => upd z (Int32.toNatClampNeg z_18) ((G 27 (Int32.toNatClampNeg p0)))) rfl))))), Or.inr ⟨by omega, by omega, by omega, z_28, by omega, ((show G_29 27 = upd (G_25 27) (Int32.toNatClampNeg p0) (z_28) from by rw [eG_29]; rfl).trans (congrArg (fun z => upd z (Int32.toNatClampNeg p0) (z_28)) ((show G_25 27 = G_20 27 from by rw [eG_25]; rfl).trans ((show G_20 27 = G 27 from by rw [eG_20]; rfl).trans rfl)))), (by rw [← (show Int32.toNatClampNeg z_24 = 16 * Int32.toNatClampNeg p0 + Int32.toNatClampNeg (G 27 (Int32.toNatClampNeg p0)) from by have h1 := mm_nat z_24; have h2 := mm_nat p0; have h3 := mm_nat (G 27 (Int32.toNatClampNeg p0)); omega)]; exact ((show G_29 29 = G_25 29 from by rw [eG_29]; rfl).trans ((show G_25 29 = upd (G_20 29) (Int32.toNatClampNeg z_24) (p1) from by rw [eG_25]; rfl).trans (congrArg (fun z => upd z (Int32.toNatClampNeg z_24) (p1)) ((show G_20 29 = G 29 from by rw [eG_20]; rfl).trans rfl))))), (by rw [← (show Int32.toNatClampNeg z_18 = (16 * Int32.toNatClampNeg p0 + Int32.toNatClampNeg p1) from by simp only [mm_nat]; omega)]; exact ((show G_29 30 = G_25 30 from by rw [eG_29]; rfl).trans ((show G_25 30 = G_20 30 from by rw [eG_25]; rfl).trans ((show G_20 30 = upd (G 30) (Int32.toNatClampNeg z_18) ((G 27 (Int32.toNatClampNeg p0))) from by rw [eG_20]; rfl).trans (congrArg (fun z => upd z (Int32.toNatClampNeg z_18) ((G 27 (Int32.toNatClampNeg p0)))) rfl)))))⟩⟩) dX6_enter_96
        · refine lv_iconst (v := (-1)) hx hb dX6_enter_44 (by decide) ?_
          exact mr_ri E hr hlk hsz hM (show mR1 G ∧ ((((-1) : Int32).toInt = -1 ∧ G = G ∧ ¬ ((0 ≤ p0.toInt ∧ p0.toInt < (F 17).toInt) ∧ (0 ≤ p1.toInt ∧ p1.toInt < (F 15).toInt) ∧ (G 30 (16 * Int32.toNatClampNeg p0 + Int32.toNatClampNeg p1)).toInt < 0 ∧ (G 28 (Int32.toNatClampNeg p0)).toInt ≤ 0)) ∨ (((0 ≤ p0.toInt ∧ p0.toInt < (F 17).toInt) ∧ (0 ≤ p1.toInt ∧ p1.toInt < (F 15).toInt) ∧ (G 30 (16 * Int32.toNatClampNeg p0 + Int32.toNatClampNeg p1)).toInt < 0 ∧ (G 28 (Int32.toNatClampNeg p0)).toInt ≤ 0) ∧ ((-1) : Int32).toInt = (G 27 (Int32.toNatClampNeg p0)).toInt + 1 ∧ (G 27 (Int32.toNatClampNeg p0)).toInt ≤ 15 ∧ ∃ z27 : Int32, z27.toInt = (G 27 (Int32.toNatClampNeg p0)).toInt + 1 ∧ G 27 = upd (G 27) (Int32.toNatClampNeg p0) z27 ∧ G 29 = upd (G 29) (16 * Int32.toNatClampNeg p0 + Int32.toNatClampNeg (G 27 (Int32.toNatClampNeg p0))) p1 ∧ G 30 = upd (G 30) (16 * Int32.toNatClampNeg p0 + Int32.toNatClampNeg p1) (G 27 (Int32.toNatClampNeg p0)))) from by have n9 := num_m1; exact ⟨hR1, Or.inl ⟨by omega, rfl, by omega⟩⟩) dX6_enter_45
