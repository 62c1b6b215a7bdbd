theorem wk_mul {a b : Int} (ha : 0 ≤ a ∧ a ≤ 36000) (hb : -1 ≤ b ∧ b ≤ 15) : -36000 ≤ a * b ∧ a * b ≤ 540000 := by
  rcases (show b = -1 ∨ b = 0 ∨ b = 1 ∨ b = 2 ∨ b = 3 ∨ b = 4 ∨ b = 5 ∨ b = 6 ∨ b = 7 ∨ b = 8 ∨ b = 9 ∨ b = 10 ∨ b = 11 ∨ b = 12 ∨ b = 13 ∨ b = 14 ∨ b = 15 by omega) with e | e | e | e | e | e | e | e | e | e | e | e | e | e | e | e | e <;> (rw [e]; omega)
/-- the start of a racer in a race, out of the race that it starts by -/
def wkS (G : Nat → Nat → Int32) (ra r v : Nat) (s : Int) : Prop :=
  ((G 24 r).toInt = 9 ∧ s = 0) ∨ ((G 24 r).toInt = 10 ∧ s = 10 * (G 25 r).toInt * (G 30 (16 * r + v)).toInt) ∨
  (¬ (G 24 r).toInt = 9 ∧ ¬ (G 24 r).toInt = 10 ∧ ((((G 30 (16 * (G 26 r).toInt.toNat + v)).toInt < 0 ∨ (G 46 (16 * (G 26 r).toInt.toNat + v)).toInt < 0) ∧ s = -1) ∨
    (0 ≤ (G 30 (16 * (G 26 r).toInt.toNat + v)).toInt ∧ 0 ≤ (G 46 (16 * (G 26 r).toInt.toNat + v)).toInt ∧ ∃ mi : Int, lMn G (G 26 r).toInt.toNat ra mi ∧ s = if ((G 46 (16 * (G 26 r).toInt.toNat + v)).toInt - mi) / 10 * 10 < 10 * (G 25 r).toInt then ((G 46 (16 * (G 26 r).toInt.toNat + v)).toInt - mi) / 10 * 10 else 10 * (G 25 r).toInt)))
def w7X6_startOf : List Cond := .code yX6_startOf cX6_startOf 5 (some .int) :: ([.fieldLink RX6 63 "SkiShotsModel" "rHow" "[I", .fieldLink RX6 69 "SkiShotsModel" "rBy" "[I", .fieldLink RX6 81 "SkiShotsModel" "entryOf" "[I", .fieldLink RX6 108 "SkiShotsModel" "low" "[I", .methodLink RX6 224 yX6_least, .instanceMethod yX6_least, .selects RX6 yX6_least yX6_least, .initialized RX6, .code yX6_least cX6_least 4 (some .int), .fieldLink RX6 197 "SkiShotsModel" "racers" "I", .fieldLink RX6 66 "SkiShotsModel" "rNumber" "[I"] ++ wsX60)
set_option maxRecDepth 20000 in
theorem g8_X6_startOf_X6_least_9 : GoodIn w7X6_startOf (wsV RX6 224 RX6 yX6_least w7X6_least) := goodIn_p _ [9] rfl (by decide +kernel)
set_option maxHeartbeats 4000000 in
set_option maxRecDepth 100000 in
theorem g7_X6_startOf (l : Launch) (D : va_G) (h0 : Nat) (q : Nat → Nat) (cq : Nat → ClassId) (F : Nat → Int32) (G : Nat → Nat → Int32) (sz : Nat) (p0 : Int32) (p1 : Int32) (hI : mI F G) (k0 : 0 ≤ p0.toInt ∧ p0.toInt < 8) (k1 : 0 ≤ p1.toInt ∧ p1.toInt < 16) (hby : (G 24 (Int32.toNatClampNeg p0)).toInt = 9 ∨ (G 24 (Int32.toNatClampNeg p0)).toInt = 10 ∨ 0 ≤ (G 26 (Int32.toNatClampNeg p0)).toInt) (hv : p1.toInt < (F 15).toInt) (hnu : 0 ≤ (G 25 (Int32.toNatClampNeg p0)).toInt ∧ (G 25 (Int32.toNatClampNeg p0)).toInt ≤ 3600) : Met l yX6_startOf w7X6_startOf ({ frames := 1, cells := 0, slots := 0, locals := 23 }) (mPre D h0 q cq F G sz [.ref h0, .int p0, .int p1]) (mQi D h0 q cq F G sz [] [] (fun r F' G' => wkS G (Int32.toNatClampNeg (F 15)) (Int32.toNatClampNeg p0) (Int32.toNatClampNeg p1) r.toInt)) 0 0 (va_A (mW h0 q cq F G) sz) := by
  refine mr_met (WF := []) (WG := []) (cc := cX6_startOf) (maxL := 5) (ret := (some .int)) (by decide) rfl rfl (by decide +kernel) (Nat.le_of_ble_eq_true rfl) hI ?_
  intro p e s m args below meth c ls E hml hr hlk hsz hA hM hl
  have hx := E.1
  have hb := E.2.1
  have hts := E.2.2.1
  have hown := E.2.2.2.2.1
  have hl : lv_has ls 5 [(0, .ref h0), (1, .int p0), (2, .int p1)] := hl
  refine lv_aload_n hx hb dX6_startOf_0 rfl (lv_at hl 0 rfl) ?_
  refine mr_get (v := .ref (q 24)) E hM 24 (by decide) (index := 63) (mm_at 1 rfl) rfl rfl dX6_startOf_1 ?_
  refine lv_iload_n hx hb dX6_startOf_4 rfl (lv_at hl 1 rfl) ?_
  refine mr_ald (X := p0.toInt) E hM 17 16 rfl rfl rfl (by omega) dX6_startOf_5 ?_
  refine lv_bipush (v := 9) hx hb dX6_startOf_6 (by decide) ?_
  refine mm_icmp_ne (X := (G 24 (Int32.toNatClampNeg p0)).toInt) (Y := 9) (tgt := 13) hx hb dX6_startOf_8 (by decide) rfl num_9 (fun c_1 => ?_) (fun c_1 => ?_)
  · refine lv_aload_n hx hb dX6_startOf_13 rfl (lv_at hl 0 rfl) ?_
    refine mr_get (v := .ref (q 24)) E hM 24 (by decide) (index := 63) (mm_at 1 rfl) rfl rfl dX6_startOf_14 ?_
    refine lv_iload_n hx hb dX6_startOf_17 rfl (lv_at hl 1 rfl) ?_
    refine mr_ald (X := p0.toInt) E hM 17 16 rfl rfl rfl (by omega) dX6_startOf_18 ?_
    refine lv_bipush (v := 10) hx hb dX6_startOf_19 (by decide) ?_
    refine mm_icmp_ne (X := (G 24 (Int32.toNatClampNeg p0)).toInt) (Y := 10) (tgt := 46) hx hb dX6_startOf_21 (by decide) rfl num_10 (fun c_2 => ?_) (fun c_2 => ?_)
    · refine lv_bipush (v := 16) hx hb dX6_startOf_46 (by decide) ?_
      refine lv_aload_n hx hb dX6_startOf_48 rfl (lv_at hl 0 rfl) ?_
      refine mr_get (v := .ref (q 26)) E hM 26 (by decide) (index := 69) (mm_at 2 rfl) rfl rfl dX6_startOf_49 ?_
      refine lv_iload_n hx hb dX6_startOf_52 rfl (lv_at hl 1 rfl) ?_
      refine mr_ald (X := p0.toInt) E hM 19 18 rfl rfl rfl (by omega) dX6_startOf_53 ?_
      have b_3 : -1 ≤ (G 26 (Int32.toNatClampNeg p0)).toInt ∧ (G 26 (Int32.toNatClampNeg p0)).toInt ≤ 7 := hM.ab 26 rfl _
      refine mm_imul (X := 16) (Y := (G 26 (Int32.toNatClampNeg p0)).toInt) hx hb dX6_startOf_54 num_16 rfl (by omega) (fun z_4 hz_4 => ?_)
      refine lv_iload_n hx hb dX6_startOf_55 rfl (lv_at hl 2 rfl) ?_
      refine mm_iadd (X := z_4.toInt) (Y := p1.toInt) hx hb dX6_startOf_56 rfl rfl (by omega) (fun z_5 hz_5 => ?_)
      have ex57 : Int32.toNatClampNeg z_5 = (16 * (G 26 (Int32.toNatClampNeg p0)).toInt.toNat + Int32.toNatClampNeg p1) := by have h1 := mm_nat z_5; have h2 := mm_nat p1; omega
      have ey57_30 : (G 30 (Int32.toNatClampNeg z_5)).toInt = (G 30 (16 * (G 26 (Int32.toNatClampNeg p0)).toInt.toNat + Int32.toNatClampNeg p1)).toInt := by rw [ex57]
      have ey57_46 : (G 46 (Int32.toNatClampNeg z_5)).toInt = (G 46 (16 * (G 26 (Int32.toNatClampNeg p0)).toInt.toNat + Int32.toNatClampNeg p1)).toInt := by rw [ex57]
      refine lv_istore_n (lv' := [(3, .int z_5), (0, .ref h0), (1, .int p0), (2, .int p1)]) hx hb dX6_startOf_57 rfl hl (by decide) rfl (fun ls hl => ?_)
      refine lv_aload_n hx hb dX6_startOf_58 rfl (lv_at hl 1 rfl) ?_
      refine mr_get (v := .ref (q 30)) E hM 30 (by decide) (index := 81) (mm_at 3 rfl) rfl rfl dX6_startOf_59 ?_
      refine lv_iload_n hx hb dX6_startOf_62 rfl (lv_at hl 0 rfl) ?_
      refine mr_ald (X := z_5.toInt) E hM 23 22 rfl rfl rfl (by omega) dX6_startOf_63 ?_
      have b_6 : -1 ≤ (G 30 (Int32.toNatClampNeg z_5)).toInt ∧ (G 30 (Int32.toNatClampNeg z_5)).toInt ≤ 15 := hM.ab 30 rfl _
      refine mm_if_lt (X := (G 30 (Int32.toNatClampNeg z_5)).toInt) (tgt := 76) hx hb dX6_startOf_64 (by decide) rfl (fun c_7 => ?_) (fun c_7 => ?_)
      · refine lv_iconst (v := (-1)) hx hb dX6_startOf_76 (by decide) ?_
        exact mr_ri E hr hlk hsz hM (show wkS G (Int32.toNatClampNeg (F 15)) (Int32.toNatClampNeg p0) (Int32.toNatClampNeg p1) ((-1) : Int32).toInt from by have n9 := num_m1; exact Or.inr (Or.inr ⟨by omega, by omega, Or.inl ⟨by omega, by omega⟩⟩)) dX6_startOf_77
      · refine lv_aload_n hx hb dX6_startOf_67 rfl (lv_at hl 1 rfl) ?_
        refine mr_get (v := .ref (q 46)) E hM 46 (by decide) (index := 108) (mm_at 4 rfl) rfl rfl dX6_startOf_68 ?_
        refine lv_iload_n hx hb dX6_startOf_71 rfl (lv_at hl 0 rfl) ?_
        refine mr_ald (X := z_5.toInt) E hM 32 31 rfl rfl rfl (by omega) dX6_startOf_72 ?_
        refine mm_if_ge (X := (G 46 (Int32.toNatClampNeg z_5)).toInt) (tgt := 78) hx hb dX6_startOf_73 (by decide) rfl (fun c_8 => ?_) (fun c_8 => ?_)
        · refine lv_aload_n hx hb dX6_startOf_78 rfl (lv_at hl 1 rfl) ?_
          refine mr_get (v := .ref (q 46)) E hM 46 (by decide) (index := 108) (mm_at 4 rfl) rfl rfl dX6_startOf_79 ?_
          refine lv_iload_n hx hb dX6_startOf_82 rfl (lv_at hl 0 rfl) ?_
          refine mr_ald (X := z_5.toInt) E hM 32 31 rfl rfl rfl (by omega) dX6_startOf_83 ?_
          refine lv_aload_n hx hb dX6_startOf_84 rfl (lv_at hl 1 rfl) ?_
          refine lv_aload_n hx hb dX6_startOf_85 rfl (lv_at hl 1 rfl) ?_
          refine mr_get (v := .ref (q 26)) E hM 26 (by decide) (index := 69) (mm_at 2 rfl) rfl rfl dX6_startOf_86 ?_
          refine lv_iload_n hx hb dX6_startOf_89 rfl (lv_at hl 2 rfl) ?_
          refine mr_ald (X := p0.toInt) E hM 19 18 rfl rfl rfl (by omega) dX6_startOf_90 ?_
          refine mr_callp (av := [.int (G 26 (Int32.toNatClampNeg p0))]) (rest := [.int (G 46 (Int32.toNatClampNeg z_5))]) E hA hml hM (g7_X6_least l D h0 q cq F G _ (G 26 (Int32.toNatClampNeg p0)) hM.2.2.2.1 (show 0 ≤ (G 26 (Int32.toNatClampNeg p0)).toInt ∧ (G 26 (Int32.toNatClampNeg p0)).toInt < 8 from by omega)) (cwV 1 hts g8_X6_startOf_X6_least_9 rfl rfl rfl (by decide +kernel) ⟨Nat.le_of_ble_eq_true rfl, Nat.le_of_ble_eq_true rfl⟩) rfl hl.1 rfl (Nat.le_of_ble_eq_true rfl) dX6_startOf_91 ⟨Nat.le_of_ble_eq_true rfl, Nat.le_of_ble_eq_true rfl⟩ (fun r_10 H locs p_11 hM => ?_)
          replace p_11 : lMn G (Int32.toNatClampNeg (G 26 (Int32.toNatClampNeg p0))) (Int32.toNatClampNeg (F 15)) r_10.toInt := p_11
          have rg94 := mm_rng (G 46 (16 * (G 26 (Int32.toNatClampNeg p0)).toInt.toNat + Int32.toNatClampNeg p1))
          have hle : r_10.toInt ≤ (G 46 (16 * (G 26 (Int32.toNatClampNeg p0)).toInt.toNat + Int32.toNatClampNeg p1)).toInt ∧ 0 ≤ r_10.toInt := by
            have hw := hv
            rcases p_11 with ⟨a, b⟩ | ⟨a, -, b⟩
            · exact absurd (b (Int32.toNatClampNeg p1) (by simp only [mm_nat]; omega) (by rw [mm_nat (G 26 (Int32.toNatClampNeg p0))]; omega)) (by rw [mm_nat (G 26 (Int32.toNatClampNeg p0))]; omega)
            · exact ⟨by have := b (Int32.toNatClampNeg p1) (by simp only [mm_nat]; omega) (by rw [mm_nat (G 26 (Int32.toNatClampNeg p0))]; omega) (by rw [mm_nat (G 26 (Int32.toNatClampNeg p0))]; omega); rw [mm_nat (G 26 (Int32.toNatClampNeg p0))] at this; exact this, a⟩
          refine mm_isub (X := (G 46 (Int32.toNatClampNeg z_5)).toInt) (Y := r_10.toInt) hx hb dX6_startOf_94 rfl rfl (by omega) (fun z_12 hz_12 => ?_)
          refine lv_bipush (v := 10) hx hb dX6_startOf_95 (by decide) ?_
          refine lv_idiv hx hb dX6_startOf_97 (by decide) ?_
          refine lv_topi (fun z_13 ez_13 => ?_)
          have hz_13 : z_13.toInt = z_12.toInt / 10 := by rw [ez_13]; exact wk_div10 (by omega)
          refine lv_bipush (v := 10) hx hb dX6_startOf_98 (by decide) ?_
          refine mm_imul (X := z_13.toInt) (Y := 10) hx hb dX6_startOf_100 rfl num_10 (by omega) (fun z_14 hz_14 => ?_)
          refine lv_istore (lv' := [(4, .int z_14), (3, .int z_5), (0, .ref h0), (1, .int p0), (2, .int p1)]) hx hb dX6_startOf_101 hl (by decide) rfl (fun ls hl => ?_)
          refine lv_iload hx hb dX6_startOf_103 (lv_at hl 0 rfl) ?_
          refine lv_bipush (v := 10) hx hb dX6_startOf_105 (by decide) ?_
          refine lv_aload_n hx hb dX6_startOf_107 rfl (lv_at hl 2 rfl) ?_
          refine mr_get (v := .ref (q 25)) E hM 25 (by decide) (index := 66) (mm_at 11 rfl) rfl rfl dX6_startOf_108 ?_
          refine lv_iload_n hx hb dX6_startOf_111 rfl (lv_at hl 3 rfl) ?_
          refine mr_ald (X := p0.toInt) E hM 18 17 rfl rfl rfl (by omega) dX6_startOf_112 ?_
          refine mm_imul (X := 10) (Y := (G 25 (Int32.toNatClampNeg p0)).toInt) hx hb dX6_startOf_113 num_10 rfl (by omega) (fun z_15 hz_15 => ?_)
          refine mm_icmp_ge (X := z_14.toInt) (Y := z_15.toInt) (tgt := 122) hx hb dX6_startOf_114 (by decide) rfl rfl (fun c_16 => ?_) (fun c_16 => ?_)
          · refine lv_bipush (v := 10) hx hb dX6_startOf_122 (by decide) ?_
            refine lv_aload_n hx hb dX6_startOf_124 rfl (lv_at hl 2 rfl) ?_
            refine mr_get (v := .ref (q 25)) E hM 25 (by decide) (index := 66) (mm_at 11 rfl) rfl rfl dX6_startOf_125 ?_
            refine lv_iload_n hx hb dX6_startOf_128 rfl (lv_at hl 3 rfl) ?_
            refine mr_ald (X := p0.toInt) E hM 18 17 rfl rfl rfl (by omega) dX6_startOf_129 ?_
            refine mm_imul (X := 10) (Y := (G 25 (Int32.toNatClampNeg p0)).toInt) hx hb dX6_startOf_130 num_10 rfl (by omega) (fun z_17 hz_17 => ?_)
            exact mr_ri E hr hlk hsz hM (show wkS G (Int32.toNatClampNeg (F 15)) (Int32.toNatClampNeg p0) (Int32.toNatClampNeg p1) z_17.toInt from by refine Or.inr (Or.inr ⟨by omega, by omega, Or.inr ⟨by omega, by omega, r_10.toInt, p_11, ?_⟩⟩); split <;> omega) dX6_startOf_131
          · refine lv_iload hx hb dX6_startOf_117 (lv_at hl 0 rfl) ?_
            refine lv_goto (tgt := 131) hx hb dX6_startOf_119 (by decide) ?_
            exact mr_ri E hr hlk hsz hM (show wkS G (Int32.toNatClampNeg (F 15)) (Int32.toNatClampNeg p0) (Int32.toNatClampNeg p1) z_14.toInt from by refine Or.inr (Or.inr ⟨by omega, by omega, Or.inr ⟨by omega, by omega, r_10.toInt, p_11, ?_⟩⟩); split <;> omega) dX6_startOf_131
        · refine lv_iconst (v := (-1)) hx hb dX6_startOf_76 (by decide) ?_
          exact mr_ri E hr hlk hsz hM (show wkS G (Int32.toNatClampNeg (F 15)) (Int32.toNatClampNeg p0) (Int32.toNatClampNeg p1) ((-1) : Int32).toInt from by have n9 := num_m1; exact Or.inr (Or.inr ⟨by omega, by omega, Or.inl ⟨by omega, by omega⟩⟩)) dX6_startOf_77
    · refine lv_bipush (v := 10) hx hb dX6_startOf_24 (by decide) ?_
      refine lv_aload_n hx hb dX6_startOf_26 rfl (lv_at hl 0 rfl) ?_
      refine mr_get (v := .ref (q 25)) E hM 25 (by decide) (index := 66) (mm_at 11 rfl) rfl rfl dX6_startOf_27 ?_
      refine lv_iload_n hx hb dX6_startOf_30 rfl (lv_at hl 1 rfl) ?_
      refine mr_ald (X := p0.toInt) E hM 18 17 rfl rfl rfl (by omega) dX6_startOf_31 ?_
      refine mm_imul (X := 10) (Y := (G 25 (Int32.toNatClampNeg p0)).toInt) hx hb dX6_startOf_32 num_10 rfl (by omega) (fun z_18 hz_18 => ?_)
      refine lv_aload_n hx hb dX6_startOf_33 rfl (lv_at hl 0 rfl) ?_
      refine mr_get (v := .ref (q 30)) E hM 30 (by decide) (index := 81) (mm_at 3 rfl) rfl rfl dX6_startOf_34 ?_
      refine lv_bipush (v := 16) hx hb dX6_startOf_37 (by decide) ?_
      refine lv_iload_n hx hb dX6_startOf_39 rfl (lv_at hl 1 rfl) ?_
      refine mm_imul (X := 16) (Y := p0.toInt) hx hb dX6_startOf_40 num_16 rfl (by omega) (fun z_19 hz_19 => ?_)
      refine lv_iload_n hx hb dX6_startOf_41 rfl (lv_at hl 2 rfl) ?_
      refine mm_iadd (X := z_19.toInt) (Y := p1.toInt) hx hb dX6_startOf_42 rfl rfl (by omega) (fun z_20 hz_20 => ?_)
      have ex43 : Int32.toNatClampNeg z_20 = (16 * Int32.toNatClampNeg p0 + Int32.toNatClampNeg p1) := by simp only [mm_nat]; omega
      have eb43 : -1 ≤ (G 30 (Int32.toNatClampNeg z_20)).toInt ∧ (G 30 (Int32.toNatClampNeg z_20)).toInt ≤ 15 := hM.ab 30 rfl _
      refine mr_ald (X := z_20.toInt) E hM 23 22 rfl rfl rfl (by omega) dX6_startOf_43 ?_
      have b_21 : -1 ≤ (G 30 (Int32.toNatClampNeg z_20)).toInt ∧ (G 30 (Int32.toNatClampNeg z_20)).toInt ≤ 15 := hM.ab 30 rfl _
      have hm44 := wk_mul (a := z_18.toInt) (b := (G 30 (Int32.toNatClampNeg z_20)).toInt) (by omega) (by omega)
      refine mm_imul (X := z_18.toInt) (Y := (G 30 (Int32.toNatClampNeg z_20)).toInt) hx hb dX6_startOf_44 rfl rfl (by omega) (fun z_22 hz_22 => ?_)
      exact mr_ri E hr hlk hsz hM (show wkS G (Int32.toNatClampNeg (F 15)) (Int32.toNatClampNeg p0) (Int32.toNatClampNeg p1) z_22.toInt from by exact Or.inr (Or.inl ⟨by omega, by rw [hz_22, hz_18, ex43]⟩)) dX6_startOf_45
  · refine lv_iconst (v := 0) hx hb dX6_startOf_11 (by decide) ?_
    exact mr_ri E hr hlk hsz hM (show wkS G (Int32.toNatClampNeg (F 15)) (Int32.toNatClampNeg p0) (Int32.toNatClampNeg p1) (0 : Int32).toInt from by have n9 := num_0; exact Or.inl ⟨by omega, by omega⟩) dX6_startOf_12
