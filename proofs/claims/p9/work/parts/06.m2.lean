theorem num_2 : (2 : Int32).toInt = 2 := by decide
theorem num_9 : (9 : Int32).toInt = 9 := by decide
theorem num_31 : (31 : Int32).toInt = 31 := by decide
theorem num_400 : (400 : Int32).toInt = 400 := by decide
theorem num_200000 : (200000 : Int32).toInt = 200000 := by decide
def w3X6_isIn : List Cond := .code yX6_isIn cX6_isIn 3 (some .boolean) :: ([.methodLink RX6 203 yX6_isRace, .instanceMethod yX6_isRace, .selects RX6 yX6_isRace yX6_isRace, .initialized RX6, .code yX6_isRace cX6_isRace 2 (some .boolean), .fieldLink RX6 200 "SkiShotsModel" "races" "I", .methodLink RX6 206 yX6_isRacer, .instanceMethod yX6_isRacer, .selects RX6 yX6_isRacer yX6_isRacer, .code yX6_isRacer cX6_isRacer 2 (some .boolean), .fieldLink RX6 197 "SkiShotsModel" "racers" "I", .fieldLink RX6 81 "SkiShotsModel" "entryOf" "[I"] ++ wsX60)
set_option maxRecDepth 20000 in
theorem gc_X6_isIn_X6_isRace_1 : GoodIn w3X6_isIn (wsV RX6 203 RX6 yX6_isRace w3X6_isRace) := goodIn_p _ [5] rfl (by decide +kernel)
set_option maxRecDepth 20000 in
theorem gc_X6_isIn_X6_isRacer_6 : GoodIn w3X6_isIn (wsV RX6 206 RX6 yX6_isRacer w3X6_isRacer) := goodIn_p _ [10] rfl (by decide +kernel)
set_option maxHeartbeats 4000000 in
set_option maxRecDepth 100000 in
theorem g3_X6_isIn (l : Launch) (D : va_G) (h0 : Nat) (q : Nat → Nat) (cq : Nat → ClassId) (F : Nat → Int32) (G : Nat → Nat → Int32) (sz : Nat) (p0 : Int32) (p1 : Int32) (hI : mI F G)  : Met l yX6_isIn w3X6_isIn ({ frames := 1, cells := 0, slots := 0, locals := 21 }) (mPre D h0 q cq F G sz [.ref h0, .int p0, .int p1]) (mQi D h0 q cq F G sz [] [] (fun r F' G' => (r.toInt = 1 ∧ 0 ≤ p0.toInt ∧ p0.toInt < (F 17).toInt ∧ 0 ≤ p1.toInt ∧ p1.toInt < (F 15).toInt) ∨ r.toInt = 0)) 0 0 (va_A (mW h0 q cq F G) sz) := by
  refine mr_met (WF := []) (WG := []) (cc := cX6_isIn) (maxL := 3) (ret := (some .boolean)) (by decide) rfl rfl (by decide +kernel) (Nat.le_of_ble_eq_true rfl) hI ?_
  intro p e s m args below meth c ls E hml hr hlk hsz hA hM hl
  have hx := E.1
  have hb := E.2.1
  have hts := E.2.2.1
  have hown := E.2.2.2.2.1
  have hl : lv_has ls 3 [(0, .ref h0), (1, .int p0), (2, .int p1)] := hl
  refine lv_aload_n hx hb dX6_isIn_0 rfl (lv_at hl 0 rfl) ?_
  refine lv_iload_n hx hb dX6_isIn_1 rfl (lv_at hl 1 rfl) ?_
  have b_2 : 0 ≤ (F 17).toInt ∧ (F 17).toInt ≤ 8 := hM.fb 17 rfl
  refine mr_callp (av := [.int p0]) (rest := []) E hA hml hM (g3_X6_isRace l D h0 q cq F G _ p0 hM.2.2.2.1 ) (cwV 1 hts gc_X6_isIn_X6_isRace_1 rfl rfl rfl (by decide +kernel) ⟨Nat.le_of_ble_eq_true rfl, Nat.le_of_ble_eq_true rfl⟩) rfl hl.1 rfl (Nat.le_of_ble_eq_true rfl) dX6_isIn_2 ⟨Nat.le_of_ble_eq_true rfl, Nat.le_of_ble_eq_true rfl⟩ (fun r_3 H locs p_4 hM => ?_)
  replace p_4 : (r_3.toInt = 1 ∧ 0 ≤ p0.toInt ∧ p0.toInt < (F 17).toInt) ∨ (r_3.toInt = 0 ∧ ¬ (0 ≤ p0.toInt ∧ p0.toInt < (F 17).toInt)) := p_4
  refine mm_if_eq (X := r_3.toInt) (tgt := 34) hx hb dX6_isIn_5 (by decide) rfl (fun c_5 => ?_) (fun c_5 => ?_)
  · refine lv_iconst (v := 0) hx hb dX6_isIn_34 (by decide) ?_
    exact mr_rz (X := 0) E hr hlk hsz hM num_0 (by omega) (show ((0 : Int32).toInt = 1 ∧ 0 ≤ p0.toInt ∧ p0.toInt < (F 17).toInt ∧ 0 ≤ p1.toInt ∧ p1.toInt < (F 15).toInt) ∨ (0 : Int32).toInt = 0 from by have n9 := num_0; omega) dX6_isIn_35
  · refine lv_aload_n hx hb dX6_isIn_8 rfl (lv_at hl 0 rfl) ?_
    refine lv_iload_n hx hb dX6_isIn_9 rfl (lv_at hl 2 rfl) ?_
    have b_7 : 0 ≤ (F 15).toInt ∧ (F 15).toInt ≤ 16 := hM.fb 15 rfl
    refine mr_callp (av := [.int p1]) (rest := []) E hA hml hM (g3_X6_isRacer l D h0 q cq F G _ p1 hM.2.2.2.1 ) (cwV 1 hts gc_X6_isIn_X6_isRacer_6 rfl rfl rfl (by decide +kernel) ⟨Nat.le_of_ble_eq_true rfl, Nat.le_of_ble_eq_true rfl⟩) rfl hl.1 rfl (Nat.le_of_ble_eq_true rfl) dX6_isIn_10 ⟨Nat.le_of_ble_eq_true rfl, Nat.le_of_ble_eq_true rfl⟩ (fun r_8 H locs p_9 hM => ?_)
    replace p_9 : (r_8.toInt = 1 ∧ 0 ≤ p1.toInt ∧ p1.toInt < (F 15).toInt) ∨ (r_8.toInt = 0 ∧ ¬ (0 ≤ p1.toInt ∧ p1.toInt < (F 15).toInt)) := p_9
    refine mm_if_eq (X := r_8.toInt) (tgt := 34) hx hb dX6_isIn_13 (by decide) rfl (fun c_10 => ?_) (fun c_10 => ?_)
    · refine lv_iconst (v := 0) hx hb dX6_isIn_34 (by decide) ?_
      exact mr_rz (X := 0) E hr hlk hsz hM num_0 (by omega) (show ((0 : Int32).toInt = 1 ∧ 0 ≤ p0.toInt ∧ p0.toInt < (F 17).toInt ∧ 0 ≤ p1.toInt ∧ p1.toInt < (F 15).toInt) ∨ (0 : Int32).toInt = 0 from by have n9 := num_0; omega) dX6_isIn_35
    · refine lv_aload_n hx hb dX6_isIn_16 rfl (lv_at hl 0 rfl) ?_
      refine mr_get (v := .ref (q 30)) E hM 30 (by decide) (index := 81) (mm_at 12 rfl) rfl rfl dX6_isIn_17 ?_
      refine lv_bipush (v := 16) hx hb dX6_isIn_20 (by decide) ?_
      refine lv_iload_n hx hb dX6_isIn_22 rfl (lv_at hl 1 rfl) ?_
      refine mm_imul (X := 16) (Y := p0.toInt) hx hb dX6_isIn_23 num_16 rfl (by omega) (fun z_11 hz_11 => ?_)
      refine lv_iload_n hx hb dX6_isIn_24 rfl (lv_at hl 2 rfl) ?_
      refine mm_iadd (X := z_11.toInt) (Y := p1.toInt) hx hb dX6_isIn_25 rfl rfl (by omega) (fun z_12 hz_12 => ?_)
      refine mr_ald (X := z_12.toInt) E hM 23 22 rfl rfl rfl (by omega) dX6_isIn_26 ?_
      have b_13 : -1 ≤ (G 30 (Int32.toNatClampNeg z_12)).toInt ∧ (G 30 (Int32.toNatClampNeg z_12)).toInt ≤ 15 := hM.ab 30 rfl _
      refine mm_if_lt (X := (G 30 (Int32.toNatClampNeg z_12)).toInt) (tgt := 34) hx hb dX6_isIn_27 (by decide) rfl (fun c_14 => ?_) (fun c_14 => ?_)
      · refine lv_iconst (v := 0) hx hb dX6_isIn_34 (by decide) ?_
        exact mr_rz (X := 0) E hr hlk hsz hM num_0 (by omega) (show ((0 : Int32).toInt = 1 ∧ 0 ≤ p0.toInt ∧ p0.toInt < (F 17).toInt ∧ 0 ≤ p1.toInt ∧ p1.toInt < (F 15).toInt) ∨ (0 : Int32).toInt = 0 from by have n9 := num_0; omega) dX6_isIn_35
      · refine lv_iconst (v := 1) hx hb dX6_isIn_30 (by decide) ?_
        refine lv_goto (tgt := 35) hx hb dX6_isIn_31 (by decide) ?_
        exact mr_rz (X := 1) E hr hlk hsz hM num_1 (by omega) (show ((1 : Int32).toInt = 1 ∧ 0 ≤ p0.toInt ∧ p0.toInt < (F 17).toInt ∧ 0 ≤ p1.toInt ∧ p1.toInt < (F 15).toInt) ∨ (1 : Int32).toInt = 0 from by have n9 := num_1; omega) dX6_isIn_35
def w3X6_can : List Cond := .code yX6_can cX6_can 5 (some .boolean) :: ([.fieldLink RX6 48 "SkiShotsModel" "rLaps" "[I", .constant RX6 209 (200000), .fieldLink RX6 51 "SkiShotsModel" "rShoots" "[I"] ++ wsX60)
set_option maxHeartbeats 4000000 in
set_option maxRecDepth 100000 in
theorem g3_X6_can (l : Launch) (D : va_G) (h0 : Nat) (q : Nat → Nat) (cq : Nat → ClassId) (F : Nat → Int32) (G : Nat → Nat → Int32) (sz : Nat) (p0 : Int32) (p1 : Int32) (p2 : Int32) (p3 : Int32) (hI : mI F G) (k0 : 0 ≤ p0.toInt ∧ p0.toInt < 8) : Met l yX6_can w3X6_can ({ frames := 0, cells := 0, slots := 0, locals := 0 }) (mPre D h0 q cq F G sz [.ref h0, .int p0, .int p1, .int p2, .int p3]) (mQi D h0 q cq F G sz [] [] (fun r F' G' => True)) 0 0 (va_A (mW h0 q cq F G) sz) := by
  refine mr_met (WF := []) (WG := []) (cc := cX6_can) (maxL := 5) (ret := (some .boolean)) (by decide) rfl rfl (by decide +kernel) (Nat.le_of_ble_eq_true rfl) hI ?_
  intro p e s m args below meth c ls E hml hr hlk hsz hA hM hl
  have hx := E.1
  have hb := E.2.1
  have hts := E.2.2.1
  have hown := E.2.2.2.2.1
  have hl : lv_has ls 5 [(0, .ref h0), (1, .int p0), (2, .int p1), (3, .int p2), (4, .int p3)] := hl
  refine lv_iload_n hx hb dX6_can_0 rfl (lv_at hl 2 rfl) ?_
  by_cases s_1 : p1.toInt = 0
  · refine lv_tableIn (tgt := 32) (off := 31) hx hb dX6_can_1 (by omega) (by omega) (by rw [s_1]; rfl) (by decide) ?_
    refine lv_iload_n hx hb dX6_can_32 rfl (lv_at hl 3 rfl) ?_
    refine lv_iconst (v := 1) hx hb dX6_can_33 (by decide) ?_
    refine mm_icmp_lt (X := p2.toInt) (Y := 1) (tgt := 64) hx hb dX6_can_34 (by decide) rfl num_1 (fun c_2 => ?_) (fun c_2 => ?_)
    · refine lv_iconst (v := 0) hx hb dX6_can_64 (by decide) ?_
      exact mr_rz (X := 0) E hr hlk hsz hM num_0 (by omega) trivial dX6_can_65
    · refine lv_iload_n hx hb dX6_can_37 rfl (lv_at hl 3 rfl) ?_
      refine lv_aload_n hx hb dX6_can_38 rfl (lv_at hl 0 rfl) ?_
      refine mr_get (v := .ref (q 19)) E hM 19 (by decide) (index := 48) (mm_at 1 rfl) rfl rfl dX6_can_39 ?_
      refine lv_iload_n hx hb dX6_can_42 rfl (lv_at hl 1 rfl) ?_
      refine mr_ald (X := p0.toInt) E hM 12 11 rfl rfl rfl (by omega) dX6_can_43 ?_
      refine mm_icmp_gt (X := p2.toInt) (Y := (G 19 (Int32.toNatClampNeg p0)).toInt) (tgt := 64) hx hb dX6_can_44 (by decide) rfl rfl (fun c_3 => ?_) (fun c_3 => ?_)
      · refine lv_iconst (v := 0) hx hb dX6_can_64 (by decide) ?_
        exact mr_rz (X := 0) E hr hlk hsz hM num_0 (by omega) trivial dX6_can_65
      · refine lv_iload hx hb dX6_can_47 (lv_at hl 4 rfl) ?_
        refine lv_iconst (v := (-1)) hx hb dX6_can_49 (by decide) ?_
        refine mm_icmp_lt (X := p3.toInt) (Y := (-1)) (tgt := 64) hx hb dX6_can_50 (by decide) rfl num_m1 (fun c_4 => ?_) (fun c_4 => ?_)
        · refine lv_iconst (v := 0) hx hb dX6_can_64 (by decide) ?_
          exact mr_rz (X := 0) E hr hlk hsz hM num_0 (by omega) trivial dX6_can_65
        · refine lv_iload hx hb dX6_can_53 (lv_at hl 4 rfl) ?_
          refine lv_ldc (v := 200000) hx hb hown (hts _ (mm_at 2 rfl)) dX6_can_55 ?_
          refine mm_icmp_gt (X := p3.toInt) (Y := 200000) (tgt := 64) hx hb dX6_can_57 (by decide) rfl num_200000 (fun c_5 => ?_) (fun c_5 => ?_)
          · refine lv_iconst (v := 0) hx hb dX6_can_64 (by decide) ?_
            exact mr_rz (X := 0) E hr hlk hsz hM num_0 (by omega) trivial dX6_can_65
          · refine lv_iconst (v := 1) hx hb dX6_can_60 (by decide) ?_
            refine lv_goto (tgt := 65) hx hb dX6_can_61 (by decide) ?_
            exact mr_rz (X := 1) E hr hlk hsz hM num_1 (by omega) trivial dX6_can_65
  by_cases s_6 : p1.toInt = 1
  · refine lv_tableIn (tgt := 66) (off := 65) hx hb dX6_can_1 (by omega) (by omega) (by rw [s_6]; rfl) (by decide) ?_
    refine lv_iload_n hx hb dX6_can_66 rfl (lv_at hl 3 rfl) ?_
    refine mm_if_lt (X := p2.toInt) (tgt := 97) hx hb dX6_can_67 (by decide) rfl (fun c_7 => ?_) (fun c_7 => ?_)
    · refine lv_iconst (v := 0) hx hb dX6_can_97 (by decide) ?_
      exact mr_rz (X := 0) E hr hlk hsz hM num_0 (by omega) trivial dX6_can_98
    · refine lv_iload_n hx hb dX6_can_70 rfl (lv_at hl 3 rfl) ?_
      refine lv_aload_n hx hb dX6_can_71 rfl (lv_at hl 0 rfl) ?_
      refine mr_get (v := .ref (q 20)) E hM 20 (by decide) (index := 51) (mm_at 3 rfl) rfl rfl dX6_can_72 ?_
      refine lv_iload_n hx hb dX6_can_75 rfl (lv_at hl 1 rfl) ?_
      refine mr_ald (X := p0.toInt) E hM 13 12 rfl rfl rfl (by omega) dX6_can_76 ?_
      have b_8 : 0 ≤ (G 20 (Int32.toNatClampNeg p0)).toInt ∧ (G 20 (Int32.toNatClampNeg p0)).toInt ≤ 4 := hM.ab 20 rfl _
      refine mm_icmp_ge (X := p2.toInt) (Y := (G 20 (Int32.toNatClampNeg p0)).toInt) (tgt := 97) hx hb dX6_can_77 (by decide) rfl rfl (fun c_9 => ?_) (fun c_9 => ?_)
      · refine lv_iconst (v := 0) hx hb dX6_can_97 (by decide) ?_
        exact mr_rz (X := 0) E hr hlk hsz hM num_0 (by omega) trivial dX6_can_98
      · refine lv_iload hx hb dX6_can_80 (lv_at hl 4 rfl) ?_
        refine lv_iconst (v := (-1)) hx hb dX6_can_82 (by decide) ?_
        refine mm_icmp_lt (X := p3.toInt) (Y := (-1)) (tgt := 97) hx hb dX6_can_83 (by decide) rfl num_m1 (fun c_10 => ?_) (fun c_10 => ?_)
        · refine lv_iconst (v := 0) hx hb dX6_can_97 (by decide) ?_
          exact mr_rz (X := 0) E hr hlk hsz hM num_0 (by omega) trivial dX6_can_98
        · refine lv_iload hx hb dX6_can_86 (lv_at hl 4 rfl) ?_
          refine lv_bipush (v := 31) hx hb dX6_can_88 (by decide) ?_
          refine mm_icmp_gt (X := p3.toInt) (Y := 31) (tgt := 97) hx hb dX6_can_90 (by decide) rfl num_31 (fun c_11 => ?_) (fun c_11 => ?_)
          · refine lv_iconst (v := 0) hx hb dX6_can_97 (by decide) ?_
            exact mr_rz (X := 0) E hr hlk hsz hM num_0 (by omega) trivial dX6_can_98
          · refine lv_iconst (v := 1) hx hb dX6_can_93 (by decide) ?_
            refine lv_goto (tgt := 98) hx hb dX6_can_94 (by decide) ?_
            exact mr_rz (X := 1) E hr hlk hsz hM num_1 (by omega) trivial dX6_can_98
  by_cases s_12 : p1.toInt = 2
  · refine lv_tableIn (tgt := 99) (off := 98) hx hb dX6_can_1 (by omega) (by omega) (by rw [s_12]; rfl) (by decide) ?_
    refine lv_iload_n hx hb dX6_can_99 rfl (lv_at hl 3 rfl) ?_
    refine mm_if_lt (X := p2.toInt) (tgt := 130) hx hb dX6_can_100 (by decide) rfl (fun c_13 => ?_) (fun c_13 => ?_)
    · refine lv_iconst (v := 0) hx hb dX6_can_130 (by decide) ?_
      exact mr_rz (X := 0) E hr hlk hsz hM num_0 (by omega) trivial dX6_can_131
    · refine lv_iload_n hx hb dX6_can_103 rfl (lv_at hl 3 rfl) ?_
      refine lv_aload_n hx hb dX6_can_104 rfl (lv_at hl 0 rfl) ?_
      refine mr_get (v := .ref (q 20)) E hM 20 (by decide) (index := 51) (mm_at 3 rfl) rfl rfl dX6_can_105 ?_
      refine lv_iload_n hx hb dX6_can_108 rfl (lv_at hl 1 rfl) ?_
      refine mr_ald (X := p0.toInt) E hM 13 12 rfl rfl rfl (by omega) dX6_can_109 ?_
      have b_14 : 0 ≤ (G 20 (Int32.toNatClampNeg p0)).toInt ∧ (G 20 (Int32.toNatClampNeg p0)).toInt ≤ 4 := hM.ab 20 rfl _
      refine mm_icmp_ge (X := p2.toInt) (Y := (G 20 (Int32.toNatClampNeg p0)).toInt) (tgt := 130) hx hb dX6_can_110 (by decide) rfl rfl (fun c_15 => ?_) (fun c_15 => ?_)
      · refine lv_iconst (v := 0) hx hb dX6_can_130 (by decide) ?_
        exact mr_rz (X := 0) E hr hlk hsz hM num_0 (by omega) trivial dX6_can_131
      · refine lv_iload hx hb dX6_can_113 (lv_at hl 4 rfl) ?_
        refine lv_iconst (v := (-1)) hx hb dX6_can_115 (by decide) ?_
        refine mm_icmp_lt (X := p3.toInt) (Y := (-1)) (tgt := 130) hx hb dX6_can_116 (by decide) rfl num_m1 (fun c_16 => ?_) (fun c_16 => ?_)
        · refine lv_iconst (v := 0) hx hb dX6_can_130 (by decide) ?_
          exact mr_rz (X := 0) E hr hlk hsz hM num_0 (by omega) trivial dX6_can_131
        · refine lv_iload hx hb dX6_can_119 (lv_at hl 4 rfl) ?_
          refine lv_bipush (v := 9) hx hb dX6_can_121 (by decide) ?_
          refine mm_icmp_gt (X := p3.toInt) (Y := 9) (tgt := 130) hx hb dX6_can_123 (by decide) rfl num_9 (fun c_17 => ?_) (fun c_17 => ?_)
          · refine lv_iconst (v := 0) hx hb dX6_can_130 (by decide) ?_
            exact mr_rz (X := 0) E hr hlk hsz hM num_0 (by omega) trivial dX6_can_131
          · refine lv_iconst (v := 1) hx hb dX6_can_126 (by decide) ?_
            refine lv_goto (tgt := 131) hx hb dX6_can_127 (by decide) ?_
            exact mr_rz (X := 1) E hr hlk hsz hM num_1 (by omega) trivial dX6_can_131
  by_cases s_18 : p1.toInt = 3
  · refine lv_tableIn (tgt := 132) (off := 131) hx hb dX6_can_1 (by omega) (by omega) (by rw [s_18]; rfl) (by decide) ?_
    refine lv_iload_n hx hb dX6_can_132 rfl (lv_at hl 3 rfl) ?_
    refine mm_if_ne (X := p2.toInt) (tgt := 152) hx hb dX6_can_133 (by decide) rfl (fun c_19 => ?_) (fun c_19 => ?_)
    · refine lv_iconst (v := 0) hx hb dX6_can_152 (by decide) ?_
      exact mr_rz (X := 0) E hr hlk hsz hM num_0 (by omega) trivial dX6_can_153
    · refine lv_iload hx hb dX6_can_136 (lv_at hl 4 rfl) ?_
      refine lv_iconst (v := (-1)) hx hb dX6_can_138 (by decide) ?_
      refine mm_icmp_lt (X := p3.toInt) (Y := (-1)) (tgt := 152) hx hb dX6_can_139 (by decide) rfl num_m1 (fun c_20 => ?_) (fun c_20 => ?_)
      · refine lv_iconst (v := 0) hx hb dX6_can_152 (by decide) ?_
        exact mr_rz (X := 0) E hr hlk hsz hM num_0 (by omega) trivial dX6_can_153
      · refine lv_iload hx hb dX6_can_142 (lv_at hl 4 rfl) ?_
        refine lv_iconst (v := 1) hx hb dX6_can_144 (by decide) ?_
        refine mm_icmp_gt (X := p3.toInt) (Y := 1) (tgt := 152) hx hb dX6_can_145 (by decide) rfl num_1 (fun c_21 => ?_) (fun c_21 => ?_)
        · refine lv_iconst (v := 0) hx hb dX6_can_152 (by decide) ?_
          exact mr_rz (X := 0) E hr hlk hsz hM num_0 (by omega) trivial dX6_can_153
        · refine lv_iconst (v := 1) hx hb dX6_can_148 (by decide) ?_
          refine lv_goto (tgt := 153) hx hb dX6_can_149 (by decide) ?_
          exact mr_rz (X := 1) E hr hlk hsz hM num_1 (by omega) trivial dX6_can_153
  · refine lv_tableOut (tgt := 154) hx hb dX6_can_1 (by omega) (by decide) ?_
    refine lv_iconst (v := 0) hx hb dX6_can_154 (by decide) ?_
    exact mr_rz (X := 0) E hr hlk hsz hM num_0 (by omega) trivial dX6_can_155
def w3X6_look : List Cond := .code yX6_look cX6_look 3 (some .int) :: ([.fieldLink RX6 126 "SkiShotsModel" "thrown" "I", .methodLink RX6 203 yX6_isRace, .instanceMethod yX6_isRace, .selects RX6 yX6_isRace yX6_isRace, .initialized RX6, .code yX6_isRace cX6_isRace 2 (some .boolean), .fieldLink RX6 200 "SkiShotsModel" "races" "I", .fieldLink RX6 45 "SkiShotsModel" "rName" "[I", .fieldLink RX6 48 "SkiShotsModel" "rLaps" "[I", .fieldLink RX6 51 "SkiShotsModel" "rShoots" "[I", .fieldLink RX6 54 "SkiShotsModel" "rSpares" "[I", .fieldLink RX6 69 "SkiShotsModel" "rBy" "[I", .fieldLink RX6 72 "SkiShotsModel" "rEntries" "[I", .fieldLink RX6 75 "SkiShotsModel" "rEvents" "[I", .methodLink RX6 220 yX6_fails, .instanceMethod yX6_fails, .selects RX6 yX6_fails yX6_fails, .code yX6_fails cX6_fails 2 (some .int)] ++ wsX60)
set_option maxRecDepth 20000 in
theorem gc_X6_look_X6_isRace_1 : GoodIn w3X6_look (wsV RX6 203 RX6 yX6_isRace w3X6_isRace) := goodIn_p _ [6] rfl (by decide +kernel)
set_option maxRecDepth 20000 in
theorem gc_X6_look_X6_fails_16 : GoodIn w3X6_look (wsV RX6 220 RX6 yX6_fails w3X6_fails) := goodIn_p _ [18] rfl (by decide +kernel)
set_option maxRecDepth 20000 in
theorem gc_X6_look_X6_fails_22 : GoodIn w3X6_look (wsV RX6 220 RX6 yX6_fails w3X6_fails) := goodIn_p _ [18] rfl (by decide +kernel)
set_option maxHeartbeats 4000000 in
set_option maxRecDepth 100000 in
theorem g3_X6_look (l : Launch) (D : va_G) (h0 : Nat) (q : Nat → Nat) (cq : Nat → ClassId) (F : Nat → Int32) (G : Nat → Nat → Int32) (sz : Nat) (p0 : Int32) (p1 : Int32) (hI : mI F G)  : Met l yX6_look w3X6_look ({ frames := 1, cells := 0, slots := 0, locals := 21 }) (mPre D h0 q cq F G sz [.ref h0, .int p0, .int p1]) (mQi D h0 q cq F G sz [2] [] (fun r F' G' => True)) 0 0 (va_A (mW h0 q cq F G) sz) := by
  refine mr_met (WF := [2]) (WG := []) (cc := cX6_look) (maxL := 3) (ret := (some .int)) (by decide) rfl rfl (by decide +kernel) (Nat.le_of_ble_eq_true rfl) hI ?_
  intro p e s m args below meth c ls E hml hr hlk hsz hA hM hl
  have hx := E.1
  have hb := E.2.1
  have hts := E.2.2.1
  have hown := E.2.2.2.2.1
  have hl : lv_has ls 3 [(0, .ref h0), (1, .int p0), (2, .int p1)] := hl
  refine lv_aload_n hx hb dX6_look_0 rfl (lv_at hl 0 rfl) ?_
  refine lv_iconst (v := 0) hx hb dX6_look_1 (by decide) ?_
  refine mr_put (v := 0) E hM 2 (by decide) (index := 126) (mm_at 1 rfl) rfl rfl (by decide +kernel) ms_2 (mm_nb rfl) (by decide) dX6_look_2 (fun H locs hM => ?_)
  refine lv_aload_n hx hb dX6_look_5 rfl (lv_at hl 0 rfl) ?_
  refine lv_iload_n hx hb dX6_look_6 rfl (lv_at hl 1 rfl) ?_
  have b_2 : 0 ≤ (F 17).toInt ∧ (F 17).toInt ≤ 8 := hM.fb 17 rfl
  refine mr_callp (av := [.int p0]) (rest := []) E hA hml hM (g3_X6_isRace l D h0 q cq (upd F 2 0) G _ p0 hM.2.2.2.1 ) (cwV 1 hts gc_X6_look_X6_isRace_1 rfl rfl rfl (by decide +kernel) ⟨Nat.le_of_ble_eq_true rfl, Nat.le_of_ble_eq_true rfl⟩) rfl hl.1 rfl (Nat.le_of_ble_eq_true rfl) dX6_look_7 ⟨Nat.le_of_ble_eq_true rfl, Nat.le_of_ble_eq_true rfl⟩ (fun r_3 H locs p_4 hM => ?_)
  replace p_4 : (r_3.toInt = 1 ∧ 0 ≤ p0.toInt ∧ p0.toInt < (F 17).toInt) ∨ (r_3.toInt = 0 ∧ ¬ (0 ≤ p0.toInt ∧ p0.toInt < (F 17).toInt)) := p_4
  refine mm_if_ne (X := r_3.toInt) (tgt := 19) hx hb dX6_look_10 (by decide) rfl (fun c_5 => ?_) (fun c_5 => ?_)
  · refine lv_iload_n hx hb dX6_look_19 rfl (lv_at hl 2 rfl) ?_
    by_cases s_6 : p1.toInt = 0
    · refine lv_tableIn (tgt := 64) (off := 44) hx hb dX6_look_20 (by omega) (by omega) (by rw [s_6]; rfl) (by decide) ?_
      refine lv_aload_n hx hb dX6_look_64 rfl (lv_at hl 0 rfl) ?_
      refine mr_get (v := .ref (q 18)) E hM 18 (by decide) (index := 45) (mm_at 8 rfl) rfl rfl dX6_look_65 ?_
      refine lv_iload_n hx hb dX6_look_68 rfl (lv_at hl 1 rfl) ?_
      refine mr_ald (X := p0.toInt) E hM 11 10 rfl rfl rfl (by omega) dX6_look_69 ?_
      exact mr_ri E hr hlk hsz hM trivial dX6_look_70
    by_cases s_7 : p1.toInt = 1
    · refine lv_tableIn (tgt := 71) (off := 51) hx hb dX6_look_20 (by omega) (by omega) (by rw [s_7]; rfl) (by decide) ?_
      refine lv_aload_n hx hb dX6_look_71 rfl (lv_at hl 0 rfl) ?_
      refine mr_get (v := .ref (q 19)) E hM 19 (by decide) (index := 48) (mm_at 9 rfl) rfl rfl dX6_look_72 ?_
      refine lv_iload_n hx hb dX6_look_75 rfl (lv_at hl 1 rfl) ?_
      refine mr_ald (X := p0.toInt) E hM 12 11 rfl rfl rfl (by omega) dX6_look_76 ?_
      exact mr_ri E hr hlk hsz hM trivial dX6_look_77
    by_cases s_8 : p1.toInt = 2
    · refine lv_tableIn (tgt := 78) (off := 58) hx hb dX6_look_20 (by omega) (by omega) (by rw [s_8]; rfl) (by decide) ?_
      refine lv_aload_n hx hb dX6_look_78 rfl (lv_at hl 0 rfl) ?_
      refine mr_get (v := .ref (q 20)) E hM 20 (by decide) (index := 51) (mm_at 10 rfl) rfl rfl dX6_look_79 ?_
      refine lv_iload_n hx hb dX6_look_82 rfl (lv_at hl 1 rfl) ?_
      refine mr_ald (X := p0.toInt) E hM 13 12 rfl rfl rfl (by omega) dX6_look_83 ?_
      have b_9 : 0 ≤ (G 20 (Int32.toNatClampNeg p0)).toInt ∧ (G 20 (Int32.toNatClampNeg p0)).toInt ≤ 4 := hM.ab 20 rfl _
      exact mr_ri E hr hlk hsz hM trivial dX6_look_84
    by_cases s_10 : p1.toInt = 3
    · refine lv_tableIn (tgt := 85) (off := 65) hx hb dX6_look_20 (by omega) (by omega) (by rw [s_10]; rfl) (by decide) ?_
      refine lv_aload_n hx hb dX6_look_85 rfl (lv_at hl 0 rfl) ?_
      refine mr_get (v := .ref (q 21)) E hM 21 (by decide) (index := 54) (mm_at 11 rfl) rfl rfl dX6_look_86 ?_
      refine lv_iload_n hx hb dX6_look_89 rfl (lv_at hl 1 rfl) ?_
      refine mr_ald (X := p0.toInt) E hM 14 13 rfl rfl rfl (by omega) dX6_look_90 ?_
      exact mr_ri E hr hlk hsz hM trivial dX6_look_91
    by_cases s_11 : p1.toInt = 4
    · refine lv_tableIn (tgt := 92) (off := 72) hx hb dX6_look_20 (by omega) (by omega) (by rw [s_11]; rfl) (by decide) ?_
      refine lv_aload_n hx hb dX6_look_92 rfl (lv_at hl 0 rfl) ?_
      refine mr_get (v := .ref (q 26)) E hM 26 (by decide) (index := 69) (mm_at 12 rfl) rfl rfl dX6_look_93 ?_
      refine lv_iload_n hx hb dX6_look_96 rfl (lv_at hl 1 rfl) ?_
      refine mr_ald (X := p0.toInt) E hM 19 18 rfl rfl rfl (by omega) dX6_look_97 ?_
      have b_12 : -1 ≤ (G 26 (Int32.toNatClampNeg p0)).toInt ∧ (G 26 (Int32.toNatClampNeg p0)).toInt ≤ 7 := hM.ab 26 rfl _
      exact mr_ri E hr hlk hsz hM trivial dX6_look_98
    by_cases s_13 : p1.toInt = 5
    · refine lv_tableIn (tgt := 99) (off := 79) hx hb dX6_look_20 (by omega) (by omega) (by rw [s_13]; rfl) (by decide) ?_
      refine lv_aload_n hx hb dX6_look_99 rfl (lv_at hl 0 rfl) ?_
      refine mr_get (v := .ref (q 27)) E hM 27 (by decide) (index := 72) (mm_at 13 rfl) rfl rfl dX6_look_100 ?_
      refine lv_iload_n hx hb dX6_look_103 rfl (lv_at hl 1 rfl) ?_
      refine mr_ald (X := p0.toInt) E hM 20 19 rfl rfl rfl (by omega) dX6_look_104 ?_
      have b_14 : 0 ≤ (G 27 (Int32.toNatClampNeg p0)).toInt ∧ (G 27 (Int32.toNatClampNeg p0)).toInt ≤ 16 := hM.ab 27 rfl _
      exact mr_ri E hr hlk hsz hM trivial dX6_look_105
    by_cases s_15 : p1.toInt = 6
    · refine lv_tableIn (tgt := 106) (off := 86) hx hb dX6_look_20 (by omega) (by omega) (by rw [s_15]; rfl) (by decide) ?_
      refine lv_aload_n hx hb dX6_look_106 rfl (lv_at hl 0 rfl) ?_
      refine mr_get (v := .ref (q 28)) E hM 28 (by decide) (index := 75) (mm_at 14 rfl) rfl rfl dX6_look_107 ?_
      refine lv_iload_n hx hb dX6_look_110 rfl (lv_at hl 1 rfl) ?_
      refine mr_ald (X := p0.toInt) E hM 21 20 rfl rfl rfl (by omega) dX6_look_111 ?_
      exact mr_ri E hr hlk hsz hM trivial dX6_look_112
    · refine lv_tableOut (tgt := 113) hx hb dX6_look_20 (by omega) (by decide) ?_
      refine lv_aload_n hx hb dX6_look_113 rfl (lv_at hl 0 rfl) ?_
      refine lv_iconst (v := 2) hx hb dX6_look_114 (by decide) ?_
      refine mr_calli (av := [.int 2]) (rest := []) E hA hml hM (g3_X6_fails l D h0 q cq (upd F 2 0) G _ 2 hM.2.2.2.1 ) (cwV 1 hts gc_X6_look_X6_fails_16 rfl rfl rfl (by decide +kernel) ⟨Nat.le_of_ble_eq_true rfl, Nat.le_of_ble_eq_true rfl⟩) rfl hl.1 rfl (Nat.le_of_ble_eq_true rfl) dX6_look_115 ⟨Nat.le_of_ble_eq_true rfl, Nat.le_of_ble_eq_true rfl⟩ (by decide) (by decide) (fun r_17 F_19 G_20 H locs fr_21 p_18 hM => ?_)
      exact mr_ri E hr hlk hsz hM trivial dX6_look_118
  · refine lv_aload_n hx hb dX6_look_13 rfl (lv_at hl 0 rfl) ?_
    refine lv_iconst (v := 1) hx hb dX6_look_14 (by decide) ?_
    refine mr_calli (av := [.int 1]) (rest := []) E hA hml hM (g3_X6_fails l D h0 q cq (upd F 2 0) G _ 1 hM.2.2.2.1 ) (cwV 1 hts gc_X6_look_X6_fails_22 rfl rfl rfl (by decide +kernel) ⟨Nat.le_of_ble_eq_true rfl, Nat.le_of_ble_eq_true rfl⟩) rfl hl.1 rfl (Nat.le_of_ble_eq_true rfl) dX6_look_15 ⟨Nat.le_of_ble_eq_true rfl, Nat.le_of_ble_eq_true rfl⟩ (by decide) (by decide) (fun r_23 F_25 G_26 H locs fr_27 p_24 hM => ?_)
    exact mr_ri E hr hlk hsz hM trivial dX6_look_18
def w3X6_entry : List Cond := .code yX6_entry cX6_entry 3 (some .int) :: ([.fieldLink RX6 126 "SkiShotsModel" "thrown" "I", .methodLink RX6 203 yX6_isRace, .instanceMethod yX6_isRace, .selects RX6 yX6_isRace yX6_isRace, .initialized RX6, .code yX6_isRace cX6_isRace 2 (some .boolean), .fieldLink RX6 200 "SkiShotsModel" "races" "I", .fieldLink RX6 72 "SkiShotsModel" "rEntries" "[I", .fieldLink RX6 78 "SkiShotsModel" "entries" "[I"] ++ wsX60)
set_option maxRecDepth 20000 in
theorem gc_X6_entry_X6_isRace_1 : GoodIn w3X6_entry (wsV RX6 203 RX6 yX6_isRace w3X6_isRace) := goodIn_p _ [6] rfl (by decide +kernel)
set_option maxHeartbeats 4000000 in
set_option maxRecDepth 100000 in
theorem g3_X6_entry (l : Launch) (D : va_G) (h0 : Nat) (q : Nat → Nat) (cq : Nat → ClassId) (F : Nat → Int32) (G : Nat → Nat → Int32) (sz : Nat) (p0 : Int32) (p1 : Int32) (hI : mI F G)  : Met l yX6_entry w3X6_entry ({ frames := 1, cells := 0, slots := 0, locals := 21 }) (mPre D h0 q cq F G sz [.ref h0, .int p0, .int p1]) (mQi D h0 q cq F G sz [2] [] (fun r F' G' => True)) 0 0 (va_A (mW h0 q cq F G) sz) := by
  refine mr_met (WF := [2]) (WG := []) (cc := cX6_entry) (maxL := 3) (ret := (some .int)) (by decide) rfl rfl (by decide +kernel) (Nat.le_of_ble_eq_true rfl) hI ?_
  intro p e s m args below meth c ls E hml hr hlk hsz hA hM hl
  have hx := E.1
  have hb := E.2.1
  have hts := E.2.2.1
  have hown := E.2.2.2.2.1
  have hl : lv_has ls 3 [(0, .ref h0), (1, .int p0), (2, .int p1)] := hl
  refine lv_aload_n hx hb dX6_entry_0 rfl (lv_at hl 0 rfl) ?_
  refine lv_iconst (v := 0) hx hb dX6_entry_1 (by decide) ?_
  refine mr_put (v := 0) E hM 2 (by decide) (index := 126) (mm_at 1 rfl) rfl rfl (by decide +kernel) ms_2 (mm_nb rfl) (by decide) dX6_entry_2 (fun H locs hM => ?_)
  refine lv_aload_n hx hb dX6_entry_5 rfl (lv_at hl 0 rfl) ?_
  refine lv_iload_n hx hb dX6_entry_6 rfl (lv_at hl 1 rfl) ?_
  have b_2 : 0 ≤ (F 17).toInt ∧ (F 17).toInt ≤ 8 := hM.fb 17 rfl
  refine mr_callp (av := [.int p0]) (rest := []) E hA hml hM (g3_X6_isRace l D h0 q cq (upd F 2 0) G _ p0 hM.2.2.2.1 ) (cwV 1 hts gc_X6_entry_X6_isRace_1 rfl rfl rfl (by decide +kernel) ⟨Nat.le_of_ble_eq_true rfl, Nat.le_of_ble_eq_true rfl⟩) rfl hl.1 rfl (Nat.le_of_ble_eq_true rfl) dX6_entry_7 ⟨Nat.le_of_ble_eq_true rfl, Nat.le_of_ble_eq_true rfl⟩ (fun r_3 H locs p_4 hM => ?_)
  replace p_4 : (r_3.toInt = 1 ∧ 0 ≤ p0.toInt ∧ p0.toInt < (F 17).toInt) ∨ (r_3.toInt = 0 ∧ ¬ (0 ≤ p0.toInt ∧ p0.toInt < (F 17).toInt)) := p_4
  refine mm_if_eq (X := r_3.toInt) (tgt := 27) hx hb dX6_entry_10 (by decide) rfl (fun c_5 => ?_) (fun c_5 => ?_)
  · refine lv_iconst (v := (-1)) hx hb dX6_entry_27 (by decide) ?_
    refine lv_goto (tgt := 42) hx hb dX6_entry_28 (by decide) ?_
    exact mr_ri E hr hlk hsz hM trivial dX6_entry_42
  · refine lv_iload_n hx hb dX6_entry_13 rfl (lv_at hl 2 rfl) ?_
    refine mm_if_lt (X := p1.toInt) (tgt := 27) hx hb dX6_entry_14 (by decide) rfl (fun c_6 => ?_) (fun c_6 => ?_)
    · refine lv_iconst (v := (-1)) hx hb dX6_entry_27 (by decide) ?_
      refine lv_goto (tgt := 42) hx hb dX6_entry_28 (by decide) ?_
      exact mr_ri E hr hlk hsz hM trivial dX6_entry_42
    · refine lv_iload_n hx hb dX6_entry_17 rfl (lv_at hl 2 rfl) ?_
      refine lv_aload_n hx hb dX6_entry_18 rfl (lv_at hl 0 rfl) ?_
      refine mr_get (v := .ref (q 27)) E hM 27 (by decide) (index := 72) (mm_at 8 rfl) rfl rfl dX6_entry_19 ?_
      refine lv_iload_n hx hb dX6_entry_22 rfl (lv_at hl 1 rfl) ?_
      refine mr_ald (X := p0.toInt) E hM 20 19 rfl rfl rfl (by omega) dX6_entry_23 ?_
      have b_7 : 0 ≤ (G 27 (Int32.toNatClampNeg p0)).toInt ∧ (G 27 (Int32.toNatClampNeg p0)).toInt ≤ 16 := hM.ab 27 rfl _
      refine mm_icmp_lt (X := p1.toInt) (Y := (G 27 (Int32.toNatClampNeg p0)).toInt) (tgt := 31) hx hb dX6_entry_24 (by decide) rfl rfl (fun c_8 => ?_) (fun c_8 => ?_)
      · refine lv_aload_n hx hb dX6_entry_31 rfl (lv_at hl 0 rfl) ?_
        refine mr_get (v := .ref (q 29)) E hM 29 (by decide) (index := 78) (mm_at 9 rfl) rfl rfl dX6_entry_32 ?_
        refine lv_bipush (v := 16) hx hb dX6_entry_35 (by decide) ?_
        refine lv_iload_n hx hb dX6_entry_37 rfl (lv_at hl 1 rfl) ?_
        refine mm_imul (X := 16) (Y := p0.toInt) hx hb dX6_entry_38 num_16 rfl (by omega) (fun z_9 hz_9 => ?_)
        refine lv_iload_n hx hb dX6_entry_39 rfl (lv_at hl 2 rfl) ?_
        refine mm_iadd (X := z_9.toInt) (Y := p1.toInt) hx hb dX6_entry_40 rfl rfl (by omega) (fun z_10 hz_10 => ?_)
        refine mr_ald (X := z_10.toInt) E hM 22 21 rfl rfl rfl (by omega) dX6_entry_41 ?_
        have b_11 : 0 ≤ (G 29 (Int32.toNatClampNeg z_10)).toInt ∧ (G 29 (Int32.toNatClampNeg z_10)).toInt ≤ 15 := hM.ab 29 rfl _
        exact mr_ri E hr hlk hsz hM trivial dX6_entry_42
      · refine lv_iconst (v := (-1)) hx hb dX6_entry_27 (by decide) ?_
        refine lv_goto (tgt := 42) hx hb dX6_entry_28 (by decide) ?_
        exact mr_ri E hr hlk hsz hM trivial dX6_entry_42
def w3X6_tell : List Cond := .code yX6_tell cX6_tell 6 (some .int) :: ([.fieldLink RX6 126 "SkiShotsModel" "thrown" "I", .methodLink RX6 210 yX6_isIn, .instanceMethod yX6_isIn, .selects RX6 yX6_isIn yX6_isIn, .initialized RX6, .code yX6_isIn cX6_isIn 3 (some .boolean), .methodLink RX6 203 yX6_isRace, .instanceMethod yX6_isRace, .selects RX6 yX6_isRace yX6_isRace, .code yX6_isRace cX6_isRace 2 (some .boolean), .fieldLink RX6 200 "SkiShotsModel" "races" "I", .methodLink RX6 206 yX6_isRacer, .instanceMethod yX6_isRacer, .selects RX6 yX6_isRacer yX6_isRacer, .code yX6_isRacer cX6_isRacer 2 (some .boolean), .fieldLink RX6 197 "SkiShotsModel" "racers" "I", .fieldLink RX6 81 "SkiShotsModel" "entryOf" "[I", .methodLink RX6 213 yX6_can, .instanceMethod yX6_can, .selects RX6 yX6_can yX6_can, .code yX6_can cX6_can 5 (some .boolean), .fieldLink RX6 48 "SkiShotsModel" "rLaps" "[I", .constant RX6 209 (200000), .fieldLink RX6 51 "SkiShotsModel" "rShoots" "[I", .fieldLink RX6 217 "SkiShotsModel" "told" "I", .fieldLink RX6 84 "SkiShotsModel" "tRace" "[I", .fieldLink RX6 87 "SkiShotsModel" "tRacer" "[I", .fieldLink RX6 90 "SkiShotsModel" "tSort" "[I", .fieldLink RX6 93 "SkiShotsModel" "tK" "[I", .fieldLink RX6 96 "SkiShotsModel" "tV" "[I", .fieldLink RX6 99 "SkiShotsModel" "tDay" "[I", .fieldLink RX6 194 "SkiShotsModel" "today" "I", .fieldLink RX6 75 "SkiShotsModel" "rEvents" "[I"] ++ wsX60)
set_option maxRecDepth 20000 in
theorem gc_X6_tell_X6_isIn_1 : GoodIn w3X6_tell (wsV RX6 210 RX6 yX6_isIn w3X6_isIn) := goodIn_p _ [6, 10, 15] rfl (by decide +kernel)
set_option maxRecDepth 20000 in
theorem gc_X6_tell_X6_can_7 : GoodIn w3X6_tell (wsV RX6 213 RX6 yX6_can w3X6_can) := goodIn_p _ [21] rfl (by decide +kernel)
set_option maxHeartbeats 4000000 in
set_option maxRecDepth 100000 in
theorem g3_X6_tell (l : Launch) (D : va_G) (h0 : Nat) (q : Nat → Nat) (cq : Nat → ClassId) (F : Nat → Int32) (G : Nat → Nat → Int32) (sz : Nat) (p0 : Int32) (p1 : Int32) (p2 : Int32) (p3 : Int32) (p4 : Int32) (hI : mI F G)  : Met l yX6_tell w3X6_tell ({ frames := 2, cells := 0, slots := 0, locals := 43 }) (mPre D h0 q cq F G sz [.ref h0, .int p0, .int p1, .int p2, .int p3, .int p4]) (mQi D h0 q cq F G sz [2, 31] [28, 32, 33, 34, 35, 36, 37] (fun r F' G' => True)) 0 0 (va_A (mW h0 q cq F G) sz) := by
  refine mr_met (WF := [2, 31]) (WG := [28, 32, 33, 34, 35, 36, 37]) (cc := cX6_tell) (maxL := 6) (ret := (some .int)) (by decide) rfl rfl (by decide +kernel) (Nat.le_of_ble_eq_true rfl) hI ?_
  intro p e s m args below meth c ls E hml hr hlk hsz hA hM hl
  have hx := E.1
  have hb := E.2.1
  have hts := E.2.2.1
  have hown := E.2.2.2.2.1
  have hl : lv_has ls 6 [(0, .ref h0), (1, .int p0), (2, .int p1), (3, .int p2), (4, .int p3), (5, .int p4)] := hl
  refine lv_aload_n hx hb dX6_tell_0 rfl (lv_at hl 0 rfl) ?_
  refine lv_iconst (v := 0) hx hb dX6_tell_1 (by decide) ?_
  refine mr_put (v := 0) E hM 2 (by decide) (index := 126) (mm_at 1 rfl) rfl rfl (by decide +kernel) ms_2 (mm_nb rfl) (by decide) dX6_tell_2 (fun H locs hM => ?_)
  refine lv_aload_n hx hb dX6_tell_5 rfl (lv_at hl 0 rfl) ?_
  refine lv_iload_n hx hb dX6_tell_6 rfl (lv_at hl 1 rfl) ?_
  refine lv_iload_n hx hb dX6_tell_7 rfl (lv_at hl 2 rfl) ?_
  have b_2 : 0 ≤ (F 17).toInt ∧ (F 17).toInt ≤ 8 := hM.fb 17 rfl
  have b_3 : 0 ≤ (F 15).toInt ∧ (F 15).toInt ≤ 16 := hM.fb 15 rfl
  refine mr_callp (av := [.int p0, .int p1]) (rest := []) E hA hml hM (g3_X6_isIn l D h0 q cq (upd F 2 0) G _ p0 p1 hM.2.2.2.1 ) (cwV 2 hts gc_X6_tell_X6_isIn_1 rfl rfl rfl (by decide +kernel) ⟨Nat.le_of_ble_eq_true rfl, Nat.le_of_ble_eq_true rfl⟩) rfl hl.1 rfl (Nat.le_of_ble_eq_true rfl) dX6_tell_8 ⟨Nat.le_of_ble_eq_true rfl, Nat.le_of_ble_eq_true rfl⟩ (fun r_4 H locs p_5 hM => ?_)
  replace p_5 : (r_4.toInt = 1 ∧ 0 ≤ p0.toInt ∧ p0.toInt < (F 17).toInt ∧ 0 ≤ p1.toInt ∧ p1.toInt < (F 15).toInt) ∨ r_4.toInt = 0 := p_5
  refine mm_if_eq (X := r_4.toInt) (tgt := 37) hx hb dX6_tell_11 (by decide) rfl (fun c_6 => ?_) (fun c_6 => ?_)
  · refine lv_iconst (v := (-1)) hx hb dX6_tell_37 (by decide) ?_
    exact mr_ri E hr hlk hsz hM trivial dX6_tell_38
  · refine lv_aload_n hx hb dX6_tell_14 rfl (lv_at hl 0 rfl) ?_
    refine lv_iload_n hx hb dX6_tell_15 rfl (lv_at hl 1 rfl) ?_
    refine lv_iload_n hx hb dX6_tell_16 rfl (lv_at hl 3 rfl) ?_
    refine lv_iload hx hb dX6_tell_17 (lv_at hl 4 rfl) ?_
    refine lv_iload hx hb dX6_tell_19 (lv_at hl 5 rfl) ?_
    refine mr_callp (av := [.int p0, .int p2, .int p3, .int p4]) (rest := []) E hA hml hM (g3_X6_can l D h0 q cq (upd F 2 0) G _ p0 p2 p3 p4 hM.2.2.2.1 (show 0 ≤ p0.toInt ∧ p0.toInt < 8 from by have n9_0 := num_0; omega)) (cwV 4 hts gc_X6_tell_X6_can_7 rfl rfl rfl (by decide +kernel) ⟨Nat.le_of_ble_eq_true rfl, Nat.le_of_ble_eq_true rfl⟩) rfl hl.1 rfl (Nat.le_of_ble_eq_true rfl) dX6_tell_21 ⟨Nat.le_of_ble_eq_true rfl, Nat.le_of_ble_eq_true rfl⟩ (fun r_8 H locs p_9 hM => ?_)
    refine mm_if_eq (X := r_8.toInt) (tgt := 37) hx hb dX6_tell_24 (by decide) rfl (fun c_10 => ?_) (fun c_10 => ?_)
    · refine lv_iconst (v := (-1)) hx hb dX6_tell_37 (by decide) ?_
      exact mr_ri E hr hlk hsz hM trivial dX6_tell_38
    · refine lv_aload_n hx hb dX6_tell_27 rfl (lv_at hl 0 rfl) ?_
      have b_11 : 0 ≤ (F 31).toInt ∧ (F 31).toInt ≤ 400 := hM.fb 31 rfl
      refine mr_get (v := .int (F 31)) E hM 31 (by decide) (index := 217) (mm_at 25 rfl) rfl rfl dX6_tell_28 ?_
      refine lv_sipush (v := 400) hx hb dX6_tell_31 (by decide) ?_
      refine mm_icmp_ne (X := (F 31).toInt) (Y := 400) (tgt := 39) hx hb dX6_tell_34 (by decide) rfl num_400 (fun c_12 => ?_) (fun c_12 => ?_)
      · refine lv_aload_n hx hb dX6_tell_39 rfl (lv_at hl 0 rfl) ?_
        refine mr_get (v := .ref (q 32)) E hM 32 (by decide) (index := 84) (mm_at 26 rfl) rfl rfl dX6_tell_40 ?_
        refine lv_aload_n hx hb dX6_tell_43 rfl (lv_at hl 0 rfl) ?_
        refine mr_get (v := .int (F 31)) E hM 31 (by decide) (index := 217) (mm_at 25 rfl) rfl rfl dX6_tell_44 ?_
        refine lv_iload_n hx hb dX6_tell_47 rfl (lv_at hl 1 rfl) ?_
        refine mr_ast (X := (F 31).toInt) E hM 32 24 23 rfl rfl rfl (by omega) mg_32 (by decide) (mm_nbA rfl) (by decide) dX6_tell_48 (fun H locs G_13 eG_13 hM => ?_)
        refine lv_aload_n hx hb dX6_tell_49 rfl (lv_at hl 0 rfl) ?_
        refine mr_get (v := .ref (q 33)) E hM 33 (by decide) (index := 87) (mm_at 27 rfl) rfl rfl dX6_tell_50 ?_
        refine lv_aload_n hx hb dX6_tell_53 rfl (lv_at hl 0 rfl) ?_
        refine mr_get (v := .int (F 31)) E hM 31 (by decide) (index := 217) (mm_at 25 rfl) rfl rfl dX6_tell_54 ?_
        refine lv_iload_n hx hb dX6_tell_57 rfl (lv_at hl 2 rfl) ?_
        refine mr_ast (X := (F 31).toInt) E hM 33 25 24 rfl rfl rfl (by omega) mg_33 (by decide) (mm_nbA rfl) (by decide) dX6_tell_58 (fun H locs G_14 eG_14 hM => ?_)
        refine lv_aload_n hx hb dX6_tell_59 rfl (lv_at hl 0 rfl) ?_
        refine mr_get (v := .ref (q 34)) E hM 34 (by decide) (index := 90) (mm_at 28 rfl) rfl rfl dX6_tell_60 ?_
        refine lv_aload_n hx hb dX6_tell_63 rfl (lv_at hl 0 rfl) ?_
        refine mr_get (v := .int (F 31)) E hM 31 (by decide) (index := 217) (mm_at 25 rfl) rfl rfl dX6_tell_64 ?_
        refine lv_iload_n hx hb dX6_tell_67 rfl (lv_at hl 3 rfl) ?_
        refine mr_ast (X := (F 31).toInt) E hM 34 26 25 rfl rfl rfl (by omega) mg_34 (by decide) (mm_nbA rfl) (by decide) dX6_tell_68 (fun H locs G_15 eG_15 hM => ?_)
        refine lv_aload_n hx hb dX6_tell_69 rfl (lv_at hl 0 rfl) ?_
        refine mr_get (v := .ref (q 35)) E hM 35 (by decide) (index := 93) (mm_at 29 rfl) rfl rfl dX6_tell_70 ?_
        refine lv_aload_n hx hb dX6_tell_73 rfl (lv_at hl 0 rfl) ?_
        refine mr_get (v := .int (F 31)) E hM 31 (by decide) (index := 217) (mm_at 25 rfl) rfl rfl dX6_tell_74 ?_
        refine lv_iload hx hb dX6_tell_77 (lv_at hl 4 rfl) ?_
        refine mr_ast (X := (F 31).toInt) E hM 35 27 26 rfl rfl rfl (by omega) mg_35 (by decide) (mm_nbA rfl) (by decide) dX6_tell_79 (fun H locs G_16 eG_16 hM => ?_)
        refine lv_aload_n hx hb dX6_tell_80 rfl (lv_at hl 0 rfl) ?_
        refine mr_get (v := .ref (q 36)) E hM 36 (by decide) (index := 96) (mm_at 30 rfl) rfl rfl dX6_tell_81 ?_
        refine lv_aload_n hx hb dX6_tell_84 rfl (lv_at hl 0 rfl) ?_
        refine mr_get (v := .int (F 31)) E hM 31 (by decide) (index := 217) (mm_at 25 rfl) rfl rfl dX6_tell_85 ?_
        refine lv_iload hx hb dX6_tell_88 (lv_at hl 5 rfl) ?_
        refine mr_ast (X := (F 31).toInt) E hM 36 28 27 rfl rfl rfl (by omega) mg_36 (by decide) (mm_nbA rfl) (by decide) dX6_tell_90 (fun H locs G_17 eG_17 hM => ?_)
        refine lv_aload_n hx hb dX6_tell_91 rfl (lv_at hl 0 rfl) ?_
        refine mr_get (v := .ref (q 37)) E hM 37 (by decide) (index := 99) (mm_at 31 rfl) rfl rfl dX6_tell_92 ?_
        refine lv_aload_n hx hb dX6_tell_95 rfl (lv_at hl 0 rfl) ?_
        refine mr_get (v := .int (F 31)) E hM 31 (by decide) (index := 217) (mm_at 25 rfl) rfl rfl dX6_tell_96 ?_
        refine lv_aload_n hx hb dX6_tell_99 rfl (lv_at hl 0 rfl) ?_
        have b_18 : 0 ≤ (F 3).toInt ∧ (F 3).toInt ≤ 200 := hM.fb 3 rfl
        refine mr_get (v := .int (F 3)) E hM 3 (by decide) (index := 194) (mm_at 32 rfl) rfl rfl dX6_tell_100 ?_
        refine mr_ast (X := (F 31).toInt) E hM 37 29 28 rfl rfl rfl (by omega) mg_37 (by decide) (mm_nbA rfl) (by decide) dX6_tell_103 (fun H locs G_19 eG_19 hM => ?_)
        refine lv_aload_n hx hb dX6_tell_104 rfl (lv_at hl 0 rfl) ?_
        refine lv_dup hx hb dX6_tell_105 rfl ?_
        refine mr_get (v := .int (F 31)) E hM 31 (by decide) (index := 217) (mm_at 25 rfl) rfl rfl dX6_tell_106 ?_
        refine lv_iconst (v := 1) hx hb dX6_tell_109 (by decide) ?_
        refine mm_iadd (X := (F 31).toInt) (Y := 1) hx hb dX6_tell_110 rfl num_1 (by omega) (fun z_20 hz_20 => ?_)
        refine mr_put (v := z_20) E hM 31 (by decide) (index := 217) (mm_at 25 rfl) rfl rfl (by decide +kernel) ms_31 (mm_bd (X := z_20.toInt) (a := 0) (b := 400) rfl rfl (by omega)) (by decide) dX6_tell_111 (fun H locs hM => ?_)
        refine lv_aload_n hx hb dX6_tell_114 rfl (lv_at hl 0 rfl) ?_
        refine mr_get (v := .ref (q 28)) E hM 28 (by decide) (index := 75) (mm_at 33 rfl) rfl rfl dX6_tell_115 ?_
        refine lv_iload_n hx hb dX6_tell_118 rfl (lv_at hl 1 rfl) ?_
        refine lv_dup2_11 hx hb dX6_tell_119 rfl rfl ?_
        refine mr_ald (X := p0.toInt) E hM 21 20 rfl rfl rfl (by omega) dX6_tell_120 ?_
        refine lv_iconst (v := 1) hx hb dX6_tell_121 (by decide) ?_
        refine mm_iaddU hx hb dX6_tell_122 (fun z_21 => ?_)
        refine mr_ast (X := p0.toInt) E hM 28 21 20 rfl rfl rfl (by omega) mg_28 (by decide) (mm_nbA rfl) (by decide) dX6_tell_123 (fun H locs G_22 eG_22 hM => ?_)
        refine lv_aload_n hx hb dX6_tell_124 rfl (lv_at hl 0 rfl) ?_
        refine mr_get (v := .int z_20) E hM 31 (by decide) (index := 217) (mm_at 25 rfl) rfl rfl dX6_tell_125 ?_
        exact mr_ri E hr hlk hsz hM trivial dX6_tell_128
      · refine lv_iconst (v := (-1)) hx hb dX6_tell_37 (by decide) ?_
        exact mr_ri E hr hlk hsz hM trivial dX6_tell_38
