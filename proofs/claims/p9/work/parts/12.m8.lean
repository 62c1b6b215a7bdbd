theorem mJ.tt {G X Y : Nat → Nat → Int32} (h : mJ G X) (h2 : mJ X Y) : mJ G Y := fun j hj => ⟨(h2 j hj).1.trans (h j hj).1, (h2 j hj).2.trans (h j hj).2⟩
theorem num_6 : (6 : Int32).toInt = 6 := by decide
theorem num_600 : (600 : Int32).toInt = 600 := by decide
theorem num_3600 : (3600 : Int32).toInt = 3600 := by decide
def w3X6_starts : List Cond := .code yX6_starts cX6_starts 3 (some .boolean) :: ([.fieldLink RX6 32 "SkiShotsModel" "startHow" "[I", .fieldLink RX6 155 "SkiShotsModel" "which" "I", .fieldLink RX6 35 "SkiShotsModel" "startNumber" "[I", .methodLink RX6 166 yX6_take, .instanceMethod yX6_take, .selects RX6 yX6_take yX6_take, .initialized RX6, .code yX6_take cX6_take 1 none, .fieldLink RX6 138 "SkiShotsModel" "next" "I", .methodLink RX6 158 yX6_isDigit, .instanceMethod yX6_isDigit, .selects RX6 yX6_isDigit yX6_isDigit, .code yX6_isDigit cX6_isDigit 2 (some .boolean), .fieldLink RX6 135 "SkiShotsModel" "size" "I", .fieldLink RX6 7 "SkiShotsModel" "tape" "[I", .constant RX6 161 (99999), .methodLink RX6 147 yX6_isSmall, .instanceMethod yX6_isSmall, .selects RX6 yX6_isSmall yX6_isSmall, .code yX6_isSmall cX6_isSmall 2 (some .boolean), .fieldLink RX6 141 "SkiShotsModel" "place" "I", .methodLink RX6 151 yX6_wordAt, .instanceMethod yX6_wordAt, .selects RX6 yX6_wordAt yX6_wordAt, .code yX6_wordAt cX6_wordAt 8 (some .int), .fieldLink RX6 102 "SkiShotsModel" "words" "[I", .fieldLink RX6 144 "SkiShotsModel" "kind" "I", .methodLink RX6 172 yX6_number, .instanceMethod yX6_number, .selects RX6 yX6_number yX6_number, .code yX6_number cX6_number 3 (some .boolean), .methodLink RX6 162 yX6_wrong, .instanceMethod yX6_wrong, .selects RX6 yX6_wrong yX6_wrong, .code yX6_wrong cX6_wrong 3 (some .boolean), .fieldLink RX6 132 "SkiShotsModel" "fault" "I", .fieldLink RX6 38 "SkiShotsModel" "faultPlace" "I", .fieldLink RX6 169 "SkiShotsModel" "read" "I"] ++ wsX60)
set_option maxRecDepth 20000 in
theorem gc_X6_starts_X6_take_4 : GoodIn w3X6_starts (wsV RX6 166 RX6 yX6_take w3X6_take) := goodIn_p _ [8, 13, 20, 25] rfl (by decide +kernel)
set_option maxRecDepth 20000 in
theorem gc_X6_starts_X6_number_16 : GoodIn w3X6_starts (wsV RX6 172 RX6 yX6_number w3X6_number) := goodIn_p _ [31, 35, 8, 13, 20, 25] rfl (by decide +kernel)
set_option maxRecDepth 20000 in
theorem gc_X6_starts_X6_number_32 : GoodIn w3X6_starts (wsV RX6 172 RX6 yX6_number w3X6_number) := goodIn_p _ [31, 35, 8, 13, 20, 25] rfl (by decide +kernel)
set_option maxRecDepth 20000 in
theorem gc_X6_starts_X6_number_49 : GoodIn w3X6_starts (wsV RX6 172 RX6 yX6_number w3X6_number) := goodIn_p _ [31, 35, 8, 13, 20, 25] rfl (by decide +kernel)
set_option maxRecDepth 20000 in
theorem gc_X6_starts_X6_wrong_68 : GoodIn w3X6_starts (wsV RX6 162 RX6 yX6_wrong w3X6_wrong) := goodIn_p _ [35] rfl (by decide +kernel)
set_option maxHeartbeats 4000000 in
set_option maxRecDepth 100000 in
theorem g3_X6_starts (l : Launch) (D : va_G) (h0 : Nat) (q : Nat → Nat) (cq : Nat → ClassId) (F : Nat → Int32) (G : Nat → Nat → Int32) (sz : Nat) (p0 : Int32) (hI : mI F G) (k0 : 8 ≤ p0.toInt ∧ p0.toInt < 16) (hns : (F 40).toInt ≤ (F 39).toInt) (hk2 : ¬ (F 41).toInt = 2 ∨ (65 ≤ (F 42).toInt ∧ (F 42).toInt ≤ 72)) : Met l yX6_starts w3X6_starts ({ frames := 3, cells := 0, slots := 0, locals := 69 }) (mPre D h0 q cq F G sz [.ref h0, .int p0]) (mQi D h0 q cq F G sz [13, 14, 40, 41, 42, 43, 44] [11, 12] (fun r F' G' => (F' 40).toInt ≤ (F 39).toInt ∧ (F 40).toInt ≤ (F' 40).toInt ∧ (¬ (F' 41).toInt = 2 ∨ (65 ≤ (F' 42).toInt ∧ (F' 42).toInt ≤ 72)) ∧ (r.toInt = 0 ∨ mHow (G' 11 (Int32.toNatClampNeg p0))) ∧ (∀ j : Nat, ¬ j = Int32.toNatClampNeg p0 → G' 11 j = G 11 j))) 0 0 (va_A (mW h0 q cq F G) sz) := by
  refine mr_met (WF := [13, 14, 40, 41, 42, 43, 44]) (WG := [11, 12]) (cc := cX6_starts) (maxL := 3) (ret := (some .boolean)) (by decide) rfl rfl (by decide +kernel) (Nat.le_of_ble_eq_true rfl) hI ?_
  intro p e s m args below meth c ls E hml hr hlk hsz hA hM hl
  have hx := E.1
  have hb := E.2.1
  have hts := E.2.2.1
  have hown := E.2.2.2.2.1
  have hl : lv_has ls 3 [(0, .ref h0), (1, .int p0)] := hl
  have B_40 : ∀ (H : Heap) (locs : List Loc) (ls : Array Slot) (Fc_40 : Nat → Int32) (Gc_40 : Nat → Nat → Int32) (iz : Int32), (Fc_40 40).toInt = (F 40).toInt → ¬ (Fc_40 41).toInt = 2 ∨ (65 ≤ (Fc_40 42).toInt ∧ (Fc_40 42).toInt ≤ 72) → iz.toInt = 0 ∨ (Fc_40 42).toInt = 9 ∨ (Fc_40 42).toInt = 10 ∨ (Fc_40 42).toInt = 11 → Gc_40 11 = G 11 → mQ D h0 q cq (va_A (mW h0 q cq F G) sz) s.heap [13, 14, 40, 41, 42, 43, 44] [11, 12] F G H locs Fc_40 Gc_40 → lv_has ls 3 [(0, .ref h0), (1, .int p0)] → W p l e ({ frames := 3, cells := 0, slots := 0, locals := 69 }) s m args below meth c H locs 0 0 (MQ below (mQi D h0 q cq F G sz [13, 14, 40, 41, 42, 43, 44] [11, 12] (fun r F' G' => (F' 40).toInt ≤ (F 39).toInt ∧ (F 40).toInt ≤ (F' 40).toInt ∧ (¬ (F' 41).toInt = 2 ∨ (65 ≤ (F' 42).toInt ∧ (F' 42).toInt ≤ 72)) ∧ (r.toInt = 0 ∨ mHow (G' 11 (Int32.toNatClampNeg p0))) ∧ (∀ j : Nat, ¬ j = Int32.toNatClampNeg p0 → G' 11 j = G 11 j))) args s 0 0 (va_A (mW h0 q cq F G) sz)) (F0 m 40 ls [.int iz]) := by
    intro H locs ls Fc_40 Gc_40 iz f40_0 f40_1 f40_2 f40_3 hM hl
    have hfr_40 := hM.fr
    refine lv_istore_n (lv' := [(2, .int iz), (0, .ref h0), (1, .int p0)]) hx hb dX6_starts_40 rfl hl (by decide) rfl (fun ls hl => ?_)
    refine lv_iload_n hx hb dX6_starts_41 rfl (lv_at hl 0 rfl) ?_
    refine mm_if_ne (X := iz.toInt) (tgt := 55) hx hb dX6_starts_42 (by decide) rfl (fun c_1 => ?_) (fun c_1 => ?_)
    · refine lv_aload_n hx hb dX6_starts_55 rfl (lv_at hl 1 rfl) ?_
      refine mr_get (v := .ref (q 11)) E hM 11 (by decide) (index := 32) (mm_at 1 rfl) rfl rfl dX6_starts_56 ?_
      refine lv_iload_n hx hb dX6_starts_59 rfl (lv_at hl 2 rfl) ?_
      refine lv_aload_n hx hb dX6_starts_60 rfl (lv_at hl 1 rfl) ?_
      refine mr_get (v := .int (Fc_40 42)) E hM 42 (by decide) (index := 155) (mm_at 2 rfl) rfl rfl dX6_starts_61 ?_
      refine mr_ast (X := p0.toInt) E hM 11 8 7 rfl rfl rfl (by omega) mg_11 (by decide) (mm_nbA rfl) (by decide) dX6_starts_64 (fun H locs G_2 eG_2 hM => ?_)
      refine lv_aload_n hx hb dX6_starts_65 rfl (lv_at hl 1 rfl) ?_
      refine mr_get (v := .ref (q 12)) E hM 12 (by decide) (index := 35) (mm_at 3 rfl) rfl rfl dX6_starts_66 ?_
      refine lv_iload_n hx hb dX6_starts_69 rfl (lv_at hl 2 rfl) ?_
      refine lv_iconst (v := 0) hx hb dX6_starts_70 (by decide) ?_
      refine mr_ast (X := p0.toInt) E hM 12 9 8 rfl rfl rfl (by omega) mg_12 (by decide) (mm_nbA rfl) (by decide) dX6_starts_71 (fun H locs G_3 eG_3 hM => ?_)
      refine lv_aload_n hx hb dX6_starts_72 rfl (lv_at hl 1 rfl) ?_
      have b_5 : 0 ≤ (Fc_40 39).toInt ∧ (Fc_40 39).toInt ≤ 1000 := hM.fb 39 rfl
      have e_6 : (Fc_40 39).toInt = (F 39).toInt := (congrArg Int32.toInt (hfr_40.1 39 (by decide))).trans rfl
      have b_7 : 0 ≤ (Fc_40 40).toInt ∧ (Fc_40 40).toInt ≤ 1000 := hM.fb 40 rfl
      refine mr_callv (av := []) (rest := []) E hA hml hM (g3_X6_take l D h0 q cq Fc_40 G_3 _  hM.2.2.2.1 (show (Fc_40 40).toInt ≤ (Fc_40 39).toInt from by omega)) (cwV 0 hts gc_X6_starts_X6_take_4 rfl rfl rfl (by decide +kernel) ⟨Nat.le_of_ble_eq_true rfl, Nat.le_of_ble_eq_true rfl⟩) rfl hl.1 rfl (Nat.le_of_ble_eq_true rfl) dX6_starts_73 ⟨Nat.le_of_ble_eq_true rfl, Nat.le_of_ble_eq_true rfl⟩ (by decide) (by decide) (fun F_10 G_11 H locs fr_12 p_9 hM => ?_)
      replace p_9 : (F_10 40).toInt ≤ (Fc_40 39).toInt ∧ (Fc_40 40).toInt ≤ (F_10 40).toInt ∧ ((F_10 41).toInt = 0 ∨ (Fc_40 40).toInt < (F_10 40).toInt) ∧ (¬ (F_10 41).toInt = 2 ∨ (65 ≤ (F_10 42).toInt ∧ (F_10 42).toInt ≤ 72)) := p_9
      refine lv_aload_n hx hb dX6_starts_76 rfl (lv_at hl 1 rfl) ?_
      refine mr_get (v := .ref (q 11)) E hM 11 (by decide) (index := 32) (mm_at 1 rfl) rfl rfl dX6_starts_77 ?_
      refine lv_iload_n hx hb dX6_starts_80 rfl (lv_at hl 2 rfl) ?_
      refine mr_ald (X := p0.toInt) E hM 8 7 rfl rfl rfl (by omega) dX6_starts_81 ?_
      refine lv_bipush (v := 9) hx hb dX6_starts_82 (by decide) ?_
      refine mm_icmp_ne (X := (G_11 11 (Int32.toNatClampNeg p0)).toInt) (Y := 9) (tgt := 89) hx hb dX6_starts_84 (by decide) rfl num_9 (fun c_13 => ?_) (fun c_13 => ?_)
      · refine lv_aload_n hx hb dX6_starts_89 rfl (lv_at hl 1 rfl) ?_
        refine lv_aload_n hx hb dX6_starts_90 rfl (lv_at hl 1 rfl) ?_
        refine mr_get (v := .ref (q 11)) E hM 11 (by decide) (index := 32) (mm_at 1 rfl) rfl rfl dX6_starts_91 ?_
        refine lv_iload_n hx hb dX6_starts_94 rfl (lv_at hl 2 rfl) ?_
        refine mr_ald (X := p0.toInt) E hM 8 7 rfl rfl rfl (by omega) dX6_starts_95 ?_
        refine lv_bipush (v := 10) hx hb dX6_starts_96 (by decide) ?_
        refine mm_icmp_ne (X := (G_11 11 (Int32.toNatClampNeg p0)).toInt) (Y := 10) (tgt := 105) hx hb dX6_starts_98 (by decide) rfl num_10 (fun c_14 => ?_) (fun c_14 => ?_)
        · refine lv_iconst (v := 0) hx hb dX6_starts_105 (by decide) ?_
          refine lv_aload_n hx hb dX6_starts_106 rfl (lv_at hl 1 rfl) ?_
          refine mr_get (v := .ref (q 11)) E hM 11 (by decide) (index := 32) (mm_at 1 rfl) rfl rfl dX6_starts_107 ?_
          refine lv_iload_n hx hb dX6_starts_110 rfl (lv_at hl 2 rfl) ?_
          refine mr_ald (X := p0.toInt) E hM 8 7 rfl rfl rfl (by omega) dX6_starts_111 ?_
          refine lv_bipush (v := 10) hx hb dX6_starts_112 (by decide) ?_
          refine mm_icmp_ne (X := (G_11 11 (Int32.toNatClampNeg p0)).toInt) (Y := 10) (tgt := 123) hx hb dX6_starts_114 (by decide) rfl num_10 (fun c_15 => ?_) (fun c_15 => ?_)
          · refine lv_sipush (v := 3600) hx hb dX6_starts_123 (by decide) ?_
            have b_17 : 0 ≤ (F_10 39).toInt ∧ (F_10 39).toInt ≤ 1000 := hM.fb 39 rfl
            have e_18 : (F_10 39).toInt = (Fc_40 39).toInt := (congrArg Int32.toInt (fr_12.1 39 (by decide))).trans rfl
            have b_19 : 0 ≤ (F_10 40).toInt ∧ (F_10 40).toInt ≤ 1000 := hM.fb 40 rfl
            have b_20 : 0 ≤ (F_10 41).toInt ∧ (F_10 41).toInt ≤ 5 := hM.fb 41 rfl
            refine mr_calli (av := [.int 0, .int 3600]) (rest := []) E hA hml hM (g3_X6_number l D h0 q cq F_10 G_11 _ 0 3600 hM.2.2.2.1 (show (F_10 40).toInt ≤ (F_10 39).toInt from by have n_0 := num_0; have n_1 := num_3600; omega) (show ¬ (F_10 41).toInt = 2 ∨ (65 ≤ (F_10 42).toInt ∧ (F_10 42).toInt ≤ 72) from by have n_0 := num_0; have n_1 := num_3600; omega)) (cwV 2 hts gc_X6_starts_X6_number_16 rfl rfl rfl (by decide +kernel) ⟨Nat.le_of_ble_eq_true rfl, Nat.le_of_ble_eq_true rfl⟩) rfl hl.1 rfl (Nat.le_of_ble_eq_true rfl) dX6_starts_126 ⟨Nat.le_of_ble_eq_true rfl, Nat.le_of_ble_eq_true rfl⟩ (by decide) (by decide) (fun r_21 F_23 G_24 H locs fr_25 p_22 hM => ?_)
            replace p_22 : (F_23 40).toInt ≤ (F_10 39).toInt ∧ (F_10 40).toInt ≤ (F_23 40).toInt ∧ (¬ (F_23 41).toInt = 2 ∨ (65 ≤ (F_23 42).toInt ∧ (F_23 42).toInt ≤ 72)) := p_22
            refine mm_if_ne (X := r_21.toInt) (tgt := 134) hx hb dX6_starts_129 (by decide) rfl (fun c_26 => ?_) (fun c_26 => ?_)
            · refine lv_aload_n hx hb dX6_starts_134 rfl (lv_at hl 1 rfl) ?_
              refine mr_get (v := .ref (q 12)) E hM 12 (by decide) (index := 35) (mm_at 3 rfl) rfl rfl dX6_starts_135 ?_
              refine lv_iload_n hx hb dX6_starts_138 rfl (lv_at hl 2 rfl) ?_
              refine lv_aload_n hx hb dX6_starts_139 rfl (lv_at hl 1 rfl) ?_
              refine mr_get (v := .int (F_23 44)) E hM 44 (by decide) (index := 169) (mm_at 38 rfl) rfl rfl dX6_starts_140 ?_
              refine mr_ast (X := p0.toInt) E hM 12 9 8 rfl rfl rfl (by omega) mg_12 (by decide) (mm_nbA rfl) (by decide) dX6_starts_143 (fun H locs G_27 eG_27 hM => ?_)
              refine lv_iconst (v := 1) hx hb dX6_starts_144 (by decide) ?_
              have b_28 : 0 ≤ (F_23 40).toInt ∧ (F_23 40).toInt ≤ 1000 := hM.fb 40 rfl
              have b_29 : 0 ≤ (F_23 41).toInt ∧ (F_23 41).toInt ≤ 5 := hM.fb 41 rfl
              exact mr_rz (X := 1) E hr hlk hsz hM num_1 (by omega) (show (F_23 40).toInt ≤ (F 39).toInt ∧ (F 40).toInt ≤ (F_23 40).toInt ∧ (¬ (F_23 41).toInt = 2 ∨ (65 ≤ (F_23 42).toInt ∧ (F_23 42).toInt ≤ 72)) ∧ ((1 : Int32).toInt = 0 ∨ mHow (G_27 11 (Int32.toNatClampNeg p0))) ∧ (∀ j : Nat, ¬ j = Int32.toNatClampNeg p0 → G_27 11 j = G 11 j) from by have n9 := num_1; exact ⟨by omega, by omega, by omega, Or.inr (by rw [((show G_27 11 = G_24 11 from by rw [eG_27]; rfl).trans ((fr_25.2 11 (by decide)).trans ((fr_12.2 11 (by decide)).trans ((show G_3 11 = G_2 11 from by rw [eG_3]; rfl).trans ((show G_2 11 = upd (Gc_40 11) (Int32.toNatClampNeg p0) ((Fc_40 42)) from by rw [eG_2]; rfl).trans (congrArg (fun z => upd z (Int32.toNatClampNeg p0) ((Fc_40 42))) rfl))))))]; simp only [upd, if_true]; show _ ∨ _ ∨ _; omega), fun j hj => by rw [((show G_27 11 = G_24 11 from by rw [eG_27]; rfl).trans ((fr_25.2 11 (by decide)).trans ((fr_12.2 11 (by decide)).trans ((show G_3 11 = G_2 11 from by rw [eG_3]; rfl).trans ((show G_2 11 = upd (Gc_40 11) (Int32.toNatClampNeg p0) ((Fc_40 42)) from by rw [eG_2]; rfl).trans (congrArg (fun z => upd z (Int32.toNatClampNeg p0) ((Fc_40 42))) rfl))))))]; simp only [upd, if_neg hj]; exact congrFun f40_3 j⟩) dX6_starts_145
            · refine lv_iconst (v := 0) hx hb dX6_starts_132 (by decide) ?_
              have b_30 : 0 ≤ (F_23 40).toInt ∧ (F_23 40).toInt ≤ 1000 := hM.fb 40 rfl
              have b_31 : 0 ≤ (F_23 41).toInt ∧ (F_23 41).toInt ≤ 5 := hM.fb 41 rfl
              exact mr_rz (X := 0) E hr hlk hsz hM num_0 (by omega) (show (F_23 40).toInt ≤ (F 39).toInt ∧ (F 40).toInt ≤ (F_23 40).toInt ∧ (¬ (F_23 41).toInt = 2 ∨ (65 ≤ (F_23 42).toInt ∧ (F_23 42).toInt ≤ 72)) ∧ ((0 : Int32).toInt = 0 ∨ mHow (G_24 11 (Int32.toNatClampNeg p0))) ∧ (∀ j : Nat, ¬ j = Int32.toNatClampNeg p0 → G_24 11 j = G 11 j) from by have n9 := num_0; exact ⟨by omega, by omega, by omega, Or.inr (by rw [((fr_25.2 11 (by decide)).trans ((fr_12.2 11 (by decide)).trans ((show G_3 11 = G_2 11 from by rw [eG_3]; rfl).trans ((show G_2 11 = upd (Gc_40 11) (Int32.toNatClampNeg p0) ((Fc_40 42)) from by rw [eG_2]; rfl).trans (congrArg (fun z => upd z (Int32.toNatClampNeg p0) ((Fc_40 42))) rfl)))))]; simp only [upd, if_true]; show _ ∨ _ ∨ _; omega), fun j hj => by rw [((fr_25.2 11 (by decide)).trans ((fr_12.2 11 (by decide)).trans ((show G_3 11 = G_2 11 from by rw [eG_3]; rfl).trans ((show G_2 11 = upd (Gc_40 11) (Int32.toNatClampNeg p0) ((Fc_40 42)) from by rw [eG_2]; rfl).trans (congrArg (fun z => upd z (Int32.toNatClampNeg p0) ((Fc_40 42))) rfl)))))]; simp only [upd, if_neg hj]; exact congrFun f40_3 j⟩) dX6_starts_133
          · refine lv_sipush (v := 600) hx hb dX6_starts_117 (by decide) ?_
            refine lv_goto (tgt := 126) hx hb dX6_starts_120 (by decide) ?_
            have b_33 : 0 ≤ (F_10 39).toInt ∧ (F_10 39).toInt ≤ 1000 := hM.fb 39 rfl
            have e_34 : (F_10 39).toInt = (Fc_40 39).toInt := (congrArg Int32.toInt (fr_12.1 39 (by decide))).trans rfl
            have b_35 : 0 ≤ (F_10 40).toInt ∧ (F_10 40).toInt ≤ 1000 := hM.fb 40 rfl
            have b_36 : 0 ≤ (F_10 41).toInt ∧ (F_10 41).toInt ≤ 5 := hM.fb 41 rfl
            refine mr_calli (av := [.int 0, .int 600]) (rest := []) E hA hml hM (g3_X6_number l D h0 q cq F_10 G_11 _ 0 600 hM.2.2.2.1 (show (F_10 40).toInt ≤ (F_10 39).toInt from by have n_0 := num_0; have n_1 := num_600; omega) (show ¬ (F_10 41).toInt = 2 ∨ (65 ≤ (F_10 42).toInt ∧ (F_10 42).toInt ≤ 72) from by have n_0 := num_0; have n_1 := num_600; omega)) (cwV 2 hts gc_X6_starts_X6_number_32 rfl rfl rfl (by decide +kernel) ⟨Nat.le_of_ble_eq_true rfl, Nat.le_of_ble_eq_true rfl⟩) rfl hl.1 rfl (Nat.le_of_ble_eq_true rfl) dX6_starts_126 ⟨Nat.le_of_ble_eq_true rfl, Nat.le_of_ble_eq_true rfl⟩ (by decide) (by decide) (fun r_37 F_39 G_40 H locs fr_41 p_38 hM => ?_)
            replace p_38 : (F_39 40).toInt ≤ (F_10 39).toInt ∧ (F_10 40).toInt ≤ (F_39 40).toInt ∧ (¬ (F_39 41).toInt = 2 ∨ (65 ≤ (F_39 42).toInt ∧ (F_39 42).toInt ≤ 72)) := p_38
            refine mm_if_ne (X := r_37.toInt) (tgt := 134) hx hb dX6_starts_129 (by decide) rfl (fun c_42 => ?_) (fun c_42 => ?_)
            · refine lv_aload_n hx hb dX6_starts_134 rfl (lv_at hl 1 rfl) ?_
              refine mr_get (v := .ref (q 12)) E hM 12 (by decide) (index := 35) (mm_at 3 rfl) rfl rfl dX6_starts_135 ?_
              refine lv_iload_n hx hb dX6_starts_138 rfl (lv_at hl 2 rfl) ?_
              refine lv_aload_n hx hb dX6_starts_139 rfl (lv_at hl 1 rfl) ?_
              refine mr_get (v := .int (F_39 44)) E hM 44 (by decide) (index := 169) (mm_at 38 rfl) rfl rfl dX6_starts_140 ?_
              refine mr_ast (X := p0.toInt) E hM 12 9 8 rfl rfl rfl (by omega) mg_12 (by decide) (mm_nbA rfl) (by decide) dX6_starts_143 (fun H locs G_43 eG_43 hM => ?_)
              refine lv_iconst (v := 1) hx hb dX6_starts_144 (by decide) ?_
              have b_44 : 0 ≤ (F_39 40).toInt ∧ (F_39 40).toInt ≤ 1000 := hM.fb 40 rfl
              have b_45 : 0 ≤ (F_39 41).toInt ∧ (F_39 41).toInt ≤ 5 := hM.fb 41 rfl
              exact mr_rz (X := 1) E hr hlk hsz hM num_1 (by omega) (show (F_39 40).toInt ≤ (F 39).toInt ∧ (F 40).toInt ≤ (F_39 40).toInt ∧ (¬ (F_39 41).toInt = 2 ∨ (65 ≤ (F_39 42).toInt ∧ (F_39 42).toInt ≤ 72)) ∧ ((1 : Int32).toInt = 0 ∨ mHow (G_43 11 (Int32.toNatClampNeg p0))) ∧ (∀ j : Nat, ¬ j = Int32.toNatClampNeg p0 → G_43 11 j = G 11 j) from by have n9 := num_1; exact ⟨by omega, by omega, by omega, Or.inr (by rw [((show G_43 11 = G_40 11 from by rw [eG_43]; rfl).trans ((fr_41.2 11 (by decide)).trans ((fr_12.2 11 (by decide)).trans ((show G_3 11 = G_2 11 from by rw [eG_3]; rfl).trans ((show G_2 11 = upd (Gc_40 11) (Int32.toNatClampNeg p0) ((Fc_40 42)) from by rw [eG_2]; rfl).trans (congrArg (fun z => upd z (Int32.toNatClampNeg p0) ((Fc_40 42))) rfl))))))]; simp only [upd, if_true]; show _ ∨ _ ∨ _; omega), fun j hj => by rw [((show G_43 11 = G_40 11 from by rw [eG_43]; rfl).trans ((fr_41.2 11 (by decide)).trans ((fr_12.2 11 (by decide)).trans ((show G_3 11 = G_2 11 from by rw [eG_3]; rfl).trans ((show G_2 11 = upd (Gc_40 11) (Int32.toNatClampNeg p0) ((Fc_40 42)) from by rw [eG_2]; rfl).trans (congrArg (fun z => upd z (Int32.toNatClampNeg p0) ((Fc_40 42))) rfl))))))]; simp only [upd, if_neg hj]; exact congrFun f40_3 j⟩) dX6_starts_145
            · refine lv_iconst (v := 0) hx hb dX6_starts_132 (by decide) ?_
              have b_46 : 0 ≤ (F_39 40).toInt ∧ (F_39 40).toInt ≤ 1000 := hM.fb 40 rfl
              have b_47 : 0 ≤ (F_39 41).toInt ∧ (F_39 41).toInt ≤ 5 := hM.fb 41 rfl
              exact mr_rz (X := 0) E hr hlk hsz hM num_0 (by omega) (show (F_39 40).toInt ≤ (F 39).toInt ∧ (F 40).toInt ≤ (F_39 40).toInt ∧ (¬ (F_39 41).toInt = 2 ∨ (65 ≤ (F_39 42).toInt ∧ (F_39 42).toInt ≤ 72)) ∧ ((0 : Int32).toInt = 0 ∨ mHow (G_40 11 (Int32.toNatClampNeg p0))) ∧ (∀ j : Nat, ¬ j = Int32.toNatClampNeg p0 → G_40 11 j = G 11 j) from by have n9 := num_0; exact ⟨by omega, by omega, by omega, Or.inr (by rw [((fr_41.2 11 (by decide)).trans ((fr_12.2 11 (by decide)).trans ((show G_3 11 = G_2 11 from by rw [eG_3]; rfl).trans ((show G_2 11 = upd (Gc_40 11) (Int32.toNatClampNeg p0) ((Fc_40 42)) from by rw [eG_2]; rfl).trans (congrArg (fun z => upd z (Int32.toNatClampNeg p0) ((Fc_40 42))) rfl)))))]; simp only [upd, if_true]; show _ ∨ _ ∨ _; omega), fun j hj => by rw [((fr_41.2 11 (by decide)).trans ((fr_12.2 11 (by decide)).trans ((show G_3 11 = G_2 11 from by rw [eG_3]; rfl).trans ((show G_2 11 = upd (Gc_40 11) (Int32.toNatClampNeg p0) ((Fc_40 42)) from by rw [eG_2]; rfl).trans (congrArg (fun z => upd z (Int32.toNatClampNeg p0) ((Fc_40 42))) rfl)))))]; simp only [upd, if_neg hj]; exact congrFun f40_3 j⟩) dX6_starts_133
        · refine lv_iconst (v := 1) hx hb dX6_starts_101 (by decide) ?_
          refine lv_goto (tgt := 106) hx hb dX6_starts_102 (by decide) ?_
          refine lv_aload_n hx hb dX6_starts_106 rfl (lv_at hl 1 rfl) ?_
          refine mr_get (v := .ref (q 11)) E hM 11 (by decide) (index := 32) (mm_at 1 rfl) rfl rfl dX6_starts_107 ?_
          refine lv_iload_n hx hb dX6_starts_110 rfl (lv_at hl 2 rfl) ?_
          refine mr_ald (X := p0.toInt) E hM 8 7 rfl rfl rfl (by omega) dX6_starts_111 ?_
          refine lv_bipush (v := 10) hx hb dX6_starts_112 (by decide) ?_
          refine mm_icmp_ne (X := (G_11 11 (Int32.toNatClampNeg p0)).toInt) (Y := 10) (tgt := 123) hx hb dX6_starts_114 (by decide) rfl num_10 (fun c_48 => False.elim (by omega)) (fun c_48 => ?_)
          refine lv_sipush (v := 600) hx hb dX6_starts_117 (by decide) ?_
          refine lv_goto (tgt := 126) hx hb dX6_starts_120 (by decide) ?_
          have b_50 : 0 ≤ (F_10 39).toInt ∧ (F_10 39).toInt ≤ 1000 := hM.fb 39 rfl
          have e_51 : (F_10 39).toInt = (Fc_40 39).toInt := (congrArg Int32.toInt (fr_12.1 39 (by decide))).trans rfl
          have b_52 : 0 ≤ (F_10 40).toInt ∧ (F_10 40).toInt ≤ 1000 := hM.fb 40 rfl
          have b_53 : 0 ≤ (F_10 41).toInt ∧ (F_10 41).toInt ≤ 5 := hM.fb 41 rfl
          refine mr_calli (av := [.int 1, .int 600]) (rest := []) E hA hml hM (g3_X6_number l D h0 q cq F_10 G_11 _ 1 600 hM.2.2.2.1 (show (F_10 40).toInt ≤ (F_10 39).toInt from by have n_0 := num_1; have n_1 := num_600; omega) (show ¬ (F_10 41).toInt = 2 ∨ (65 ≤ (F_10 42).toInt ∧ (F_10 42).toInt ≤ 72) from by have n_0 := num_1; have n_1 := num_600; omega)) (cwV 2 hts gc_X6_starts_X6_number_49 rfl rfl rfl (by decide +kernel) ⟨Nat.le_of_ble_eq_true rfl, Nat.le_of_ble_eq_true rfl⟩) rfl hl.1 rfl (Nat.le_of_ble_eq_true rfl) dX6_starts_126 ⟨Nat.le_of_ble_eq_true rfl, Nat.le_of_ble_eq_true rfl⟩ (by decide) (by decide) (fun r_54 F_56 G_57 H locs fr_58 p_55 hM => ?_)
          replace p_55 : (F_56 40).toInt ≤ (F_10 39).toInt ∧ (F_10 40).toInt ≤ (F_56 40).toInt ∧ (¬ (F_56 41).toInt = 2 ∨ (65 ≤ (F_56 42).toInt ∧ (F_56 42).toInt ≤ 72)) := p_55
          refine mm_if_ne (X := r_54.toInt) (tgt := 134) hx hb dX6_starts_129 (by decide) rfl (fun c_59 => ?_) (fun c_59 => ?_)
          · refine lv_aload_n hx hb dX6_starts_134 rfl (lv_at hl 1 rfl) ?_
            refine mr_get (v := .ref (q 12)) E hM 12 (by decide) (index := 35) (mm_at 3 rfl) rfl rfl dX6_starts_135 ?_
            refine lv_iload_n hx hb dX6_starts_138 rfl (lv_at hl 2 rfl) ?_
            refine lv_aload_n hx hb dX6_starts_139 rfl (lv_at hl 1 rfl) ?_
            refine mr_get (v := .int (F_56 44)) E hM 44 (by decide) (index := 169) (mm_at 38 rfl) rfl rfl dX6_starts_140 ?_
            refine mr_ast (X := p0.toInt) E hM 12 9 8 rfl rfl rfl (by omega) mg_12 (by decide) (mm_nbA rfl) (by decide) dX6_starts_143 (fun H locs G_60 eG_60 hM => ?_)
            refine lv_iconst (v := 1) hx hb dX6_starts_144 (by decide) ?_
            have b_61 : 0 ≤ (F_56 40).toInt ∧ (F_56 40).toInt ≤ 1000 := hM.fb 40 rfl
            have b_62 : 0 ≤ (F_56 41).toInt ∧ (F_56 41).toInt ≤ 5 := hM.fb 41 rfl
            exact mr_rz (X := 1) E hr hlk hsz hM num_1 (by omega) (show (F_56 40).toInt ≤ (F 39).toInt ∧ (F 40).toInt ≤ (F_56 40).toInt ∧ (¬ (F_56 41).toInt = 2 ∨ (65 ≤ (F_56 42).toInt ∧ (F_56 42).toInt ≤ 72)) ∧ ((1 : Int32).toInt = 0 ∨ mHow (G_60 11 (Int32.toNatClampNeg p0))) ∧ (∀ j : Nat, ¬ j = Int32.toNatClampNeg p0 → G_60 11 j = G 11 j) from by have n9 := num_1; exact ⟨by omega, by omega, by omega, Or.inr (by rw [((show G_60 11 = G_57 11 from by rw [eG_60]; rfl).trans ((fr_58.2 11 (by decide)).trans ((fr_12.2 11 (by decide)).trans ((show G_3 11 = G_2 11 from by rw [eG_3]; rfl).trans ((show G_2 11 = upd (Gc_40 11) (Int32.toNatClampNeg p0) ((Fc_40 42)) from by rw [eG_2]; rfl).trans (congrArg (fun z => upd z (Int32.toNatClampNeg p0) ((Fc_40 42))) rfl))))))]; simp only [upd, if_true]; show _ ∨ _ ∨ _; omega), fun j hj => by rw [((show G_60 11 = G_57 11 from by rw [eG_60]; rfl).trans ((fr_58.2 11 (by decide)).trans ((fr_12.2 11 (by decide)).trans ((show G_3 11 = G_2 11 from by rw [eG_3]; rfl).trans ((show G_2 11 = upd (Gc_40 11) (Int32.toNatClampNeg p0) ((Fc_40 42)) from by rw [eG_2]; rfl).trans (congrArg (fun z => upd z (Int32.toNatClampNeg p0) ((Fc_40 42))) rfl))))))]; simp only [upd, if_neg hj]; exact congrFun f40_3 j⟩) dX6_starts_145
          · refine lv_iconst (v := 0) hx hb dX6_starts_132 (by decide) ?_
            have b_63 : 0 ≤ (F_56 40).toInt ∧ (F_56 40).toInt ≤ 1000 := hM.fb 40 rfl
            have b_64 : 0 ≤ (F_56 41).toInt ∧ (F_56 41).toInt ≤ 5 := hM.fb 41 rfl
            exact mr_rz (X := 0) E hr hlk hsz hM num_0 (by omega) (show (F_56 40).toInt ≤ (F 39).toInt ∧ (F 40).toInt ≤ (F_56 40).toInt ∧ (¬ (F_56 41).toInt = 2 ∨ (65 ≤ (F_56 42).toInt ∧ (F_56 42).toInt ≤ 72)) ∧ ((0 : Int32).toInt = 0 ∨ mHow (G_57 11 (Int32.toNatClampNeg p0))) ∧ (∀ j : Nat, ¬ j = Int32.toNatClampNeg p0 → G_57 11 j = G 11 j) from by have n9 := num_0; exact ⟨by omega, by omega, by omega, Or.inr (by rw [((fr_58.2 11 (by decide)).trans ((fr_12.2 11 (by decide)).trans ((show G_3 11 = G_2 11 from by rw [eG_3]; rfl).trans ((show G_2 11 = upd (Gc_40 11) (Int32.toNatClampNeg p0) ((Fc_40 42)) from by rw [eG_2]; rfl).trans (congrArg (fun z => upd z (Int32.toNatClampNeg p0) ((Fc_40 42))) rfl)))))]; simp only [upd, if_true]; show _ ∨ _ ∨ _; omega), fun j hj => by rw [((fr_58.2 11 (by decide)).trans ((fr_12.2 11 (by decide)).trans ((show G_3 11 = G_2 11 from by rw [eG_3]; rfl).trans ((show G_2 11 = upd (Gc_40 11) (Int32.toNatClampNeg p0) ((Fc_40 42)) from by rw [eG_2]; rfl).trans (congrArg (fun z => upd z (Int32.toNatClampNeg p0) ((Fc_40 42))) rfl)))))]; simp only [upd, if_neg hj]; exact congrFun f40_3 j⟩) dX6_starts_133
      · refine lv_iconst (v := 1) hx hb dX6_starts_87 (by decide) ?_
        have b_65 : 0 ≤ (F_10 40).toInt ∧ (F_10 40).toInt ≤ 1000 := hM.fb 40 rfl
        have b_66 : 0 ≤ (F_10 41).toInt ∧ (F_10 41).toInt ≤ 5 := hM.fb 41 rfl
        exact mr_rz (X := 1) E hr hlk hsz hM num_1 (by omega) (show (F_10 40).toInt ≤ (F 39).toInt ∧ (F 40).toInt ≤ (F_10 40).toInt ∧ (¬ (F_10 41).toInt = 2 ∨ (65 ≤ (F_10 42).toInt ∧ (F_10 42).toInt ≤ 72)) ∧ ((1 : Int32).toInt = 0 ∨ mHow (G_11 11 (Int32.toNatClampNeg p0))) ∧ (∀ j : Nat, ¬ j = Int32.toNatClampNeg p0 → G_11 11 j = G 11 j) from by have n9 := num_1; exact ⟨by omega, by omega, by omega, Or.inr (by rw [((fr_12.2 11 (by decide)).trans ((show G_3 11 = G_2 11 from by rw [eG_3]; rfl).trans ((show G_2 11 = upd (Gc_40 11) (Int32.toNatClampNeg p0) ((Fc_40 42)) from by rw [eG_2]; rfl).trans (congrArg (fun z => upd z (Int32.toNatClampNeg p0) ((Fc_40 42))) rfl))))]; simp only [upd, if_true]; show _ ∨ _ ∨ _; omega), fun j hj => by rw [((fr_12.2 11 (by decide)).trans ((show G_3 11 = G_2 11 from by rw [eG_3]; rfl).trans ((show G_2 11 = upd (Gc_40 11) (Int32.toNatClampNeg p0) ((Fc_40 42)) from by rw [eG_2]; rfl).trans (congrArg (fun z => upd z (Int32.toNatClampNeg p0) ((Fc_40 42))) rfl))))]; simp only [upd, if_neg hj]; exact congrFun f40_3 j⟩) dX6_starts_88
    · refine lv_aload_n hx hb dX6_starts_45 rfl (lv_at hl 1 rfl) ?_
      refine lv_iconst (v := 1) hx hb dX6_starts_46 (by decide) ?_
      refine lv_aload_n hx hb dX6_starts_47 rfl (lv_at hl 1 rfl) ?_
      have b_67 : 0 ≤ (Fc_40 43).toInt ∧ (Fc_40 43).toInt ≤ 1000 := hM.fb 43 rfl
      refine mr_get (v := .int (Fc_40 43)) E hM 43 (by decide) (index := 141) (mm_at 21 rfl) rfl rfl dX6_starts_48 ?_
      refine mr_calli (av := [.int 1, .int (Fc_40 43)]) (rest := []) E hA hml hM (g3_X6_wrong l D h0 q cq Fc_40 Gc_40 _ 1 (Fc_40 43) hM.2.2.2.1 ) (cwV 2 hts gc_X6_starts_X6_wrong_68 rfl rfl rfl (by decide +kernel) ⟨Nat.le_of_ble_eq_true rfl, Nat.le_of_ble_eq_true rfl⟩) rfl hl.1 rfl (Nat.le_of_ble_eq_true rfl) dX6_starts_51 ⟨Nat.le_of_ble_eq_true rfl, Nat.le_of_ble_eq_true rfl⟩ (by decide) (by decide) (fun r_69 F_71 G_72 H locs fr_73 p_70 hM => ?_)
      replace p_70 : r_69.toInt = 0 := p_70
      have e_74 : (F_71 42).toInt = (Fc_40 42).toInt := (congrArg Int32.toInt (fr_73.1 42 (by decide))).trans rfl
      have b_75 : 0 ≤ (F_71 40).toInt ∧ (F_71 40).toInt ≤ 1000 := hM.fb 40 rfl
      have e_76 : (F_71 40).toInt = (Fc_40 40).toInt := (congrArg Int32.toInt (fr_73.1 40 (by decide))).trans rfl
      have b_77 : 0 ≤ (F_71 41).toInt ∧ (F_71 41).toInt ≤ 5 := hM.fb 41 rfl
      have e_78 : (F_71 41).toInt = (Fc_40 41).toInt := (congrArg Int32.toInt (fr_73.1 41 (by decide))).trans rfl
      exact mr_rz (X := r_69.toInt) E hr hlk hsz hM rfl (by omega) (show (F_71 40).toInt ≤ (F 39).toInt ∧ (F 40).toInt ≤ (F_71 40).toInt ∧ (¬ (F_71 41).toInt = 2 ∨ (65 ≤ (F_71 42).toInt ∧ (F_71 42).toInt ≤ 72)) ∧ (r_69.toInt = 0 ∨ mHow (G_72 11 (Int32.toNatClampNeg p0))) ∧ (∀ j : Nat, ¬ j = Int32.toNatClampNeg p0 → G_72 11 j = G 11 j) from by exact ⟨by omega, by omega, by omega, Or.inl (by omega), fun j _ => (congrFun ((fr_73.2 11 (by decide)).trans rfl) j).trans (congrFun f40_3 j)⟩) dX6_starts_54
  refine lv_aload_n hx hb dX6_starts_0 rfl (lv_at hl 0 rfl) ?_
  have b_79 : 0 ≤ (F 41).toInt ∧ (F 41).toInt ≤ 5 := hM.fb 41 rfl
  refine mr_get (v := .int (F 41)) E hM 41 (by decide) (index := 144) (mm_at 27 rfl) rfl rfl dX6_starts_1 ?_
  refine lv_iconst (v := 1) hx hb dX6_starts_4 (by decide) ?_
  refine mm_icmp_ne (X := (F 41).toInt) (Y := 1) (tgt := 39) hx hb dX6_starts_5 (by decide) rfl num_1 (fun c_80 => ?_) (fun c_80 => ?_)
  · refine lv_iconst (v := 0) hx hb dX6_starts_39 (by decide) ?_
    have b_81 : 0 ≤ (F 40).toInt ∧ (F 40).toInt ≤ 1000 := hM.fb 40 rfl
    exact B_40 _ _ _ F G 0 (show (F 40).toInt = (F 40).toInt from by have n_0 := num_0; omega) (show ¬ (F 41).toInt = 2 ∨ (65 ≤ (F 42).toInt ∧ (F 42).toInt ≤ 72) from by have n_0 := num_0; omega) (show (0 : Int32).toInt = 0 ∨ (F 42).toInt = 9 ∨ (F 42).toInt = 10 ∨ (F 42).toInt = 11 from by have n_0 := num_0; omega) (show G 11 = G 11 from by have n_0 := num_0; rfl) hM (lv_sub hl [0, 1] rfl)
  · refine lv_aload_n hx hb dX6_starts_8 rfl (lv_at hl 0 rfl) ?_
    refine mr_get (v := .int (F 42)) E hM 42 (by decide) (index := 155) (mm_at 2 rfl) rfl rfl dX6_starts_9 ?_
    refine lv_bipush (v := 9) hx hb dX6_starts_12 (by decide) ?_
    refine mm_icmp_eq (X := (F 42).toInt) (Y := 9) (tgt := 35) hx hb dX6_starts_14 (by decide) rfl num_9 (fun c_82 => ?_) (fun c_82 => ?_)
    · refine lv_iconst (v := 1) hx hb dX6_starts_35 (by decide) ?_
      refine lv_goto (tgt := 40) hx hb dX6_starts_36 (by decide) ?_
      have b_83 : 0 ≤ (F 40).toInt ∧ (F 40).toInt ≤ 1000 := hM.fb 40 rfl
      exact B_40 _ _ _ F G 1 (show (F 40).toInt = (F 40).toInt from by have n_0 := num_1; omega) (show ¬ (F 41).toInt = 2 ∨ (65 ≤ (F 42).toInt ∧ (F 42).toInt ≤ 72) from by have n_0 := num_1; omega) (show (1 : Int32).toInt = 0 ∨ (F 42).toInt = 9 ∨ (F 42).toInt = 10 ∨ (F 42).toInt = 11 from by have n_0 := num_1; omega) (show G 11 = G 11 from by have n_0 := num_1; rfl) hM (lv_sub hl [0, 1] rfl)
    · refine lv_aload_n hx hb dX6_starts_17 rfl (lv_at hl 0 rfl) ?_
      refine mr_get (v := .int (F 42)) E hM 42 (by decide) (index := 155) (mm_at 2 rfl) rfl rfl dX6_starts_18 ?_
      refine lv_bipush (v := 10) hx hb dX6_starts_21 (by decide) ?_
      refine mm_icmp_eq (X := (F 42).toInt) (Y := 10) (tgt := 35) hx hb dX6_starts_23 (by decide) rfl num_10 (fun c_84 => ?_) (fun c_84 => ?_)
      · refine lv_iconst (v := 1) hx hb dX6_starts_35 (by decide) ?_
        refine lv_goto (tgt := 40) hx hb dX6_starts_36 (by decide) ?_
        have b_85 : 0 ≤ (F 40).toInt ∧ (F 40).toInt ≤ 1000 := hM.fb 40 rfl
        exact B_40 _ _ _ F G 1 (show (F 40).toInt = (F 40).toInt from by have n_0 := num_1; omega) (show ¬ (F 41).toInt = 2 ∨ (65 ≤ (F 42).toInt ∧ (F 42).toInt ≤ 72) from by have n_0 := num_1; omega) (show (1 : Int32).toInt = 0 ∨ (F 42).toInt = 9 ∨ (F 42).toInt = 10 ∨ (F 42).toInt = 11 from by have n_0 := num_1; omega) (show G 11 = G 11 from by have n_0 := num_1; rfl) hM (lv_sub hl [0, 1] rfl)
      · refine lv_aload_n hx hb dX6_starts_26 rfl (lv_at hl 0 rfl) ?_
        refine mr_get (v := .int (F 42)) E hM 42 (by decide) (index := 155) (mm_at 2 rfl) rfl rfl dX6_starts_27 ?_
        refine lv_bipush (v := 11) hx hb dX6_starts_30 (by decide) ?_
        refine mm_icmp_ne (X := (F 42).toInt) (Y := 11) (tgt := 39) hx hb dX6_starts_32 (by decide) rfl num_11 (fun c_86 => ?_) (fun c_86 => ?_)
        · refine lv_iconst (v := 0) hx hb dX6_starts_39 (by decide) ?_
          have b_87 : 0 ≤ (F 40).toInt ∧ (F 40).toInt ≤ 1000 := hM.fb 40 rfl
          exact B_40 _ _ _ F G 0 (show (F 40).toInt = (F 40).toInt from by have n_0 := num_0; omega) (show ¬ (F 41).toInt = 2 ∨ (65 ≤ (F 42).toInt ∧ (F 42).toInt ≤ 72) from by have n_0 := num_0; omega) (show (0 : Int32).toInt = 0 ∨ (F 42).toInt = 9 ∨ (F 42).toInt = 10 ∨ (F 42).toInt = 11 from by have n_0 := num_0; omega) (show G 11 = G 11 from by have n_0 := num_0; rfl) hM (lv_sub hl [0, 1] rfl)
        · refine lv_iconst (v := 1) hx hb dX6_starts_35 (by decide) ?_
          refine lv_goto (tgt := 40) hx hb dX6_starts_36 (by decide) ?_
          have b_88 : 0 ≤ (F 40).toInt ∧ (F 40).toInt ≤ 1000 := hM.fb 40 rfl
          exact B_40 _ _ _ F G 1 (show (F 40).toInt = (F 40).toInt from by have n_0 := num_1; omega) (show ¬ (F 41).toInt = 2 ∨ (65 ≤ (F 42).toInt ∧ (F 42).toInt ≤ 72) from by have n_0 := num_1; omega) (show (1 : Int32).toInt = 0 ∨ (F 42).toInt = 9 ∨ (F 42).toInt = 10 ∨ (F 42).toInt = 11 from by have n_0 := num_1; omega) (show G 11 = G 11 from by have n_0 := num_1; rfl) hM (lv_sub hl [0, 1] rfl)
def w3X6_format : List Cond := .code yX6_format cX6_format 2 (some .boolean) :: ([.fieldLink RX6 29 "SkiShotsModel" "cost" "[I", .fieldLink RX6 169 "SkiShotsModel" "read" "I", .methodLink RX6 178 yX6_sign, .instanceMethod yX6_sign, .selects RX6 yX6_sign yX6_sign, .initialized RX6, .code yX6_sign cX6_sign 2 (some .boolean), .fieldLink RX6 144 "SkiShotsModel" "kind" "I", .fieldLink RX6 141 "SkiShotsModel" "place" "I", .methodLink RX6 162 yX6_wrong, .instanceMethod yX6_wrong, .selects RX6 yX6_wrong yX6_wrong, .code yX6_wrong cX6_wrong 3 (some .boolean), .fieldLink RX6 132 "SkiShotsModel" "fault" "I", .fieldLink RX6 38 "SkiShotsModel" "faultPlace" "I", .fieldLink RX6 155 "SkiShotsModel" "which" "I", .methodLink RX6 166 yX6_take, .instanceMethod yX6_take, .selects RX6 yX6_take yX6_take, .code yX6_take cX6_take 1 none, .fieldLink RX6 138 "SkiShotsModel" "next" "I", .methodLink RX6 158 yX6_isDigit, .instanceMethod yX6_isDigit, .selects RX6 yX6_isDigit yX6_isDigit, .code yX6_isDigit cX6_isDigit 2 (some .boolean), .fieldLink RX6 135 "SkiShotsModel" "size" "I", .fieldLink RX6 7 "SkiShotsModel" "tape" "[I", .constant RX6 161 (99999), .methodLink RX6 147 yX6_isSmall, .instanceMethod yX6_isSmall, .selects RX6 yX6_isSmall yX6_isSmall, .code yX6_isSmall cX6_isSmall 2 (some .boolean), .methodLink RX6 151 yX6_wordAt, .instanceMethod yX6_wordAt, .selects RX6 yX6_wordAt yX6_wordAt, .code yX6_wordAt cX6_wordAt 8 (some .int), .fieldLink RX6 102 "SkiShotsModel" "words" "[I", .methodLink RX6 175 yX6_word, .instanceMethod yX6_word, .selects RX6 yX6_word yX6_word, .code yX6_word cX6_word 2 (some .boolean), .methodLink RX6 184 yX6_starts, .instanceMethod yX6_starts, .selects RX6 yX6_starts yX6_starts, .code yX6_starts cX6_starts 3 (some .boolean), .fieldLink RX6 32 "SkiShotsModel" "startHow" "[I", .fieldLink RX6 35 "SkiShotsModel" "startNumber" "[I", .methodLink RX6 172 yX6_number, .instanceMethod yX6_number, .selects RX6 yX6_number yX6_number, .code yX6_number cX6_number 3 (some .boolean), .fieldLink RX6 25 "SkiShotsModel" "isLoop" "[Z", .fieldLink RX6 22 "SkiShotsModel" "spares" "[I", .fieldLink RX6 13 "SkiShotsModel" "laps" "[I", .methodLink RX6 181 yX6_shots, .instanceMethod yX6_shots, .selects RX6 yX6_shots yX6_shots, .code yX6_shots cX6_shots 4 (some .boolean), .fieldLink RX6 16 "SkiShotsModel" "shootMany" "[I", .fieldLink RX6 19 "SkiShotsModel" "shoot" "[I"] ++ wsX60)
set_option maxRecDepth 20000 in
theorem gc_X6_format_X6_sign_2 : GoodIn w3X6_format (wsV RX6 178 RX6 yX6_sign w3X6_sign) := goodIn_p _ [7, 13, 20, 25, 32, 36] rfl (by decide +kernel)
set_option maxRecDepth 20000 in
theorem gc_X6_format_X6_word_15 : GoodIn w3X6_format (wsV RX6 175 RX6 yX6_word w3X6_word) := goodIn_p _ [41, 13, 20, 25, 32, 36] rfl (by decide +kernel)
set_option maxRecDepth 20000 in
theorem gc_X6_format_X6_starts_28 : GoodIn w3X6_format (wsV RX6 184 RX6 yX6_starts w3X6_starts) := goodIn_p _ [45, 20, 25, 32, 36, 51, 13] rfl (by decide +kernel)
set_option maxRecDepth 20000 in
theorem gc_X6_format_X6_sign_41 : GoodIn w3X6_format (wsV RX6 178 RX6 yX6_sign w3X6_sign) := goodIn_p _ [7, 13, 20, 25, 32, 36] rfl (by decide +kernel)
set_option maxRecDepth 20000 in
theorem gc_X6_format_X6_sign_54 : GoodIn w3X6_format (wsV RX6 178 RX6 yX6_sign w3X6_sign) := goodIn_p _ [7, 13, 20, 25, 32, 36] rfl (by decide +kernel)
set_option maxRecDepth 20000 in
theorem gc_X6_format_X6_take_71 : GoodIn w3X6_format (wsV RX6 166 RX6 yX6_take w3X6_take) := goodIn_p _ [20, 25, 32, 36] rfl (by decide +kernel)
set_option maxRecDepth 20000 in
theorem gc_X6_format_X6_number_80 : GoodIn w3X6_format (wsV RX6 172 RX6 yX6_number w3X6_number) := goodIn_p _ [51, 13, 20, 25, 32, 36] rfl (by decide +kernel)
set_option maxRecDepth 20000 in
theorem gc_X6_format_X6_take_96 : GoodIn w3X6_format (wsV RX6 166 RX6 yX6_take w3X6_take) := goodIn_p _ [20, 25, 32, 36] rfl (by decide +kernel)
set_option maxRecDepth 20000 in
theorem gc_X6_format_X6_number_105 : GoodIn w3X6_format (wsV RX6 172 RX6 yX6_number w3X6_number) := goodIn_p _ [51, 13, 20, 25, 32, 36] rfl (by decide +kernel)
set_option maxRecDepth 20000 in
theorem gc_X6_format_X6_sign_121 : GoodIn w3X6_format (wsV RX6 178 RX6 yX6_sign w3X6_sign) := goodIn_p _ [7, 13, 20, 25, 32, 36] rfl (by decide +kernel)
set_option maxRecDepth 20000 in
theorem gc_X6_format_X6_word_134 : GoodIn w3X6_format (wsV RX6 175 RX6 yX6_word w3X6_word) := goodIn_p _ [41, 13, 20, 25, 32, 36] rfl (by decide +kernel)
set_option maxRecDepth 20000 in
theorem gc_X6_format_X6_wrong_148 : GoodIn w3X6_format (wsV RX6 162 RX6 yX6_wrong w3X6_wrong) := goodIn_p _ [13] rfl (by decide +kernel)
set_option maxRecDepth 20000 in
theorem gc_X6_format_X6_wrong_164 : GoodIn w3X6_format (wsV RX6 162 RX6 yX6_wrong w3X6_wrong) := goodIn_p _ [13] rfl (by decide +kernel)
set_option maxRecDepth 20000 in
theorem gc_X6_format_X6_sign_178 : GoodIn w3X6_format (wsV RX6 178 RX6 yX6_sign w3X6_sign) := goodIn_p _ [7, 13, 20, 25, 32, 36] rfl (by decide +kernel)
set_option maxRecDepth 20000 in
theorem gc_X6_format_X6_word_191 : GoodIn w3X6_format (wsV RX6 175 RX6 yX6_word w3X6_word) := goodIn_p _ [41, 13, 20, 25, 32, 36] rfl (by decide +kernel)
set_option maxRecDepth 20000 in
theorem gc_X6_format_X6_shots_204 : GoodIn w3X6_format (wsV RX6 181 RX6 yX6_shots w3X6_shots) := goodIn_p _ [58, 13, 20, 25, 32, 36] rfl (by decide +kernel)
set_option maxRecDepth 20000 in
theorem gc_X6_format_X6_sign_217 : GoodIn w3X6_format (wsV RX6 178 RX6 yX6_sign w3X6_sign) := goodIn_p _ [7, 13, 20, 25, 32, 36] rfl (by decide +kernel)
set_option maxRecDepth 20000 in
theorem gc_X6_format_X6_word_230 : GoodIn w3X6_format (wsV RX6 175 RX6 yX6_word w3X6_word) := goodIn_p _ [41, 13, 20, 25, 32, 36] rfl (by decide +kernel)
set_option maxRecDepth 20000 in
theorem gc_X6_format_X6_number_243 : GoodIn w3X6_format (wsV RX6 172 RX6 yX6_number w3X6_number) := goodIn_p _ [51, 13, 20, 25, 32, 36] rfl (by decide +kernel)
set_option maxRecDepth 20000 in
theorem gc_X6_format_X6_take_258 : GoodIn w3X6_format (wsV RX6 166 RX6 yX6_take w3X6_take) := goodIn_p _ [20, 25, 32, 36] rfl (by decide +kernel)
set_option maxRecDepth 20000 in
theorem gc_X6_format_X6_sign_267 : GoodIn w3X6_format (wsV RX6 178 RX6 yX6_sign w3X6_sign) := goodIn_p _ [7, 13, 20, 25, 32, 36] rfl (by decide +kernel)
set_option maxRecDepth 20000 in
theorem gc_X6_format_X6_word_280 : GoodIn w3X6_format (wsV RX6 175 RX6 yX6_word w3X6_word) := goodIn_p _ [41, 13, 20, 25, 32, 36] rfl (by decide +kernel)
set_option maxRecDepth 20000 in
theorem gc_X6_format_X6_number_293 : GoodIn w3X6_format (wsV RX6 172 RX6 yX6_number w3X6_number) := goodIn_p _ [51, 13, 20, 25, 32, 36] rfl (by decide +kernel)
set_option maxRecDepth 20000 in
theorem gc_X6_format_X6_word_308 : GoodIn w3X6_format (wsV RX6 175 RX6 yX6_word w3X6_word) := goodIn_p _ [41, 13, 20, 25, 32, 36] rfl (by decide +kernel)
set_option maxRecDepth 20000 in
theorem gc_X6_format_X6_wrong_325 : GoodIn w3X6_format (wsV RX6 162 RX6 yX6_wrong w3X6_wrong) := goodIn_p _ [13] rfl (by decide +kernel)
set_option maxRecDepth 20000 in
theorem gc_X6_format_X6_wrong_337 : GoodIn w3X6_format (wsV RX6 162 RX6 yX6_wrong w3X6_wrong) := goodIn_p _ [13] rfl (by decide +kernel)
set_option maxHeartbeats 4000000 in
set_option maxRecDepth 100000 in
theorem g3_X6_format (l : Launch) (D : va_G) (h0 : Nat) (q : Nat → Nat) (cq : Nat → ClassId) (F : Nat → Int32) (G : Nat → Nat → Int32) (sz : Nat)  (hI : mI F G) (hns : (F 40).toInt ≤ (F 39).toInt) (hk2 : ¬ (F 41).toInt = 2 ∨ (65 ≤ (F 42).toInt ∧ (F 42).toInt ≤ 72)) (hI8 : mI8 G) : Met l yX6_format w3X6_format ({ frames := 4, cells := 0, slots := 0, locals := 91 }) (mPre D h0 q cq F G sz [.ref h0]) (mQi D h0 q cq F G sz [13, 14, 40, 41, 42, 43, 44] [5, 6, 7, 8, 9, 10, 11, 12] (fun r F' G' => (F' 40).toInt ≤ (F 39).toInt ∧ (F 40).toInt + r.toInt ≤ (F' 40).toInt ∧ (¬ (F' 41).toInt = 2 ∨ (65 ≤ (F' 42).toInt ∧ (F' 42).toInt ≤ 72)) ∧ (r.toInt = 0 ∨ r.toInt = 1) ∧ mJ G G' ∧ (r.toInt = 0 ∨ mI8 G'))) 0 0 (va_A (mW h0 q cq F G) sz) := by
  refine mr_met (WF := [13, 14, 40, 41, 42, 43, 44]) (WG := [5, 6, 7, 8, 9, 10, 11, 12]) (cc := cX6_format) (maxL := 2) (ret := (some .boolean)) (by decide) rfl rfl (by decide +kernel) (Nat.le_of_ble_eq_true rfl) hI ?_
  intro p e s m args below meth c ls E hml hr hlk hsz hA hM hl
  have hx := E.1
  have hb := E.2.1
  have hts := E.2.2.1
  have hown := E.2.2.2.2.1
  have hl : lv_has ls 2 [(0, .ref h0)] := hl
  have B_256 : ∀ (H : Heap) (locs : List Loc) (ls : Array Slot) (Fc_256 : Nat → Int32) (Gc_256 : Nat → Nat → Int32) (ff : Int32), (8 ≤ ff.toInt ∧ ff.toInt ≤ 15) → (Fc_256 40).toInt ≤ (F 39).toInt → (F 40).toInt < (Fc_256 40).toInt → ¬ (Fc_256 41).toInt = 2 ∨ (65 ≤ (Fc_256 42).toInt ∧ (Fc_256 42).toInt ≤ 72) → mJ G Gc_256 → mI8x Gc_256 (Int32.toNatClampNeg ff) → mQ D h0 q cq (va_A (mW h0 q cq F G) sz) s.heap [13, 14, 40, 41, 42, 43, 44] [5, 6, 7, 8, 9, 10, 11, 12] F G H locs Fc_256 Gc_256 → lv_has ls 2 [(0, .ref h0), (1, .int ff)] → W p l e ({ frames := 4, cells := 0, slots := 0, locals := 91 }) s m args below meth c H locs 0 0 (MQ below (mQi D h0 q cq F G sz [13, 14, 40, 41, 42, 43, 44] [5, 6, 7, 8, 9, 10, 11, 12] (fun r F' G' => (F' 40).toInt ≤ (F 39).toInt ∧ (F 40).toInt + r.toInt ≤ (F' 40).toInt ∧ (¬ (F' 41).toInt = 2 ∨ (65 ≤ (F' 42).toInt ∧ (F' 42).toInt ≤ 72)) ∧ (r.toInt = 0 ∨ r.toInt = 1) ∧ mJ G G' ∧ (r.toInt = 0 ∨ mI8 G'))) args s 0 0 (va_A (mW h0 q cq F G) sz)) (F0 m 256 ls []) := by
    intro H locs ls Fc_256 Gc_256 ff f256_0 f256_1 f256_2 f256_3 f256_4 f256_5 hM hl
    have hfr_256 := hM.fr
    refine lv_aload_n hx hb dX6_format_256 rfl (lv_at hl 0 rfl) ?_
    refine mr_get (v := .ref (q 10)) E hM 10 (by decide) (index := 29) (mm_at 1 rfl) rfl rfl dX6_format_257 ?_
    refine lv_iload_n hx hb dX6_format_260 rfl (lv_at hl 1 rfl) ?_
    refine lv_aload_n hx hb dX6_format_261 rfl (lv_at hl 0 rfl) ?_
    refine mr_get (v := .int (Fc_256 44)) E hM 44 (by decide) (index := 169) (mm_at 2 rfl) rfl rfl dX6_format_262 ?_
    refine mr_ast (X := ff.toInt) E hM 10 7 6 rfl rfl rfl (by omega) mg_10 (by decide) (mm_nbA rfl) (by decide) dX6_format_265 (fun H locs G_1 eG_1 hM => ?_)
    refine lv_aload_n hx hb dX6_format_266 rfl (lv_at hl 0 rfl) ?_
    refine lv_bipush (v := 59) hx hb dX6_format_267 (by decide) ?_
    have b_3 : 0 ≤ (Fc_256 39).toInt ∧ (Fc_256 39).toInt ≤ 1000 := hM.fb 39 rfl
    have e_4 : (Fc_256 39).toInt = (F 39).toInt := (congrArg Int32.toInt (hfr_256.1 39 (by decide))).trans rfl
    have b_5 : 0 ≤ (Fc_256 40).toInt ∧ (Fc_256 40).toInt ≤ 1000 := hM.fb 40 rfl
    have b_6 : 0 ≤ (Fc_256 41).toInt ∧ (Fc_256 41).toInt ≤ 5 := hM.fb 41 rfl
    refine mr_calli (av := [.int 59]) (rest := []) E hA hml hM (g3_X6_sign l D h0 q cq Fc_256 G_1 _ 59 hM.2.2.2.1 (show (Fc_256 40).toInt ≤ (Fc_256 39).toInt from by have n_0 := num_59; omega) (show ¬ (Fc_256 41).toInt = 2 ∨ (65 ≤ (Fc_256 42).toInt ∧ (Fc_256 42).toInt ≤ 72) from by have n_0 := num_59; omega)) (cwV 1 hts gc_X6_format_X6_sign_2 rfl rfl rfl (by decide +kernel) ⟨Nat.le_of_ble_eq_true rfl, Nat.le_of_ble_eq_true rfl⟩) rfl hl.1 rfl (Nat.le_of_ble_eq_true rfl) dX6_format_269 ⟨Nat.le_of_ble_eq_true rfl, Nat.le_of_ble_eq_true rfl⟩ (by decide) (by decide) (fun r_7 F_9 G_10 H locs fr_11 p_8 hM => ?_)
    replace p_8 : (F_9 40).toInt ≤ (Fc_256 39).toInt ∧ (Fc_256 40).toInt ≤ (F_9 40).toInt ∧ (¬ (F_9 41).toInt = 2 ∨ (65 ≤ (F_9 42).toInt ∧ (F_9 42).toInt ≤ 72)) := p_8
    refine mm_if_eq (X := r_7.toInt) (tgt := 314) hx hb dX6_format_272 (by decide) rfl (fun c_12 => ?_) (fun c_12 => ?_)
    · refine lv_iconst (v := 0) hx hb dX6_format_314 (by decide) ?_
      have b_13 : 0 ≤ (F_9 40).toInt ∧ (F_9 40).toInt ≤ 1000 := hM.fb 40 rfl
      have b_14 : 0 ≤ (F_9 41).toInt ∧ (F_9 41).toInt ≤ 5 := hM.fb 41 rfl
      exact mr_rz (X := 0) E hr hlk hsz hM num_0 (by omega) (show (F_9 40).toInt ≤ (F 39).toInt ∧ (F 40).toInt + (0 : Int32).toInt ≤ (F_9 40).toInt ∧ (¬ (F_9 41).toInt = 2 ∨ (65 ≤ (F_9 42).toInt ∧ (F_9 42).toInt ≤ 72)) ∧ ((0 : Int32).toInt = 0 ∨ (0 : Int32).toInt = 1) ∧ mJ G G_10 ∧ ((0 : Int32).toInt = 0 ∨ mI8 G_10) from by have n9 := num_0; exact ⟨by omega, by omega, by omega, by omega, mJ.tr f256_4 ((fr_11.2 5 (by decide)).trans ((show G_1 5 = Gc_256 5 from by rw [eG_1]; rfl).trans rfl)) ((fr_11.2 11 (by decide)).trans ((show G_1 11 = Gc_256 11 from by rw [eG_1]; rfl).trans rfl)), Or.inl (by omega)⟩) dX6_format_315
    · refine lv_aload_n hx hb dX6_format_275 rfl (lv_at hl 0 rfl) ?_
      refine lv_bipush (v := 8) hx hb dX6_format_276 (by decide) ?_
      have b_16 : 0 ≤ (F_9 39).toInt ∧ (F_9 39).toInt ≤ 1000 := hM.fb 39 rfl
      have e_17 : (F_9 39).toInt = (Fc_256 39).toInt := (congrArg Int32.toInt (fr_11.1 39 (by decide))).trans rfl
      have b_18 : 0 ≤ (F_9 40).toInt ∧ (F_9 40).toInt ≤ 1000 := hM.fb 40 rfl
      have b_19 : 0 ≤ (F_9 41).toInt ∧ (F_9 41).toInt ≤ 5 := hM.fb 41 rfl
      refine mr_calli (av := [.int 8]) (rest := []) E hA hml hM (g3_X6_word l D h0 q cq F_9 G_10 _ 8 hM.2.2.2.1 (show (F_9 40).toInt ≤ (F_9 39).toInt from by have n_0 := num_8; omega) (show ¬ (F_9 41).toInt = 2 ∨ (65 ≤ (F_9 42).toInt ∧ (F_9 42).toInt ≤ 72) from by have n_0 := num_8; omega)) (cwV 1 hts gc_X6_format_X6_word_15 rfl rfl rfl (by decide +kernel) ⟨Nat.le_of_ble_eq_true rfl, Nat.le_of_ble_eq_true rfl⟩) rfl hl.1 rfl (Nat.le_of_ble_eq_true rfl) dX6_format_278 ⟨Nat.le_of_ble_eq_true rfl, Nat.le_of_ble_eq_true rfl⟩ (by decide) (by decide) (fun r_20 F_22 G_23 H locs fr_24 p_21 hM => ?_)
      replace p_21 : (F_22 40).toInt ≤ (F_9 39).toInt ∧ (F_9 40).toInt ≤ (F_22 40).toInt ∧ (¬ (F_22 41).toInt = 2 ∨ (65 ≤ (F_22 42).toInt ∧ (F_22 42).toInt ≤ 72)) ∧ (r_20.toInt = 0 ∨ (r_20.toInt = 1 ∧ ((F_22 41).toInt = 0 ∨ (F_9 40).toInt < (F_22 40).toInt))) := p_21
      refine mm_if_eq (X := r_20.toInt) (tgt := 314) hx hb dX6_format_281 (by decide) rfl (fun c_25 => ?_) (fun c_25 => ?_)
      · refine lv_iconst (v := 0) hx hb dX6_format_314 (by decide) ?_
        have b_26 : 0 ≤ (F_22 40).toInt ∧ (F_22 40).toInt ≤ 1000 := hM.fb 40 rfl
        have b_27 : 0 ≤ (F_22 41).toInt ∧ (F_22 41).toInt ≤ 5 := hM.fb 41 rfl
        exact mr_rz (X := 0) E hr hlk hsz hM num_0 (by omega) (show (F_22 40).toInt ≤ (F 39).toInt ∧ (F 40).toInt + (0 : Int32).toInt ≤ (F_22 40).toInt ∧ (¬ (F_22 41).toInt = 2 ∨ (65 ≤ (F_22 42).toInt ∧ (F_22 42).toInt ≤ 72)) ∧ ((0 : Int32).toInt = 0 ∨ (0 : Int32).toInt = 1) ∧ mJ G G_23 ∧ ((0 : Int32).toInt = 0 ∨ mI8 G_23) from by have n9 := num_0; exact ⟨by omega, by omega, by omega, by omega, mJ.tr f256_4 ((fr_24.2 5 (by decide)).trans ((fr_11.2 5 (by decide)).trans ((show G_1 5 = Gc_256 5 from by rw [eG_1]; rfl).trans rfl))) ((fr_24.2 11 (by decide)).trans ((fr_11.2 11 (by decide)).trans ((show G_1 11 = Gc_256 11 from by rw [eG_1]; rfl).trans rfl))), Or.inl (by omega)⟩) dX6_format_315
      · refine lv_aload_n hx hb dX6_format_284 rfl (lv_at hl 0 rfl) ?_
        refine lv_iload_n hx hb dX6_format_285 rfl (lv_at hl 1 rfl) ?_
        have b_29 : 0 ≤ (F_22 39).toInt ∧ (F_22 39).toInt ≤ 1000 := hM.fb 39 rfl
        have e_30 : (F_22 39).toInt = (F_9 39).toInt := (congrArg Int32.toInt (fr_24.1 39 (by decide))).trans rfl
        have b_31 : 0 ≤ (F_22 40).toInt ∧ (F_22 40).toInt ≤ 1000 := hM.fb 40 rfl
        have b_32 : 0 ≤ (F_22 41).toInt ∧ (F_22 41).toInt ≤ 5 := hM.fb 41 rfl
        refine mr_calli (av := [.int ff]) (rest := []) E hA hml hM (g3_X6_starts l D h0 q cq F_22 G_23 _ ff hM.2.2.2.1 (show 8 ≤ ff.toInt ∧ ff.toInt < 16 from by omega) (show (F_22 40).toInt ≤ (F_22 39).toInt from by omega) (show ¬ (F_22 41).toInt = 2 ∨ (65 ≤ (F_22 42).toInt ∧ (F_22 42).toInt ≤ 72) from by omega)) (cwV 1 hts gc_X6_format_X6_starts_28 rfl rfl rfl (by decide +kernel) ⟨Nat.le_of_ble_eq_true rfl, Nat.le_of_ble_eq_true rfl⟩) rfl hl.1 rfl (Nat.le_of_ble_eq_true rfl) dX6_format_286 ⟨Nat.le_of_ble_eq_true rfl, Nat.le_of_ble_eq_true rfl⟩ (by decide) (by decide) (fun r_33 F_35 G_36 H locs fr_37 p_34 hM => ?_)
        replace p_34 : (F_35 40).toInt ≤ (F_22 39).toInt ∧ (F_22 40).toInt ≤ (F_35 40).toInt ∧ (¬ (F_35 41).toInt = 2 ∨ (65 ≤ (F_35 42).toInt ∧ (F_35 42).toInt ≤ 72)) ∧ (r_33.toInt = 0 ∨ mHow (G_36 11 (Int32.toNatClampNeg ff))) ∧ (∀ j : Nat, ¬ j = Int32.toNatClampNeg ff → G_36 11 j = G_23 11 j) := p_34
        refine mm_if_eq (X := r_33.toInt) (tgt := 314) hx hb dX6_format_289 (by decide) rfl (fun c_38 => ?_) (fun c_38 => ?_)
        · refine lv_iconst (v := 0) hx hb dX6_format_314 (by decide) ?_
          have b_39 : 0 ≤ (F_35 40).toInt ∧ (F_35 40).toInt ≤ 1000 := hM.fb 40 rfl
          have b_40 : 0 ≤ (F_35 41).toInt ∧ (F_35 41).toInt ≤ 5 := hM.fb 41 rfl
          exact mr_rz (X := 0) E hr hlk hsz hM num_0 (by omega) (show (F_35 40).toInt ≤ (F 39).toInt ∧ (F 40).toInt + (0 : Int32).toInt ≤ (F_35 40).toInt ∧ (¬ (F_35 41).toInt = 2 ∨ (65 ≤ (F_35 42).toInt ∧ (F_35 42).toInt ≤ 72)) ∧ ((0 : Int32).toInt = 0 ∨ (0 : Int32).toInt = 1) ∧ mJ G G_36 ∧ ((0 : Int32).toInt = 0 ∨ mI8 G_36) from by have n9 := num_0; exact ⟨by omega, by omega, by omega, by omega, mJ.how f256_4 ((fr_37.2 5 (by decide)).trans ((fr_24.2 5 (by decide)).trans ((fr_11.2 5 (by decide)).trans ((show G_1 5 = Gc_256 5 from by rw [eG_1]; rfl).trans rfl)))) (fun j hj => ((congrFun rfl j).trans (p_34.2.2.2.2 j hj)).trans (congrFun ((fr_24.2 11 (by decide)).trans ((fr_11.2 11 (by decide)).trans ((show G_1 11 = Gc_256 11 from by rw [eG_1]; rfl).trans rfl))) j)) (by rw [mm_nat]; omega), Or.inl (by omega)⟩) dX6_format_315
        · refine lv_aload_n hx hb dX6_format_292 rfl (lv_at hl 0 rfl) ?_
          refine lv_bipush (v := 59) hx hb dX6_format_293 (by decide) ?_
          have b_42 : 0 ≤ (F_35 39).toInt ∧ (F_35 39).toInt ≤ 1000 := hM.fb 39 rfl
          have e_43 : (F_35 39).toInt = (F_22 39).toInt := (congrArg Int32.toInt (fr_37.1 39 (by decide))).trans rfl
          have b_44 : 0 ≤ (F_35 40).toInt ∧ (F_35 40).toInt ≤ 1000 := hM.fb 40 rfl
          have b_45 : 0 ≤ (F_35 41).toInt ∧ (F_35 41).toInt ≤ 5 := hM.fb 41 rfl
          refine mr_calli (av := [.int 59]) (rest := []) E hA hml hM (g3_X6_sign l D h0 q cq F_35 G_36 _ 59 hM.2.2.2.1 (show (F_35 40).toInt ≤ (F_35 39).toInt from by have n_0 := num_59; omega) (show ¬ (F_35 41).toInt = 2 ∨ (65 ≤ (F_35 42).toInt ∧ (F_35 42).toInt ≤ 72) from by have n_0 := num_59; omega)) (cwV 1 hts gc_X6_format_X6_sign_41 rfl rfl rfl (by decide +kernel) ⟨Nat.le_of_ble_eq_true rfl, Nat.le_of_ble_eq_true rfl⟩) rfl hl.1 rfl (Nat.le_of_ble_eq_true rfl) dX6_format_295 ⟨Nat.le_of_ble_eq_true rfl, Nat.le_of_ble_eq_true rfl⟩ (by decide) (by decide) (fun r_46 F_48 G_49 H locs fr_50 p_47 hM => ?_)
          replace p_47 : (F_48 40).toInt ≤ (F_35 39).toInt ∧ (F_35 40).toInt ≤ (F_48 40).toInt ∧ (¬ (F_48 41).toInt = 2 ∨ (65 ≤ (F_48 42).toInt ∧ (F_48 42).toInt ≤ 72)) := p_47
          refine mm_if_eq (X := r_46.toInt) (tgt := 314) hx hb dX6_format_298 (by decide) rfl (fun c_51 => ?_) (fun c_51 => ?_)
          · refine lv_iconst (v := 0) hx hb dX6_format_314 (by decide) ?_
            have b_52 : 0 ≤ (F_48 40).toInt ∧ (F_48 40).toInt ≤ 1000 := hM.fb 40 rfl
            have b_53 : 0 ≤ (F_48 41).toInt ∧ (F_48 41).toInt ≤ 5 := hM.fb 41 rfl
            exact mr_rz (X := 0) E hr hlk hsz hM num_0 (by omega) (show (F_48 40).toInt ≤ (F 39).toInt ∧ (F 40).toInt + (0 : Int32).toInt ≤ (F_48 40).toInt ∧ (¬ (F_48 41).toInt = 2 ∨ (65 ≤ (F_48 42).toInt ∧ (F_48 42).toInt ≤ 72)) ∧ ((0 : Int32).toInt = 0 ∨ (0 : Int32).toInt = 1) ∧ mJ G G_49 ∧ ((0 : Int32).toInt = 0 ∨ mI8 G_49) from by have n9 := num_0; exact ⟨by omega, by omega, by omega, by omega, mJ.how f256_4 ((fr_50.2 5 (by decide)).trans ((fr_37.2 5 (by decide)).trans ((fr_24.2 5 (by decide)).trans ((fr_11.2 5 (by decide)).trans ((show G_1 5 = Gc_256 5 from by rw [eG_1]; rfl).trans rfl))))) (fun j hj => ((congrFun ((fr_50.2 11 (by decide)).trans rfl) j).trans (p_34.2.2.2.2 j hj)).trans (congrFun ((fr_24.2 11 (by decide)).trans ((fr_11.2 11 (by decide)).trans ((show G_1 11 = Gc_256 11 from by rw [eG_1]; rfl).trans rfl))) j)) (by rw [mm_nat]; omega), Or.inl (by omega)⟩) dX6_format_315
          · refine lv_aload_n hx hb dX6_format_301 rfl (lv_at hl 0 rfl) ?_
            refine lv_bipush (v := 125) hx hb dX6_format_302 (by decide) ?_
            have b_55 : 0 ≤ (F_48 39).toInt ∧ (F_48 39).toInt ≤ 1000 := hM.fb 39 rfl
            have e_56 : (F_48 39).toInt = (F_35 39).toInt := (congrArg Int32.toInt (fr_50.1 39 (by decide))).trans rfl
            have b_57 : 0 ≤ (F_48 40).toInt ∧ (F_48 40).toInt ≤ 1000 := hM.fb 40 rfl
            have b_58 : 0 ≤ (F_48 41).toInt ∧ (F_48 41).toInt ≤ 5 := hM.fb 41 rfl
            refine mr_calli (av := [.int 125]) (rest := []) E hA hml hM (g3_X6_sign l D h0 q cq F_48 G_49 _ 125 hM.2.2.2.1 (show (F_48 40).toInt ≤ (F_48 39).toInt from by have n_0 := num_125; omega) (show ¬ (F_48 41).toInt = 2 ∨ (65 ≤ (F_48 42).toInt ∧ (F_48 42).toInt ≤ 72) from by have n_0 := num_125; omega)) (cwV 1 hts gc_X6_format_X6_sign_54 rfl rfl rfl (by decide +kernel) ⟨Nat.le_of_ble_eq_true rfl, Nat.le_of_ble_eq_true rfl⟩) rfl hl.1 rfl (Nat.le_of_ble_eq_true rfl) dX6_format_304 ⟨Nat.le_of_ble_eq_true rfl, Nat.le_of_ble_eq_true rfl⟩ (by decide) (by decide) (fun r_59 F_61 G_62 H locs fr_63 p_60 hM => ?_)
            replace p_60 : (F_61 40).toInt ≤ (F_48 39).toInt ∧ (F_48 40).toInt ≤ (F_61 40).toInt ∧ (¬ (F_61 41).toInt = 2 ∨ (65 ≤ (F_61 42).toInt ∧ (F_61 42).toInt ≤ 72)) := p_60
            refine mm_if_eq (X := r_59.toInt) (tgt := 314) hx hb dX6_format_307 (by decide) rfl (fun c_64 => ?_) (fun c_64 => ?_)
            · refine lv_iconst (v := 0) hx hb dX6_format_314 (by decide) ?_
              have b_65 : 0 ≤ (F_61 40).toInt ∧ (F_61 40).toInt ≤ 1000 := hM.fb 40 rfl
              have b_66 : 0 ≤ (F_61 41).toInt ∧ (F_61 41).toInt ≤ 5 := hM.fb 41 rfl
              exact mr_rz (X := 0) E hr hlk hsz hM num_0 (by omega) (show (F_61 40).toInt ≤ (F 39).toInt ∧ (F 40).toInt + (0 : Int32).toInt ≤ (F_61 40).toInt ∧ (¬ (F_61 41).toInt = 2 ∨ (65 ≤ (F_61 42).toInt ∧ (F_61 42).toInt ≤ 72)) ∧ ((0 : Int32).toInt = 0 ∨ (0 : Int32).toInt = 1) ∧ mJ G G_62 ∧ ((0 : Int32).toInt = 0 ∨ mI8 G_62) from by have n9 := num_0; exact ⟨by omega, by omega, by omega, by omega, mJ.how f256_4 ((fr_63.2 5 (by decide)).trans ((fr_50.2 5 (by decide)).trans ((fr_37.2 5 (by decide)).trans ((fr_24.2 5 (by decide)).trans ((fr_11.2 5 (by decide)).trans ((show G_1 5 = Gc_256 5 from by rw [eG_1]; rfl).trans rfl)))))) (fun j hj => ((congrFun ((fr_63.2 11 (by decide)).trans ((fr_50.2 11 (by decide)).trans rfl)) j).trans (p_34.2.2.2.2 j hj)).trans (congrFun ((fr_24.2 11 (by decide)).trans ((fr_11.2 11 (by decide)).trans ((show G_1 11 = Gc_256 11 from by rw [eG_1]; rfl).trans rfl))) j)) (by rw [mm_nat]; omega), Or.inl (by omega)⟩) dX6_format_315
            · refine lv_iconst (v := 1) hx hb dX6_format_310 (by decide) ?_
              refine lv_goto (tgt := 315) hx hb dX6_format_311 (by decide) ?_
              have b_67 : 0 ≤ (F_61 40).toInt ∧ (F_61 40).toInt ≤ 1000 := hM.fb 40 rfl
              have b_68 : 0 ≤ (F_61 41).toInt ∧ (F_61 41).toInt ≤ 5 := hM.fb 41 rfl
              exact mr_rz (X := 1) E hr hlk hsz hM num_1 (by omega) (show (F_61 40).toInt ≤ (F 39).toInt ∧ (F 40).toInt + (1 : Int32).toInt ≤ (F_61 40).toInt ∧ (¬ (F_61 41).toInt = 2 ∨ (65 ≤ (F_61 42).toInt ∧ (F_61 42).toInt ≤ 72)) ∧ ((1 : Int32).toInt = 0 ∨ (1 : Int32).toInt = 1) ∧ mJ G G_62 ∧ ((1 : Int32).toInt = 0 ∨ mI8 G_62) from by have n9 := num_1; exact ⟨by omega, by omega, by omega, by omega, mJ.how f256_4 ((fr_63.2 5 (by decide)).trans ((fr_50.2 5 (by decide)).trans ((fr_37.2 5 (by decide)).trans ((fr_24.2 5 (by decide)).trans ((fr_11.2 5 (by decide)).trans ((show G_1 5 = Gc_256 5 from by rw [eG_1]; rfl).trans rfl)))))) (fun j hj => ((congrFun ((fr_63.2 11 (by decide)).trans ((fr_50.2 11 (by decide)).trans rfl)) j).trans (p_34.2.2.2.2 j hj)).trans (congrFun ((fr_24.2 11 (by decide)).trans ((fr_11.2 11 (by decide)).trans ((show G_1 11 = Gc_256 11 from by rw [eG_1]; rfl).trans rfl))) j)) (by rw [mm_nat]; omega), Or.inr (mI8.how f256_5 ((fr_63.2 5 (by decide)).trans ((fr_50.2 5 (by decide)).trans ((fr_37.2 5 (by decide)).trans ((fr_24.2 5 (by decide)).trans ((fr_11.2 5 (by decide)).trans ((show G_1 5 = Gc_256 5 from by rw [eG_1]; rfl).trans rfl)))))) (fun j hj => ((congrFun ((fr_63.2 11 (by decide)).trans ((fr_50.2 11 (by decide)).trans rfl)) j).trans (p_34.2.2.2.2 j hj)).trans (congrFun ((fr_24.2 11 (by decide)).trans ((fr_11.2 11 (by decide)).trans ((show G_1 11 = Gc_256 11 from by rw [eG_1]; rfl).trans rfl))) j)) (by rw [((fr_63.2 11 (by decide)).trans ((fr_50.2 11 (by decide)).trans rfl))]; exact p_34.2.2.2.1.resolve_left (by omega)))⟩) dX6_format_315
  have B_219 : ∀ (H : Heap) (locs : List Loc) (ls : Array Slot) (Fc_219 : Nat → Int32) (Gc_219 : Nat → Nat → Int32) (ff : Int32), (8 ≤ ff.toInt ∧ ff.toInt ≤ 15) → (Fc_219 40).toInt ≤ (F 39).toInt → (F 40).toInt < (Fc_219 40).toInt → ¬ (Fc_219 41).toInt = 2 ∨ (65 ≤ (Fc_219 42).toInt ∧ (Fc_219 42).toInt ≤ 72) → mJ G Gc_219 → mI8x Gc_219 (Int32.toNatClampNeg ff) → mQ D h0 q cq (va_A (mW h0 q cq F G) sz) s.heap [13, 14, 40, 41, 42, 43, 44] [5, 6, 7, 8, 9, 10, 11, 12] F G H locs Fc_219 Gc_219 → lv_has ls 2 [(0, .ref h0), (1, .int ff)] → W p l e ({ frames := 4, cells := 0, slots := 0, locals := 91 }) s m args below meth c H locs 0 0 (MQ below (mQi D h0 q cq F G sz [13, 14, 40, 41, 42, 43, 44] [5, 6, 7, 8, 9, 10, 11, 12] (fun r F' G' => (F' 40).toInt ≤ (F 39).toInt ∧ (F 40).toInt + r.toInt ≤ (F' 40).toInt ∧ (¬ (F' 41).toInt = 2 ∨ (65 ≤ (F' 42).toInt ∧ (F' 42).toInt ≤ 72)) ∧ (r.toInt = 0 ∨ r.toInt = 1) ∧ mJ G G' ∧ (r.toInt = 0 ∨ mI8 G'))) args s 0 0 (va_A (mW h0 q cq F G) sz)) (F0 m 219 ls []) := by
    intro H locs ls Fc_219 Gc_219 ff f219_0 f219_1 f219_2 f219_3 f219_4 f219_5 hM hl
    have hfr_219 := hM.fr
    refine lv_aload_n hx hb dX6_format_219 rfl (lv_at hl 0 rfl) ?_
    refine mr_get (v := .ref (q 9)) E hM 9 (by decide) (index := 25) (mm_at 52 rfl) rfl rfl dX6_format_220 ?_
    refine lv_iload_n hx hb dX6_format_223 rfl (lv_at hl 1 rfl) ?_
    refine lv_aload_n hx hb dX6_format_224 rfl (lv_at hl 0 rfl) ?_
    refine mr_get (v := .int (Fc_219 42)) E hM 42 (by decide) (index := 155) (mm_at 16 rfl) rfl rfl dX6_format_225 ?_
    refine lv_bipush (v := 6) hx hb dX6_format_228 (by decide) ?_
    refine mm_icmp_ne (X := (Fc_219 42).toInt) (Y := 6) (tgt := 237) hx hb dX6_format_230 (by decide) rfl num_6 (fun c_69 => ?_) (fun c_69 => ?_)
    · refine lv_iconst (v := 0) hx hb dX6_format_237 (by decide) ?_
      refine mr_zst (X := ff.toInt) E hM 9 6 5 rfl rfl rfl (by omega) mg_9 (by decide) rfl (by decide) dX6_format_238 (fun H locs G_70 eG_70 hM => ?_)
      refine lv_aload_n hx hb dX6_format_239 rfl (lv_at hl 0 rfl) ?_
      have b_72 : 0 ≤ (Fc_219 39).toInt ∧ (Fc_219 39).toInt ≤ 1000 := hM.fb 39 rfl
      have e_73 : (Fc_219 39).toInt = (F 39).toInt := (congrArg Int32.toInt (hfr_219.1 39 (by decide))).trans rfl
      have b_74 : 0 ≤ (Fc_219 40).toInt ∧ (Fc_219 40).toInt ≤ 1000 := hM.fb 40 rfl
      refine mr_callv (av := []) (rest := []) E hA hml hM (g3_X6_take l D h0 q cq Fc_219 G_70 _  hM.2.2.2.1 (show (Fc_219 40).toInt ≤ (Fc_219 39).toInt from by omega)) (cwV 0 hts gc_X6_format_X6_take_71 rfl rfl rfl (by decide +kernel) ⟨Nat.le_of_ble_eq_true rfl, Nat.le_of_ble_eq_true rfl⟩) rfl hl.1 rfl (Nat.le_of_ble_eq_true rfl) dX6_format_240 ⟨Nat.le_of_ble_eq_true rfl, Nat.le_of_ble_eq_true rfl⟩ (by decide) (by decide) (fun F_77 G_78 H locs fr_79 p_76 hM => ?_)
      replace p_76 : (F_77 40).toInt ≤ (Fc_219 39).toInt ∧ (Fc_219 40).toInt ≤ (F_77 40).toInt ∧ ((F_77 41).toInt = 0 ∨ (Fc_219 40).toInt < (F_77 40).toInt) ∧ (¬ (F_77 41).toInt = 2 ∨ (65 ≤ (F_77 42).toInt ∧ (F_77 42).toInt ≤ 72)) := p_76
      refine lv_aload_n hx hb dX6_format_243 rfl (lv_at hl 0 rfl) ?_
      refine lv_iconst (v := 0) hx hb dX6_format_244 (by decide) ?_
      refine lv_sipush (v := 600) hx hb dX6_format_245 (by decide) ?_
      have b_81 : 0 ≤ (F_77 39).toInt ∧ (F_77 39).toInt ≤ 1000 := hM.fb 39 rfl
      have e_82 : (F_77 39).toInt = (Fc_219 39).toInt := (congrArg Int32.toInt (fr_79.1 39 (by decide))).trans rfl
      have b_83 : 0 ≤ (F_77 40).toInt ∧ (F_77 40).toInt ≤ 1000 := hM.fb 40 rfl
      have b_84 : 0 ≤ (F_77 41).toInt ∧ (F_77 41).toInt ≤ 5 := hM.fb 41 rfl
      refine mr_calli (av := [.int 0, .int 600]) (rest := []) E hA hml hM (g3_X6_number l D h0 q cq F_77 G_78 _ 0 600 hM.2.2.2.1 (show (F_77 40).toInt ≤ (F_77 39).toInt from by have n_0 := num_0; have n_1 := num_600; omega) (show ¬ (F_77 41).toInt = 2 ∨ (65 ≤ (F_77 42).toInt ∧ (F_77 42).toInt ≤ 72) from by have n_0 := num_0; have n_1 := num_600; omega)) (cwV 2 hts gc_X6_format_X6_number_80 rfl rfl rfl (by decide +kernel) ⟨Nat.le_of_ble_eq_true rfl, Nat.le_of_ble_eq_true rfl⟩) rfl hl.1 rfl (Nat.le_of_ble_eq_true rfl) dX6_format_248 ⟨Nat.le_of_ble_eq_true rfl, Nat.le_of_ble_eq_true rfl⟩ (by decide) (by decide) (fun r_85 F_87 G_88 H locs fr_89 p_86 hM => ?_)
      replace p_86 : (F_87 40).toInt ≤ (F_77 39).toInt ∧ (F_77 40).toInt ≤ (F_87 40).toInt ∧ (¬ (F_87 41).toInt = 2 ∨ (65 ≤ (F_87 42).toInt ∧ (F_87 42).toInt ≤ 72)) := p_86
      refine mm_if_ne (X := r_85.toInt) (tgt := 256) hx hb dX6_format_251 (by decide) rfl (fun c_90 => ?_) (fun c_90 => ?_)
      · have b_91 : 0 ≤ (F_87 40).toInt ∧ (F_87 40).toInt ≤ 1000 := hM.fb 40 rfl
        have b_92 : 0 ≤ (F_87 41).toInt ∧ (F_87 41).toInt ≤ 5 := hM.fb 41 rfl
        exact B_256 _ _ _ F_87 G_88 ff (show (8 ≤ ff.toInt ∧ ff.toInt ≤ 15) from by omega) (show (F_87 40).toInt ≤ (F 39).toInt from by omega) (show (F 40).toInt < (F_87 40).toInt from by omega) (show ¬ (F_87 41).toInt = 2 ∨ (65 ≤ (F_87 42).toInt ∧ (F_87 42).toInt ≤ 72) from by omega) (show mJ G G_88 from by exact mJ.tr f219_4 ((fr_89.2 5 (by decide)).trans ((fr_79.2 5 (by decide)).trans ((show G_70 5 = Gc_219 5 from by rw [eG_70]; rfl).trans rfl))) ((fr_89.2 11 (by decide)).trans ((fr_79.2 11 (by decide)).trans ((show G_70 11 = Gc_219 11 from by rw [eG_70]; rfl).trans rfl)))) (show mI8x G_88 (Int32.toNatClampNeg ff) from by exact mI8x.tr f219_5 ((fr_89.2 5 (by decide)).trans ((fr_79.2 5 (by decide)).trans ((show G_70 5 = Gc_219 5 from by rw [eG_70]; rfl).trans rfl))) ((fr_89.2 11 (by decide)).trans ((fr_79.2 11 (by decide)).trans ((show G_70 11 = Gc_219 11 from by rw [eG_70]; rfl).trans rfl)))) hM (lv_sub hl [0, 1] rfl)
      · refine lv_iconst (v := 0) hx hb dX6_format_254 (by decide) ?_
        have b_93 : 0 ≤ (F_87 40).toInt ∧ (F_87 40).toInt ≤ 1000 := hM.fb 40 rfl
        have b_94 : 0 ≤ (F_87 41).toInt ∧ (F_87 41).toInt ≤ 5 := hM.fb 41 rfl
        exact mr_rz (X := 0) E hr hlk hsz hM num_0 (by omega) (show (F_87 40).toInt ≤ (F 39).toInt ∧ (F 40).toInt + (0 : Int32).toInt ≤ (F_87 40).toInt ∧ (¬ (F_87 41).toInt = 2 ∨ (65 ≤ (F_87 42).toInt ∧ (F_87 42).toInt ≤ 72)) ∧ ((0 : Int32).toInt = 0 ∨ (0 : Int32).toInt = 1) ∧ mJ G G_88 ∧ ((0 : Int32).toInt = 0 ∨ mI8 G_88) from by have n9 := num_0; exact ⟨by omega, by omega, by omega, by omega, mJ.tr f219_4 ((fr_89.2 5 (by decide)).trans ((fr_79.2 5 (by decide)).trans ((show G_70 5 = Gc_219 5 from by rw [eG_70]; rfl).trans rfl))) ((fr_89.2 11 (by decide)).trans ((fr_79.2 11 (by decide)).trans ((show G_70 11 = Gc_219 11 from by rw [eG_70]; rfl).trans rfl))), Or.inl (by omega)⟩) dX6_format_255
    · refine lv_iconst (v := 1) hx hb dX6_format_233 (by decide) ?_
      refine lv_goto (tgt := 238) hx hb dX6_format_234 (by decide) ?_
      refine mr_zst (X := ff.toInt) E hM 9 6 5 rfl rfl rfl (by omega) mg_9 (by decide) rfl (by decide) dX6_format_238 (fun H locs G_95 eG_95 hM => ?_)
      refine lv_aload_n hx hb dX6_format_239 rfl (lv_at hl 0 rfl) ?_
      have b_97 : 0 ≤ (Fc_219 39).toInt ∧ (Fc_219 39).toInt ≤ 1000 := hM.fb 39 rfl
      have e_98 : (Fc_219 39).toInt = (F 39).toInt := (congrArg Int32.toInt (hfr_219.1 39 (by decide))).trans rfl
      have b_99 : 0 ≤ (Fc_219 40).toInt ∧ (Fc_219 40).toInt ≤ 1000 := hM.fb 40 rfl
      refine mr_callv (av := []) (rest := []) E hA hml hM (g3_X6_take l D h0 q cq Fc_219 G_95 _  hM.2.2.2.1 (show (Fc_219 40).toInt ≤ (Fc_219 39).toInt from by omega)) (cwV 0 hts gc_X6_format_X6_take_96 rfl rfl rfl (by decide +kernel) ⟨Nat.le_of_ble_eq_true rfl, Nat.le_of_ble_eq_true rfl⟩) rfl hl.1 rfl (Nat.le_of_ble_eq_true rfl) dX6_format_240 ⟨Nat.le_of_ble_eq_true rfl, Nat.le_of_ble_eq_true rfl⟩ (by decide) (by decide) (fun F_102 G_103 H locs fr_104 p_101 hM => ?_)
      replace p_101 : (F_102 40).toInt ≤ (Fc_219 39).toInt ∧ (Fc_219 40).toInt ≤ (F_102 40).toInt ∧ ((F_102 41).toInt = 0 ∨ (Fc_219 40).toInt < (F_102 40).toInt) ∧ (¬ (F_102 41).toInt = 2 ∨ (65 ≤ (F_102 42).toInt ∧ (F_102 42).toInt ≤ 72)) := p_101
      refine lv_aload_n hx hb dX6_format_243 rfl (lv_at hl 0 rfl) ?_
      refine lv_iconst (v := 0) hx hb dX6_format_244 (by decide) ?_
      refine lv_sipush (v := 600) hx hb dX6_format_245 (by decide) ?_
      have b_106 : 0 ≤ (F_102 39).toInt ∧ (F_102 39).toInt ≤ 1000 := hM.fb 39 rfl
      have e_107 : (F_102 39).toInt = (Fc_219 39).toInt := (congrArg Int32.toInt (fr_104.1 39 (by decide))).trans rfl
      have b_108 : 0 ≤ (F_102 40).toInt ∧ (F_102 40).toInt ≤ 1000 := hM.fb 40 rfl
      have b_109 : 0 ≤ (F_102 41).toInt ∧ (F_102 41).toInt ≤ 5 := hM.fb 41 rfl
      refine mr_calli (av := [.int 0, .int 600]) (rest := []) E hA hml hM (g3_X6_number l D h0 q cq F_102 G_103 _ 0 600 hM.2.2.2.1 (show (F_102 40).toInt ≤ (F_102 39).toInt from by have n_0 := num_0; have n_1 := num_600; omega) (show ¬ (F_102 41).toInt = 2 ∨ (65 ≤ (F_102 42).toInt ∧ (F_102 42).toInt ≤ 72) from by have n_0 := num_0; have n_1 := num_600; omega)) (cwV 2 hts gc_X6_format_X6_number_105 rfl rfl rfl (by decide +kernel) ⟨Nat.le_of_ble_eq_true rfl, Nat.le_of_ble_eq_true rfl⟩) rfl hl.1 rfl (Nat.le_of_ble_eq_true rfl) dX6_format_248 ⟨Nat.le_of_ble_eq_true rfl, Nat.le_of_ble_eq_true rfl⟩ (by decide) (by decide) (fun r_110 F_112 G_113 H locs fr_114 p_111 hM => ?_)
      replace p_111 : (F_112 40).toInt ≤ (F_102 39).toInt ∧ (F_102 40).toInt ≤ (F_112 40).toInt ∧ (¬ (F_112 41).toInt = 2 ∨ (65 ≤ (F_112 42).toInt ∧ (F_112 42).toInt ≤ 72)) := p_111
      refine mm_if_ne (X := r_110.toInt) (tgt := 256) hx hb dX6_format_251 (by decide) rfl (fun c_115 => ?_) (fun c_115 => ?_)
      · have b_116 : 0 ≤ (F_112 40).toInt ∧ (F_112 40).toInt ≤ 1000 := hM.fb 40 rfl
        have b_117 : 0 ≤ (F_112 41).toInt ∧ (F_112 41).toInt ≤ 5 := hM.fb 41 rfl
        exact B_256 _ _ _ F_112 G_113 ff (show (8 ≤ ff.toInt ∧ ff.toInt ≤ 15) from by omega) (show (F_112 40).toInt ≤ (F 39).toInt from by omega) (show (F 40).toInt < (F_112 40).toInt from by omega) (show ¬ (F_112 41).toInt = 2 ∨ (65 ≤ (F_112 42).toInt ∧ (F_112 42).toInt ≤ 72) from by omega) (show mJ G G_113 from by exact mJ.tr f219_4 ((fr_114.2 5 (by decide)).trans ((fr_104.2 5 (by decide)).trans ((show G_95 5 = Gc_219 5 from by rw [eG_95]; rfl).trans rfl))) ((fr_114.2 11 (by decide)).trans ((fr_104.2 11 (by decide)).trans ((show G_95 11 = Gc_219 11 from by rw [eG_95]; rfl).trans rfl)))) (show mI8x G_113 (Int32.toNatClampNeg ff) from by exact mI8x.tr f219_5 ((fr_114.2 5 (by decide)).trans ((fr_104.2 5 (by decide)).trans ((show G_95 5 = Gc_219 5 from by rw [eG_95]; rfl).trans rfl))) ((fr_114.2 11 (by decide)).trans ((fr_104.2 11 (by decide)).trans ((show G_95 11 = Gc_219 11 from by rw [eG_95]; rfl).trans rfl)))) hM (lv_sub hl [0, 1] rfl)
      · refine lv_iconst (v := 0) hx hb dX6_format_254 (by decide) ?_
        have b_118 : 0 ≤ (F_112 40).toInt ∧ (F_112 40).toInt ≤ 1000 := hM.fb 40 rfl
        have b_119 : 0 ≤ (F_112 41).toInt ∧ (F_112 41).toInt ≤ 5 := hM.fb 41 rfl
        exact mr_rz (X := 0) E hr hlk hsz hM num_0 (by omega) (show (F_112 40).toInt ≤ (F 39).toInt ∧ (F 40).toInt + (0 : Int32).toInt ≤ (F_112 40).toInt ∧ (¬ (F_112 41).toInt = 2 ∨ (65 ≤ (F_112 42).toInt ∧ (F_112 42).toInt ≤ 72)) ∧ ((0 : Int32).toInt = 0 ∨ (0 : Int32).toInt = 1) ∧ mJ G G_113 ∧ ((0 : Int32).toInt = 0 ∨ mI8 G_113) from by have n9 := num_0; exact ⟨by omega, by omega, by omega, by omega, mJ.tr f219_4 ((fr_114.2 5 (by decide)).trans ((fr_104.2 5 (by decide)).trans ((show G_95 5 = Gc_219 5 from by rw [eG_95]; rfl).trans rfl))) ((fr_114.2 11 (by decide)).trans ((fr_104.2 11 (by decide)).trans ((show G_95 11 = Gc_219 11 from by rw [eG_95]; rfl).trans rfl))), Or.inl (by omega)⟩) dX6_format_255
  have B_154 : ∀ (H : Heap) (locs : List Loc) (ls : Array Slot) (Fc_154 : Nat → Int32) (Gc_154 : Nat → Nat → Int32) (ff : Int32), (8 ≤ ff.toInt ∧ ff.toInt ≤ 15) → (Fc_154 40).toInt ≤ (F 39).toInt → (F 40).toInt < (Fc_154 40).toInt → ¬ (Fc_154 41).toInt = 2 ∨ (65 ≤ (Fc_154 42).toInt ∧ (Fc_154 42).toInt ≤ 72) → mJ G Gc_154 → mI8x Gc_154 (Int32.toNatClampNeg ff) → mQ D h0 q cq (va_A (mW h0 q cq F G) sz) s.heap [13, 14, 40, 41, 42, 43, 44] [5, 6, 7, 8, 9, 10, 11, 12] F G H locs Fc_154 Gc_154 → lv_has ls 2 [(0, .ref h0), (1, .int ff)] → W p l e ({ frames := 4, cells := 0, slots := 0, locals := 91 }) s m args below meth c H locs 0 0 (MQ below (mQi D h0 q cq F G sz [13, 14, 40, 41, 42, 43, 44] [5, 6, 7, 8, 9, 10, 11, 12] (fun r F' G' => (F' 40).toInt ≤ (F 39).toInt ∧ (F 40).toInt + r.toInt ≤ (F' 40).toInt ∧ (¬ (F' 41).toInt = 2 ∨ (65 ≤ (F' 42).toInt ∧ (F' 42).toInt ≤ 72)) ∧ (r.toInt = 0 ∨ r.toInt = 1) ∧ mJ G G' ∧ (r.toInt = 0 ∨ mI8 G'))) args s 0 0 (va_A (mW h0 q cq F G) sz)) (F0 m 154 ls []) := by
    intro H locs ls Fc_154 Gc_154 ff f154_0 f154_1 f154_2 f154_3 f154_4 f154_5 hM hl
    have hfr_154 := hM.fr
    refine lv_aload_n hx hb dX6_format_154 rfl (lv_at hl 0 rfl) ?_
    refine mr_get (v := .ref (q 8)) E hM 8 (by decide) (index := 22) (mm_at 53 rfl) rfl rfl dX6_format_155 ?_
    refine lv_iload_n hx hb dX6_format_158 rfl (lv_at hl 1 rfl) ?_
    refine lv_aload_n hx hb dX6_format_159 rfl (lv_at hl 0 rfl) ?_
    refine mr_get (v := .int (Fc_154 44)) E hM 44 (by decide) (index := 169) (mm_at 2 rfl) rfl rfl dX6_format_160 ?_
    refine mr_ast (X := ff.toInt) E hM 8 5 4 rfl rfl rfl (by omega) mg_8 (by decide) (mm_nbA rfl) (by decide) dX6_format_163 (fun H locs G_120 eG_120 hM => ?_)
    refine lv_aload_n hx hb dX6_format_164 rfl (lv_at hl 0 rfl) ?_
    refine lv_bipush (v := 59) hx hb dX6_format_165 (by decide) ?_
    have b_122 : 0 ≤ (Fc_154 39).toInt ∧ (Fc_154 39).toInt ≤ 1000 := hM.fb 39 rfl
    have e_123 : (Fc_154 39).toInt = (F 39).toInt := (congrArg Int32.toInt (hfr_154.1 39 (by decide))).trans rfl
    have b_124 : 0 ≤ (Fc_154 40).toInt ∧ (Fc_154 40).toInt ≤ 1000 := hM.fb 40 rfl
    have b_125 : 0 ≤ (Fc_154 41).toInt ∧ (Fc_154 41).toInt ≤ 5 := hM.fb 41 rfl
    refine mr_calli (av := [.int 59]) (rest := []) E hA hml hM (g3_X6_sign l D h0 q cq Fc_154 G_120 _ 59 hM.2.2.2.1 (show (Fc_154 40).toInt ≤ (Fc_154 39).toInt from by have n_0 := num_59; omega) (show ¬ (Fc_154 41).toInt = 2 ∨ (65 ≤ (Fc_154 42).toInt ∧ (Fc_154 42).toInt ≤ 72) from by have n_0 := num_59; omega)) (cwV 1 hts gc_X6_format_X6_sign_121 rfl rfl rfl (by decide +kernel) ⟨Nat.le_of_ble_eq_true rfl, Nat.le_of_ble_eq_true rfl⟩) rfl hl.1 rfl (Nat.le_of_ble_eq_true rfl) dX6_format_167 ⟨Nat.le_of_ble_eq_true rfl, Nat.le_of_ble_eq_true rfl⟩ (by decide) (by decide) (fun r_126 F_128 G_129 H locs fr_130 p_127 hM => ?_)
    replace p_127 : (F_128 40).toInt ≤ (Fc_154 39).toInt ∧ (Fc_154 40).toInt ≤ (F_128 40).toInt ∧ (¬ (F_128 41).toInt = 2 ∨ (65 ≤ (F_128 42).toInt ∧ (F_128 42).toInt ≤ 72)) := p_127
    refine mm_if_eq (X := r_126.toInt) (tgt := 181) hx hb dX6_format_170 (by decide) rfl (fun c_131 => ?_) (fun c_131 => ?_)
    · refine lv_iconst (v := 0) hx hb dX6_format_181 (by decide) ?_
      have b_132 : 0 ≤ (F_128 40).toInt ∧ (F_128 40).toInt ≤ 1000 := hM.fb 40 rfl
      have b_133 : 0 ≤ (F_128 41).toInt ∧ (F_128 41).toInt ≤ 5 := hM.fb 41 rfl
      exact mr_rz (X := 0) E hr hlk hsz hM num_0 (by omega) (show (F_128 40).toInt ≤ (F 39).toInt ∧ (F 40).toInt + (0 : Int32).toInt ≤ (F_128 40).toInt ∧ (¬ (F_128 41).toInt = 2 ∨ (65 ≤ (F_128 42).toInt ∧ (F_128 42).toInt ≤ 72)) ∧ ((0 : Int32).toInt = 0 ∨ (0 : Int32).toInt = 1) ∧ mJ G G_129 ∧ ((0 : Int32).toInt = 0 ∨ mI8 G_129) from by have n9 := num_0; exact ⟨by omega, by omega, by omega, by omega, mJ.tr f154_4 ((fr_130.2 5 (by decide)).trans ((show G_120 5 = Gc_154 5 from by rw [eG_120]; rfl).trans rfl)) ((fr_130.2 11 (by decide)).trans ((show G_120 11 = Gc_154 11 from by rw [eG_120]; rfl).trans rfl)), Or.inl (by omega)⟩) dX6_format_182
    · refine lv_aload_n hx hb dX6_format_173 rfl (lv_at hl 0 rfl) ?_
      refine lv_iconst (v := 5) hx hb dX6_format_174 (by decide) ?_
      have b_135 : 0 ≤ (F_128 39).toInt ∧ (F_128 39).toInt ≤ 1000 := hM.fb 39 rfl
      have e_136 : (F_128 39).toInt = (Fc_154 39).toInt := (congrArg Int32.toInt (fr_130.1 39 (by decide))).trans rfl
      have b_137 : 0 ≤ (F_128 40).toInt ∧ (F_128 40).toInt ≤ 1000 := hM.fb 40 rfl
      have b_138 : 0 ≤ (F_128 41).toInt ∧ (F_128 41).toInt ≤ 5 := hM.fb 41 rfl
      refine mr_calli (av := [.int 5]) (rest := []) E hA hml hM (g3_X6_word l D h0 q cq F_128 G_129 _ 5 hM.2.2.2.1 (show (F_128 40).toInt ≤ (F_128 39).toInt from by have n_0 := num_5; omega) (show ¬ (F_128 41).toInt = 2 ∨ (65 ≤ (F_128 42).toInt ∧ (F_128 42).toInt ≤ 72) from by have n_0 := num_5; omega)) (cwV 1 hts gc_X6_format_X6_word_134 rfl rfl rfl (by decide +kernel) ⟨Nat.le_of_ble_eq_true rfl, Nat.le_of_ble_eq_true rfl⟩) rfl hl.1 rfl (Nat.le_of_ble_eq_true rfl) dX6_format_175 ⟨Nat.le_of_ble_eq_true rfl, Nat.le_of_ble_eq_true rfl⟩ (by decide) (by decide) (fun r_139 F_141 G_142 H locs fr_143 p_140 hM => ?_)
      replace p_140 : (F_141 40).toInt ≤ (F_128 39).toInt ∧ (F_128 40).toInt ≤ (F_141 40).toInt ∧ (¬ (F_141 41).toInt = 2 ∨ (65 ≤ (F_141 42).toInt ∧ (F_141 42).toInt ≤ 72)) ∧ (r_139.toInt = 0 ∨ (r_139.toInt = 1 ∧ ((F_141 41).toInt = 0 ∨ (F_128 40).toInt < (F_141 40).toInt))) := p_140
      refine mm_if_ne (X := r_139.toInt) (tgt := 183) hx hb dX6_format_178 (by decide) rfl (fun c_144 => ?_) (fun c_144 => ?_)
      · refine lv_aload_n hx hb dX6_format_183 rfl (lv_at hl 0 rfl) ?_
        have b_145 : 0 ≤ (F_141 41).toInt ∧ (F_141 41).toInt ≤ 5 := hM.fb 41 rfl
        refine mr_get (v := .int (F_141 41)) E hM 41 (by decide) (index := 144) (mm_at 8 rfl) rfl rfl dX6_format_184 ?_
        refine lv_iconst (v := 1) hx hb dX6_format_187 (by decide) ?_
        refine mm_icmp_ne (X := (F_141 41).toInt) (Y := 1) (tgt := 209) hx hb dX6_format_188 (by decide) rfl num_1 (fun c_146 => ?_) (fun c_146 => ?_)
        · refine lv_aload_n hx hb dX6_format_209 rfl (lv_at hl 0 rfl) ?_
          refine lv_iconst (v := 1) hx hb dX6_format_210 (by decide) ?_
          refine lv_aload_n hx hb dX6_format_211 rfl (lv_at hl 0 rfl) ?_
          have b_147 : 0 ≤ (F_141 43).toInt ∧ (F_141 43).toInt ≤ 1000 := hM.fb 43 rfl
          refine mr_get (v := .int (F_141 43)) E hM 43 (by decide) (index := 141) (mm_at 9 rfl) rfl rfl dX6_format_212 ?_
          refine mr_calli (av := [.int 1, .int (F_141 43)]) (rest := []) E hA hml hM (g3_X6_wrong l D h0 q cq F_141 G_142 _ 1 (F_141 43) hM.2.2.2.1 ) (cwV 2 hts gc_X6_format_X6_wrong_148 rfl rfl rfl (by decide +kernel) ⟨Nat.le_of_ble_eq_true rfl, Nat.le_of_ble_eq_true rfl⟩) rfl hl.1 rfl (Nat.le_of_ble_eq_true rfl) dX6_format_215 ⟨Nat.le_of_ble_eq_true rfl, Nat.le_of_ble_eq_true rfl⟩ (by decide) (by decide) (fun r_149 F_151 G_152 H locs fr_153 p_150 hM => ?_)
          replace p_150 : r_149.toInt = 0 := p_150
          have e_154 : (F_151 42).toInt = (F_141 42).toInt := (congrArg Int32.toInt (fr_153.1 42 (by decide))).trans rfl
          have b_155 : 0 ≤ (F_151 40).toInt ∧ (F_151 40).toInt ≤ 1000 := hM.fb 40 rfl
          have e_156 : (F_151 40).toInt = (F_141 40).toInt := (congrArg Int32.toInt (fr_153.1 40 (by decide))).trans rfl
          have b_157 : 0 ≤ (F_151 41).toInt ∧ (F_151 41).toInt ≤ 5 := hM.fb 41 rfl
          have e_158 : (F_151 41).toInt = (F_141 41).toInt := (congrArg Int32.toInt (fr_153.1 41 (by decide))).trans rfl
          exact mr_rz (X := r_149.toInt) E hr hlk hsz hM rfl (by omega) (show (F_151 40).toInt ≤ (F 39).toInt ∧ (F 40).toInt + r_149.toInt ≤ (F_151 40).toInt ∧ (¬ (F_151 41).toInt = 2 ∨ (65 ≤ (F_151 42).toInt ∧ (F_151 42).toInt ≤ 72)) ∧ (r_149.toInt = 0 ∨ r_149.toInt = 1) ∧ mJ G G_152 ∧ (r_149.toInt = 0 ∨ mI8 G_152) from by exact ⟨by omega, by omega, by omega, by omega, mJ.tr f154_4 ((fr_153.2 5 (by decide)).trans ((fr_143.2 5 (by decide)).trans ((fr_130.2 5 (by decide)).trans ((show G_120 5 = Gc_154 5 from by rw [eG_120]; rfl).trans rfl)))) ((fr_153.2 11 (by decide)).trans ((fr_143.2 11 (by decide)).trans ((fr_130.2 11 (by decide)).trans ((show G_120 11 = Gc_154 11 from by rw [eG_120]; rfl).trans rfl)))), Or.inl (by omega)⟩) dX6_format_218
        · refine lv_aload_n hx hb dX6_format_191 rfl (lv_at hl 0 rfl) ?_
          refine mr_get (v := .int (F_141 42)) E hM 42 (by decide) (index := 155) (mm_at 16 rfl) rfl rfl dX6_format_192 ?_
          refine lv_bipush (v := 6) hx hb dX6_format_195 (by decide) ?_
          refine mm_icmp_eq (X := (F_141 42).toInt) (Y := 6) (tgt := 219) hx hb dX6_format_197 (by decide) rfl num_6 (fun c_159 => ?_) (fun c_159 => ?_)
          · have b_160 : 0 ≤ (F_141 40).toInt ∧ (F_141 40).toInt ≤ 1000 := hM.fb 40 rfl
            exact B_219 _ _ _ F_141 G_142 ff (show (8 ≤ ff.toInt ∧ ff.toInt ≤ 15) from by omega) (show (F_141 40).toInt ≤ (F 39).toInt from by omega) (show (F 40).toInt < (F_141 40).toInt from by omega) (show ¬ (F_141 41).toInt = 2 ∨ (65 ≤ (F_141 42).toInt ∧ (F_141 42).toInt ≤ 72) from by omega) (show mJ G G_142 from by exact mJ.tr f154_4 ((fr_143.2 5 (by decide)).trans ((fr_130.2 5 (by decide)).trans ((show G_120 5 = Gc_154 5 from by rw [eG_120]; rfl).trans rfl))) ((fr_143.2 11 (by decide)).trans ((fr_130.2 11 (by decide)).trans ((show G_120 11 = Gc_154 11 from by rw [eG_120]; rfl).trans rfl)))) (show mI8x G_142 (Int32.toNatClampNeg ff) from by exact mI8x.tr f154_5 ((fr_143.2 5 (by decide)).trans ((fr_130.2 5 (by decide)).trans ((show G_120 5 = Gc_154 5 from by rw [eG_120]; rfl).trans rfl))) ((fr_143.2 11 (by decide)).trans ((fr_130.2 11 (by decide)).trans ((show G_120 11 = Gc_154 11 from by rw [eG_120]; rfl).trans rfl)))) hM (lv_sub hl [0, 1] rfl)
          · refine lv_aload_n hx hb dX6_format_200 rfl (lv_at hl 0 rfl) ?_
            refine mr_get (v := .int (F_141 42)) E hM 42 (by decide) (index := 155) (mm_at 16 rfl) rfl rfl dX6_format_201 ?_
            refine lv_bipush (v := 7) hx hb dX6_format_204 (by decide) ?_
            refine mm_icmp_eq (X := (F_141 42).toInt) (Y := 7) (tgt := 219) hx hb dX6_format_206 (by decide) rfl num_7 (fun c_161 => ?_) (fun c_161 => ?_)
            · have b_162 : 0 ≤ (F_141 40).toInt ∧ (F_141 40).toInt ≤ 1000 := hM.fb 40 rfl
              exact B_219 _ _ _ F_141 G_142 ff (show (8 ≤ ff.toInt ∧ ff.toInt ≤ 15) from by omega) (show (F_141 40).toInt ≤ (F 39).toInt from by omega) (show (F 40).toInt < (F_141 40).toInt from by omega) (show ¬ (F_141 41).toInt = 2 ∨ (65 ≤ (F_141 42).toInt ∧ (F_141 42).toInt ≤ 72) from by omega) (show mJ G G_142 from by exact mJ.tr f154_4 ((fr_143.2 5 (by decide)).trans ((fr_130.2 5 (by decide)).trans ((show G_120 5 = Gc_154 5 from by rw [eG_120]; rfl).trans rfl))) ((fr_143.2 11 (by decide)).trans ((fr_130.2 11 (by decide)).trans ((show G_120 11 = Gc_154 11 from by rw [eG_120]; rfl).trans rfl)))) (show mI8x G_142 (Int32.toNatClampNeg ff) from by exact mI8x.tr f154_5 ((fr_143.2 5 (by decide)).trans ((fr_130.2 5 (by decide)).trans ((show G_120 5 = Gc_154 5 from by rw [eG_120]; rfl).trans rfl))) ((fr_143.2 11 (by decide)).trans ((fr_130.2 11 (by decide)).trans ((show G_120 11 = Gc_154 11 from by rw [eG_120]; rfl).trans rfl)))) hM (lv_sub hl [0, 1] rfl)
            · refine lv_aload_n hx hb dX6_format_209 rfl (lv_at hl 0 rfl) ?_
              refine lv_iconst (v := 1) hx hb dX6_format_210 (by decide) ?_
              refine lv_aload_n hx hb dX6_format_211 rfl (lv_at hl 0 rfl) ?_
              have b_163 : 0 ≤ (F_141 43).toInt ∧ (F_141 43).toInt ≤ 1000 := hM.fb 43 rfl
              refine mr_get (v := .int (F_141 43)) E hM 43 (by decide) (index := 141) (mm_at 9 rfl) rfl rfl dX6_format_212 ?_
              refine mr_calli (av := [.int 1, .int (F_141 43)]) (rest := []) E hA hml hM (g3_X6_wrong l D h0 q cq F_141 G_142 _ 1 (F_141 43) hM.2.2.2.1 ) (cwV 2 hts gc_X6_format_X6_wrong_164 rfl rfl rfl (by decide +kernel) ⟨Nat.le_of_ble_eq_true rfl, Nat.le_of_ble_eq_true rfl⟩) rfl hl.1 rfl (Nat.le_of_ble_eq_true rfl) dX6_format_215 ⟨Nat.le_of_ble_eq_true rfl, Nat.le_of_ble_eq_true rfl⟩ (by decide) (by decide) (fun r_165 F_167 G_168 H locs fr_169 p_166 hM => ?_)
              replace p_166 : r_165.toInt = 0 := p_166
              have e_170 : (F_167 42).toInt = (F_141 42).toInt := (congrArg Int32.toInt (fr_169.1 42 (by decide))).trans rfl
              have b_171 : 0 ≤ (F_167 40).toInt ∧ (F_167 40).toInt ≤ 1000 := hM.fb 40 rfl
              have e_172 : (F_167 40).toInt = (F_141 40).toInt := (congrArg Int32.toInt (fr_169.1 40 (by decide))).trans rfl
              have b_173 : 0 ≤ (F_167 41).toInt ∧ (F_167 41).toInt ≤ 5 := hM.fb 41 rfl
              have e_174 : (F_167 41).toInt = (F_141 41).toInt := (congrArg Int32.toInt (fr_169.1 41 (by decide))).trans rfl
              exact mr_rz (X := r_165.toInt) E hr hlk hsz hM rfl (by omega) (show (F_167 40).toInt ≤ (F 39).toInt ∧ (F 40).toInt + r_165.toInt ≤ (F_167 40).toInt ∧ (¬ (F_167 41).toInt = 2 ∨ (65 ≤ (F_167 42).toInt ∧ (F_167 42).toInt ≤ 72)) ∧ (r_165.toInt = 0 ∨ r_165.toInt = 1) ∧ mJ G G_168 ∧ (r_165.toInt = 0 ∨ mI8 G_168) from by exact ⟨by omega, by omega, by omega, by omega, mJ.tr f154_4 ((fr_169.2 5 (by decide)).trans ((fr_143.2 5 (by decide)).trans ((fr_130.2 5 (by decide)).trans ((show G_120 5 = Gc_154 5 from by rw [eG_120]; rfl).trans rfl)))) ((fr_169.2 11 (by decide)).trans ((fr_143.2 11 (by decide)).trans ((fr_130.2 11 (by decide)).trans ((show G_120 11 = Gc_154 11 from by rw [eG_120]; rfl).trans rfl)))), Or.inl (by omega)⟩) dX6_format_218
      · refine lv_iconst (v := 0) hx hb dX6_format_181 (by decide) ?_
        have b_175 : 0 ≤ (F_141 40).toInt ∧ (F_141 40).toInt ≤ 1000 := hM.fb 40 rfl
        have b_176 : 0 ≤ (F_141 41).toInt ∧ (F_141 41).toInt ≤ 5 := hM.fb 41 rfl
        exact mr_rz (X := 0) E hr hlk hsz hM num_0 (by omega) (show (F_141 40).toInt ≤ (F 39).toInt ∧ (F 40).toInt + (0 : Int32).toInt ≤ (F_141 40).toInt ∧ (¬ (F_141 41).toInt = 2 ∨ (65 ≤ (F_141 42).toInt ∧ (F_141 42).toInt ≤ 72)) ∧ ((0 : Int32).toInt = 0 ∨ (0 : Int32).toInt = 1) ∧ mJ G G_142 ∧ ((0 : Int32).toInt = 0 ∨ mI8 G_142) from by have n9 := num_0; exact ⟨by omega, by omega, by omega, by omega, mJ.tr f154_4 ((fr_143.2 5 (by decide)).trans ((fr_130.2 5 (by decide)).trans ((show G_120 5 = Gc_154 5 from by rw [eG_120]; rfl).trans rfl))) ((fr_143.2 11 (by decide)).trans ((fr_130.2 11 (by decide)).trans ((show G_120 11 = Gc_154 11 from by rw [eG_120]; rfl).trans rfl))), Or.inl (by omega)⟩) dX6_format_182
  have B_91 : ∀ (H : Heap) (locs : List Loc) (ls : Array Slot) (Fc_91 : Nat → Int32) (Gc_91 : Nat → Nat → Int32) (ff : Int32), (8 ≤ ff.toInt ∧ ff.toInt ≤ 15) → (Fc_91 40).toInt ≤ (F 39).toInt → (F 40).toInt < (Fc_91 40).toInt → ¬ (Fc_91 41).toInt = 2 ∨ (65 ≤ (Fc_91 42).toInt ∧ (Fc_91 42).toInt ≤ 72) → mJ G Gc_91 → mI8x Gc_91 (Int32.toNatClampNeg ff) → mQ D h0 q cq (va_A (mW h0 q cq F G) sz) s.heap [13, 14, 40, 41, 42, 43, 44] [5, 6, 7, 8, 9, 10, 11, 12] F G H locs Fc_91 Gc_91 → lv_has ls 2 [(0, .ref h0), (1, .int ff)] → W p l e ({ frames := 4, cells := 0, slots := 0, locals := 91 }) s m args below meth c H locs 0 0 (MQ below (mQi D h0 q cq F G sz [13, 14, 40, 41, 42, 43, 44] [5, 6, 7, 8, 9, 10, 11, 12] (fun r F' G' => (F' 40).toInt ≤ (F 39).toInt ∧ (F 40).toInt + r.toInt ≤ (F' 40).toInt ∧ (¬ (F' 41).toInt = 2 ∨ (65 ≤ (F' 42).toInt ∧ (F' 42).toInt ≤ 72)) ∧ (r.toInt = 0 ∨ r.toInt = 1) ∧ mJ G G' ∧ (r.toInt = 0 ∨ mI8 G'))) args s 0 0 (va_A (mW h0 q cq F G) sz)) (F0 m 91 ls []) := by
    intro H locs ls Fc_91 Gc_91 ff f91_0 f91_1 f91_2 f91_3 f91_4 f91_5 hM hl
    have hfr_91 := hM.fr
    refine lv_aload_n hx hb dX6_format_91 rfl (lv_at hl 0 rfl) ?_
    refine mr_get (v := .ref (q 5)) E hM 5 (by decide) (index := 13) (mm_at 54 rfl) rfl rfl dX6_format_92 ?_
    refine lv_iload_n hx hb dX6_format_95 rfl (lv_at hl 1 rfl) ?_
    refine lv_aload_n hx hb dX6_format_96 rfl (lv_at hl 0 rfl) ?_
    refine mr_get (v := .int (Fc_91 44)) E hM 44 (by decide) (index := 169) (mm_at 2 rfl) rfl rfl dX6_format_97 ?_
    refine mr_ast (X := ff.toInt) E hM 5 2 1 rfl rfl rfl (by omega) mg_5 (by decide) (mm_nbA rfl) (by decide) dX6_format_100 (fun H locs G_177 eG_177 hM => ?_)
    refine lv_aload_n hx hb dX6_format_101 rfl (lv_at hl 0 rfl) ?_
    refine lv_bipush (v := 59) hx hb dX6_format_102 (by decide) ?_
    have b_179 : 0 ≤ (Fc_91 39).toInt ∧ (Fc_91 39).toInt ≤ 1000 := hM.fb 39 rfl
    have e_180 : (Fc_91 39).toInt = (F 39).toInt := (congrArg Int32.toInt (hfr_91.1 39 (by decide))).trans rfl
    have b_181 : 0 ≤ (Fc_91 40).toInt ∧ (Fc_91 40).toInt ≤ 1000 := hM.fb 40 rfl
    have b_182 : 0 ≤ (Fc_91 41).toInt ∧ (Fc_91 41).toInt ≤ 5 := hM.fb 41 rfl
    refine mr_calli (av := [.int 59]) (rest := []) E hA hml hM (g3_X6_sign l D h0 q cq Fc_91 G_177 _ 59 hM.2.2.2.1 (show (Fc_91 40).toInt ≤ (Fc_91 39).toInt from by have n_0 := num_59; omega) (show ¬ (Fc_91 41).toInt = 2 ∨ (65 ≤ (Fc_91 42).toInt ∧ (Fc_91 42).toInt ≤ 72) from by have n_0 := num_59; omega)) (cwV 1 hts gc_X6_format_X6_sign_178 rfl rfl rfl (by decide +kernel) ⟨Nat.le_of_ble_eq_true rfl, Nat.le_of_ble_eq_true rfl⟩) rfl hl.1 rfl (Nat.le_of_ble_eq_true rfl) dX6_format_104 ⟨Nat.le_of_ble_eq_true rfl, Nat.le_of_ble_eq_true rfl⟩ (by decide) (by decide) (fun r_183 F_185 G_186 H locs fr_187 p_184 hM => ?_)
    replace p_184 : (F_185 40).toInt ≤ (Fc_91 39).toInt ∧ (Fc_91 40).toInt ≤ (F_185 40).toInt ∧ (¬ (F_185 41).toInt = 2 ∨ (65 ≤ (F_185 42).toInt ∧ (F_185 42).toInt ≤ 72)) := p_184
    refine mm_if_eq (X := r_183.toInt) (tgt := 152) hx hb dX6_format_107 (by decide) rfl (fun c_188 => ?_) (fun c_188 => ?_)
    · refine lv_iconst (v := 0) hx hb dX6_format_152 (by decide) ?_
      have b_189 : 0 ≤ (F_185 40).toInt ∧ (F_185 40).toInt ≤ 1000 := hM.fb 40 rfl
      have b_190 : 0 ≤ (F_185 41).toInt ∧ (F_185 41).toInt ≤ 5 := hM.fb 41 rfl
      exact mr_rz (X := 0) E hr hlk hsz hM num_0 (by omega) (show (F_185 40).toInt ≤ (F 39).toInt ∧ (F 40).toInt + (0 : Int32).toInt ≤ (F_185 40).toInt ∧ (¬ (F_185 41).toInt = 2 ∨ (65 ≤ (F_185 42).toInt ∧ (F_185 42).toInt ≤ 72)) ∧ ((0 : Int32).toInt = 0 ∨ (0 : Int32).toInt = 1) ∧ mJ G G_186 ∧ ((0 : Int32).toInt = 0 ∨ mI8 G_186) from by have n9 := num_0; exact ⟨by omega, by omega, by omega, by omega, mJ.laps f91_4 ((fr_187.2 5 (by decide)).trans ((show G_177 5 = upd (Gc_91 5) (Int32.toNatClampNeg ff) ((Fc_91 44)) from by rw [eG_177]; rfl).trans (congrArg (fun z => upd z (Int32.toNatClampNeg ff) ((Fc_91 44))) rfl))) (by rw [mm_nat]; omega) ((fr_187.2 11 (by decide)).trans ((show G_177 11 = Gc_91 11 from by rw [eG_177]; rfl).trans rfl)), Or.inl (by omega)⟩) dX6_format_153
    · refine lv_aload_n hx hb dX6_format_110 rfl (lv_at hl 0 rfl) ?_
      refine lv_iconst (v := 3) hx hb dX6_format_111 (by decide) ?_
      have b_192 : 0 ≤ (F_185 39).toInt ∧ (F_185 39).toInt ≤ 1000 := hM.fb 39 rfl
      have e_193 : (F_185 39).toInt = (Fc_91 39).toInt := (congrArg Int32.toInt (fr_187.1 39 (by decide))).trans rfl
      have b_194 : 0 ≤ (F_185 40).toInt ∧ (F_185 40).toInt ≤ 1000 := hM.fb 40 rfl
      have b_195 : 0 ≤ (F_185 41).toInt ∧ (F_185 41).toInt ≤ 5 := hM.fb 41 rfl
      refine mr_calli (av := [.int 3]) (rest := []) E hA hml hM (g3_X6_word l D h0 q cq F_185 G_186 _ 3 hM.2.2.2.1 (show (F_185 40).toInt ≤ (F_185 39).toInt from by have n_0 := num_3; omega) (show ¬ (F_185 41).toInt = 2 ∨ (65 ≤ (F_185 42).toInt ∧ (F_185 42).toInt ≤ 72) from by have n_0 := num_3; omega)) (cwV 1 hts gc_X6_format_X6_word_191 rfl rfl rfl (by decide +kernel) ⟨Nat.le_of_ble_eq_true rfl, Nat.le_of_ble_eq_true rfl⟩) rfl hl.1 rfl (Nat.le_of_ble_eq_true rfl) dX6_format_112 ⟨Nat.le_of_ble_eq_true rfl, Nat.le_of_ble_eq_true rfl⟩ (by decide) (by decide) (fun r_196 F_198 G_199 H locs fr_200 p_197 hM => ?_)
      replace p_197 : (F_198 40).toInt ≤ (F_185 39).toInt ∧ (F_185 40).toInt ≤ (F_198 40).toInt ∧ (¬ (F_198 41).toInt = 2 ∨ (65 ≤ (F_198 42).toInt ∧ (F_198 42).toInt ≤ 72)) ∧ (r_196.toInt = 0 ∨ (r_196.toInt = 1 ∧ ((F_198 41).toInt = 0 ∨ (F_185 40).toInt < (F_198 40).toInt))) := p_197
      refine mm_if_eq (X := r_196.toInt) (tgt := 152) hx hb dX6_format_115 (by decide) rfl (fun c_201 => ?_) (fun c_201 => ?_)
      · refine lv_iconst (v := 0) hx hb dX6_format_152 (by decide) ?_
        have b_202 : 0 ≤ (F_198 40).toInt ∧ (F_198 40).toInt ≤ 1000 := hM.fb 40 rfl
        have b_203 : 0 ≤ (F_198 41).toInt ∧ (F_198 41).toInt ≤ 5 := hM.fb 41 rfl
        exact mr_rz (X := 0) E hr hlk hsz hM num_0 (by omega) (show (F_198 40).toInt ≤ (F 39).toInt ∧ (F 40).toInt + (0 : Int32).toInt ≤ (F_198 40).toInt ∧ (¬ (F_198 41).toInt = 2 ∨ (65 ≤ (F_198 42).toInt ∧ (F_198 42).toInt ≤ 72)) ∧ ((0 : Int32).toInt = 0 ∨ (0 : Int32).toInt = 1) ∧ mJ G G_199 ∧ ((0 : Int32).toInt = 0 ∨ mI8 G_199) from by have n9 := num_0; exact ⟨by omega, by omega, by omega, by omega, mJ.laps f91_4 ((fr_200.2 5 (by decide)).trans ((fr_187.2 5 (by decide)).trans ((show G_177 5 = upd (Gc_91 5) (Int32.toNatClampNeg ff) ((Fc_91 44)) from by rw [eG_177]; rfl).trans (congrArg (fun z => upd z (Int32.toNatClampNeg ff) ((Fc_91 44))) rfl)))) (by rw [mm_nat]; omega) ((fr_200.2 11 (by decide)).trans ((fr_187.2 11 (by decide)).trans ((show G_177 11 = Gc_91 11 from by rw [eG_177]; rfl).trans rfl))), Or.inl (by omega)⟩) dX6_format_153
      · refine lv_aload_n hx hb dX6_format_118 rfl (lv_at hl 0 rfl) ?_
        refine lv_iload_n hx hb dX6_format_119 rfl (lv_at hl 1 rfl) ?_
        have b_205 : 0 ≤ (F_198 39).toInt ∧ (F_198 39).toInt ≤ 1000 := hM.fb 39 rfl
        have e_206 : (F_198 39).toInt = (F_185 39).toInt := (congrArg Int32.toInt (fr_200.1 39 (by decide))).trans rfl
        have b_207 : 0 ≤ (F_198 40).toInt ∧ (F_198 40).toInt ≤ 1000 := hM.fb 40 rfl
        have b_208 : 0 ≤ (F_198 41).toInt ∧ (F_198 41).toInt ≤ 5 := hM.fb 41 rfl
        refine mr_calli (av := [.int ff]) (rest := []) E hA hml hM (g3_X6_shots l D h0 q cq F_198 G_199 _ ff hM.2.2.2.1 (show 8 ≤ ff.toInt ∧ ff.toInt < 16 from by omega) (show (F_198 40).toInt ≤ (F_198 39).toInt from by omega) (show ¬ (F_198 41).toInt = 2 ∨ (65 ≤ (F_198 42).toInt ∧ (F_198 42).toInt ≤ 72) from by omega)) (cwV 1 hts gc_X6_format_X6_shots_204 rfl rfl rfl (by decide +kernel) ⟨Nat.le_of_ble_eq_true rfl, Nat.le_of_ble_eq_true rfl⟩) rfl hl.1 rfl (Nat.le_of_ble_eq_true rfl) dX6_format_120 ⟨Nat.le_of_ble_eq_true rfl, Nat.le_of_ble_eq_true rfl⟩ (by decide) (by decide) (fun r_209 F_211 G_212 H locs fr_213 p_210 hM => ?_)
        replace p_210 : (F_211 40).toInt ≤ (F_198 39).toInt ∧ (F_198 40).toInt ≤ (F_211 40).toInt ∧ (¬ (F_211 41).toInt = 2 ∨ (65 ≤ (F_211 42).toInt ∧ (F_211 42).toInt ≤ 72)) := p_210
        refine mm_if_eq (X := r_209.toInt) (tgt := 152) hx hb dX6_format_123 (by decide) rfl (fun c_214 => ?_) (fun c_214 => ?_)
        · refine lv_iconst (v := 0) hx hb dX6_format_152 (by decide) ?_
          have b_215 : 0 ≤ (F_211 40).toInt ∧ (F_211 40).toInt ≤ 1000 := hM.fb 40 rfl
          have b_216 : 0 ≤ (F_211 41).toInt ∧ (F_211 41).toInt ≤ 5 := hM.fb 41 rfl
          exact mr_rz (X := 0) E hr hlk hsz hM num_0 (by omega) (show (F_211 40).toInt ≤ (F 39).toInt ∧ (F 40).toInt + (0 : Int32).toInt ≤ (F_211 40).toInt ∧ (¬ (F_211 41).toInt = 2 ∨ (65 ≤ (F_211 42).toInt ∧ (F_211 42).toInt ≤ 72)) ∧ ((0 : Int32).toInt = 0 ∨ (0 : Int32).toInt = 1) ∧ mJ G G_212 ∧ ((0 : Int32).toInt = 0 ∨ mI8 G_212) from by have n9 := num_0; exact ⟨by omega, by omega, by omega, by omega, mJ.laps f91_4 ((fr_213.2 5 (by decide)).trans ((fr_200.2 5 (by decide)).trans ((fr_187.2 5 (by decide)).trans ((show G_177 5 = upd (Gc_91 5) (Int32.toNatClampNeg ff) ((Fc_91 44)) from by rw [eG_177]; rfl).trans (congrArg (fun z => upd z (Int32.toNatClampNeg ff) ((Fc_91 44))) rfl))))) (by rw [mm_nat]; omega) ((fr_213.2 11 (by decide)).trans ((fr_200.2 11 (by decide)).trans ((fr_187.2 11 (by decide)).trans ((show G_177 11 = Gc_91 11 from by rw [eG_177]; rfl).trans rfl)))), Or.inl (by omega)⟩) dX6_format_153
        · refine lv_aload_n hx hb dX6_format_126 rfl (lv_at hl 0 rfl) ?_
          refine lv_bipush (v := 59) hx hb dX6_format_127 (by decide) ?_
          have b_218 : 0 ≤ (F_211 39).toInt ∧ (F_211 39).toInt ≤ 1000 := hM.fb 39 rfl
          have e_219 : (F_211 39).toInt = (F_198 39).toInt := (congrArg Int32.toInt (fr_213.1 39 (by decide))).trans rfl
          have b_220 : 0 ≤ (F_211 40).toInt ∧ (F_211 40).toInt ≤ 1000 := hM.fb 40 rfl
          have b_221 : 0 ≤ (F_211 41).toInt ∧ (F_211 41).toInt ≤ 5 := hM.fb 41 rfl
          refine mr_calli (av := [.int 59]) (rest := []) E hA hml hM (g3_X6_sign l D h0 q cq F_211 G_212 _ 59 hM.2.2.2.1 (show (F_211 40).toInt ≤ (F_211 39).toInt from by have n_0 := num_59; omega) (show ¬ (F_211 41).toInt = 2 ∨ (65 ≤ (F_211 42).toInt ∧ (F_211 42).toInt ≤ 72) from by have n_0 := num_59; omega)) (cwV 1 hts gc_X6_format_X6_sign_217 rfl rfl rfl (by decide +kernel) ⟨Nat.le_of_ble_eq_true rfl, Nat.le_of_ble_eq_true rfl⟩) rfl hl.1 rfl (Nat.le_of_ble_eq_true rfl) dX6_format_129 ⟨Nat.le_of_ble_eq_true rfl, Nat.le_of_ble_eq_true rfl⟩ (by decide) (by decide) (fun r_222 F_224 G_225 H locs fr_226 p_223 hM => ?_)
          replace p_223 : (F_224 40).toInt ≤ (F_211 39).toInt ∧ (F_211 40).toInt ≤ (F_224 40).toInt ∧ (¬ (F_224 41).toInt = 2 ∨ (65 ≤ (F_224 42).toInt ∧ (F_224 42).toInt ≤ 72)) := p_223
          refine mm_if_eq (X := r_222.toInt) (tgt := 152) hx hb dX6_format_132 (by decide) rfl (fun c_227 => ?_) (fun c_227 => ?_)
          · refine lv_iconst (v := 0) hx hb dX6_format_152 (by decide) ?_
            have b_228 : 0 ≤ (F_224 40).toInt ∧ (F_224 40).toInt ≤ 1000 := hM.fb 40 rfl
            have b_229 : 0 ≤ (F_224 41).toInt ∧ (F_224 41).toInt ≤ 5 := hM.fb 41 rfl
            exact mr_rz (X := 0) E hr hlk hsz hM num_0 (by omega) (show (F_224 40).toInt ≤ (F 39).toInt ∧ (F 40).toInt + (0 : Int32).toInt ≤ (F_224 40).toInt ∧ (¬ (F_224 41).toInt = 2 ∨ (65 ≤ (F_224 42).toInt ∧ (F_224 42).toInt ≤ 72)) ∧ ((0 : Int32).toInt = 0 ∨ (0 : Int32).toInt = 1) ∧ mJ G G_225 ∧ ((0 : Int32).toInt = 0 ∨ mI8 G_225) from by have n9 := num_0; exact ⟨by omega, by omega, by omega, by omega, mJ.laps f91_4 ((fr_226.2 5 (by decide)).trans ((fr_213.2 5 (by decide)).trans ((fr_200.2 5 (by decide)).trans ((fr_187.2 5 (by decide)).trans ((show G_177 5 = upd (Gc_91 5) (Int32.toNatClampNeg ff) ((Fc_91 44)) from by rw [eG_177]; rfl).trans (congrArg (fun z => upd z (Int32.toNatClampNeg ff) ((Fc_91 44))) rfl)))))) (by rw [mm_nat]; omega) ((fr_226.2 11 (by decide)).trans ((fr_213.2 11 (by decide)).trans ((fr_200.2 11 (by decide)).trans ((fr_187.2 11 (by decide)).trans ((show G_177 11 = Gc_91 11 from by rw [eG_177]; rfl).trans rfl))))), Or.inl (by omega)⟩) dX6_format_153
          · refine lv_aload_n hx hb dX6_format_135 rfl (lv_at hl 0 rfl) ?_
            refine lv_iconst (v := 4) hx hb dX6_format_136 (by decide) ?_
            have b_231 : 0 ≤ (F_224 39).toInt ∧ (F_224 39).toInt ≤ 1000 := hM.fb 39 rfl
            have e_232 : (F_224 39).toInt = (F_211 39).toInt := (congrArg Int32.toInt (fr_226.1 39 (by decide))).trans rfl
            have b_233 : 0 ≤ (F_224 40).toInt ∧ (F_224 40).toInt ≤ 1000 := hM.fb 40 rfl
            have b_234 : 0 ≤ (F_224 41).toInt ∧ (F_224 41).toInt ≤ 5 := hM.fb 41 rfl
            refine mr_calli (av := [.int 4]) (rest := []) E hA hml hM (g3_X6_word l D h0 q cq F_224 G_225 _ 4 hM.2.2.2.1 (show (F_224 40).toInt ≤ (F_224 39).toInt from by have n_0 := num_4; omega) (show ¬ (F_224 41).toInt = 2 ∨ (65 ≤ (F_224 42).toInt ∧ (F_224 42).toInt ≤ 72) from by have n_0 := num_4; omega)) (cwV 1 hts gc_X6_format_X6_word_230 rfl rfl rfl (by decide +kernel) ⟨Nat.le_of_ble_eq_true rfl, Nat.le_of_ble_eq_true rfl⟩) rfl hl.1 rfl (Nat.le_of_ble_eq_true rfl) dX6_format_137 ⟨Nat.le_of_ble_eq_true rfl, Nat.le_of_ble_eq_true rfl⟩ (by decide) (by decide) (fun r_235 F_237 G_238 H locs fr_239 p_236 hM => ?_)
            replace p_236 : (F_237 40).toInt ≤ (F_224 39).toInt ∧ (F_224 40).toInt ≤ (F_237 40).toInt ∧ (¬ (F_237 41).toInt = 2 ∨ (65 ≤ (F_237 42).toInt ∧ (F_237 42).toInt ≤ 72)) ∧ (r_235.toInt = 0 ∨ (r_235.toInt = 1 ∧ ((F_237 41).toInt = 0 ∨ (F_224 40).toInt < (F_237 40).toInt))) := p_236
            refine mm_if_eq (X := r_235.toInt) (tgt := 152) hx hb dX6_format_140 (by decide) rfl (fun c_240 => ?_) (fun c_240 => ?_)
            · refine lv_iconst (v := 0) hx hb dX6_format_152 (by decide) ?_
              have b_241 : 0 ≤ (F_237 40).toInt ∧ (F_237 40).toInt ≤ 1000 := hM.fb 40 rfl
              have b_242 : 0 ≤ (F_237 41).toInt ∧ (F_237 41).toInt ≤ 5 := hM.fb 41 rfl
              exact mr_rz (X := 0) E hr hlk hsz hM num_0 (by omega) (show (F_237 40).toInt ≤ (F 39).toInt ∧ (F 40).toInt + (0 : Int32).toInt ≤ (F_237 40).toInt ∧ (¬ (F_237 41).toInt = 2 ∨ (65 ≤ (F_237 42).toInt ∧ (F_237 42).toInt ≤ 72)) ∧ ((0 : Int32).toInt = 0 ∨ (0 : Int32).toInt = 1) ∧ mJ G G_238 ∧ ((0 : Int32).toInt = 0 ∨ mI8 G_238) from by have n9 := num_0; exact ⟨by omega, by omega, by omega, by omega, mJ.laps f91_4 ((fr_239.2 5 (by decide)).trans ((fr_226.2 5 (by decide)).trans ((fr_213.2 5 (by decide)).trans ((fr_200.2 5 (by decide)).trans ((fr_187.2 5 (by decide)).trans ((show G_177 5 = upd (Gc_91 5) (Int32.toNatClampNeg ff) ((Fc_91 44)) from by rw [eG_177]; rfl).trans (congrArg (fun z => upd z (Int32.toNatClampNeg ff) ((Fc_91 44))) rfl))))))) (by rw [mm_nat]; omega) ((fr_239.2 11 (by decide)).trans ((fr_226.2 11 (by decide)).trans ((fr_213.2 11 (by decide)).trans ((fr_200.2 11 (by decide)).trans ((fr_187.2 11 (by decide)).trans ((show G_177 11 = Gc_91 11 from by rw [eG_177]; rfl).trans rfl)))))), Or.inl (by omega)⟩) dX6_format_153
            · refine lv_aload_n hx hb dX6_format_143 rfl (lv_at hl 0 rfl) ?_
              refine lv_iconst (v := 0) hx hb dX6_format_144 (by decide) ?_
              refine lv_iconst (v := 3) hx hb dX6_format_145 (by decide) ?_
              have b_244 : 0 ≤ (F_237 39).toInt ∧ (F_237 39).toInt ≤ 1000 := hM.fb 39 rfl
              have e_245 : (F_237 39).toInt = (F_224 39).toInt := (congrArg Int32.toInt (fr_239.1 39 (by decide))).trans rfl
              have b_246 : 0 ≤ (F_237 40).toInt ∧ (F_237 40).toInt ≤ 1000 := hM.fb 40 rfl
              have b_247 : 0 ≤ (F_237 41).toInt ∧ (F_237 41).toInt ≤ 5 := hM.fb 41 rfl
              refine mr_calli (av := [.int 0, .int 3]) (rest := []) E hA hml hM (g3_X6_number l D h0 q cq F_237 G_238 _ 0 3 hM.2.2.2.1 (show (F_237 40).toInt ≤ (F_237 39).toInt from by have n_0 := num_0; have n_1 := num_3; omega) (show ¬ (F_237 41).toInt = 2 ∨ (65 ≤ (F_237 42).toInt ∧ (F_237 42).toInt ≤ 72) from by have n_0 := num_0; have n_1 := num_3; omega)) (cwV 2 hts gc_X6_format_X6_number_243 rfl rfl rfl (by decide +kernel) ⟨Nat.le_of_ble_eq_true rfl, Nat.le_of_ble_eq_true rfl⟩) rfl hl.1 rfl (Nat.le_of_ble_eq_true rfl) dX6_format_146 ⟨Nat.le_of_ble_eq_true rfl, Nat.le_of_ble_eq_true rfl⟩ (by decide) (by decide) (fun r_248 F_250 G_251 H locs fr_252 p_249 hM => ?_)
              replace p_249 : (F_250 40).toInt ≤ (F_237 39).toInt ∧ (F_237 40).toInt ≤ (F_250 40).toInt ∧ (¬ (F_250 41).toInt = 2 ∨ (65 ≤ (F_250 42).toInt ∧ (F_250 42).toInt ≤ 72)) := p_249
              refine mm_if_ne (X := r_248.toInt) (tgt := 154) hx hb dX6_format_149 (by decide) rfl (fun c_253 => ?_) (fun c_253 => ?_)
              · have b_254 : 0 ≤ (F_250 40).toInt ∧ (F_250 40).toInt ≤ 1000 := hM.fb 40 rfl
                have b_255 : 0 ≤ (F_250 41).toInt ∧ (F_250 41).toInt ≤ 5 := hM.fb 41 rfl
                exact B_154 _ _ _ F_250 G_251 ff (show (8 ≤ ff.toInt ∧ ff.toInt ≤ 15) from by omega) (show (F_250 40).toInt ≤ (F 39).toInt from by omega) (show (F 40).toInt < (F_250 40).toInt from by omega) (show ¬ (F_250 41).toInt = 2 ∨ (65 ≤ (F_250 42).toInt ∧ (F_250 42).toInt ≤ 72) from by omega) (show mJ G G_251 from by exact mJ.laps f91_4 ((fr_252.2 5 (by decide)).trans ((fr_239.2 5 (by decide)).trans ((fr_226.2 5 (by decide)).trans ((fr_213.2 5 (by decide)).trans ((fr_200.2 5 (by decide)).trans ((fr_187.2 5 (by decide)).trans ((show G_177 5 = upd (Gc_91 5) (Int32.toNatClampNeg ff) ((Fc_91 44)) from by rw [eG_177]; rfl).trans (congrArg (fun z => upd z (Int32.toNatClampNeg ff) ((Fc_91 44))) rfl)))))))) (by rw [mm_nat]; omega) ((fr_252.2 11 (by decide)).trans ((fr_239.2 11 (by decide)).trans ((fr_226.2 11 (by decide)).trans ((fr_213.2 11 (by decide)).trans ((fr_200.2 11 (by decide)).trans ((fr_187.2 11 (by decide)).trans ((show G_177 11 = Gc_91 11 from by rw [eG_177]; rfl).trans rfl)))))))) (show mI8x G_251 (Int32.toNatClampNeg ff) from by exact mI8x.laps f91_5 ((fr_252.2 5 (by decide)).trans ((fr_239.2 5 (by decide)).trans ((fr_226.2 5 (by decide)).trans ((fr_213.2 5 (by decide)).trans ((fr_200.2 5 (by decide)).trans ((fr_187.2 5 (by decide)).trans ((show G_177 5 = upd (Gc_91 5) (Int32.toNatClampNeg ff) ((Fc_91 44)) from by rw [eG_177]; rfl).trans (congrArg (fun z => upd z (Int32.toNatClampNeg ff) ((Fc_91 44))) rfl)))))))) ((fr_252.2 11 (by decide)).trans ((fr_239.2 11 (by decide)).trans ((fr_226.2 11 (by decide)).trans ((fr_213.2 11 (by decide)).trans ((fr_200.2 11 (by decide)).trans ((fr_187.2 11 (by decide)).trans ((show G_177 11 = Gc_91 11 from by rw [eG_177]; rfl).trans rfl)))))))) hM (lv_sub hl [0, 1] rfl)
              · refine lv_iconst (v := 0) hx hb dX6_format_152 (by decide) ?_
                have b_256 : 0 ≤ (F_250 40).toInt ∧ (F_250 40).toInt ≤ 1000 := hM.fb 40 rfl
                have b_257 : 0 ≤ (F_250 41).toInt ∧ (F_250 41).toInt ≤ 5 := hM.fb 41 rfl
                exact mr_rz (X := 0) E hr hlk hsz hM num_0 (by omega) (show (F_250 40).toInt ≤ (F 39).toInt ∧ (F 40).toInt + (0 : Int32).toInt ≤ (F_250 40).toInt ∧ (¬ (F_250 41).toInt = 2 ∨ (65 ≤ (F_250 42).toInt ∧ (F_250 42).toInt ≤ 72)) ∧ ((0 : Int32).toInt = 0 ∨ (0 : Int32).toInt = 1) ∧ mJ G G_251 ∧ ((0 : Int32).toInt = 0 ∨ mI8 G_251) from by have n9 := num_0; exact ⟨by omega, by omega, by omega, by omega, mJ.laps f91_4 ((fr_252.2 5 (by decide)).trans ((fr_239.2 5 (by decide)).trans ((fr_226.2 5 (by decide)).trans ((fr_213.2 5 (by decide)).trans ((fr_200.2 5 (by decide)).trans ((fr_187.2 5 (by decide)).trans ((show G_177 5 = upd (Gc_91 5) (Int32.toNatClampNeg ff) ((Fc_91 44)) from by rw [eG_177]; rfl).trans (congrArg (fun z => upd z (Int32.toNatClampNeg ff) ((Fc_91 44))) rfl)))))))) (by rw [mm_nat]; omega) ((fr_252.2 11 (by decide)).trans ((fr_239.2 11 (by decide)).trans ((fr_226.2 11 (by decide)).trans ((fr_213.2 11 (by decide)).trans ((fr_200.2 11 (by decide)).trans ((fr_187.2 11 (by decide)).trans ((show G_177 11 = Gc_91 11 from by rw [eG_177]; rfl).trans rfl))))))), Or.inl (by omega)⟩) dX6_format_153
  have B_58 : ∀ (H : Heap) (locs : List Loc) (ls : Array Slot) (Fc_58 : Nat → Int32) (Gc_58 : Nat → Nat → Int32) (ff : Int32), (8 ≤ ff.toInt ∧ ff.toInt ≤ 15) → (Fc_58 40).toInt ≤ (F 39).toInt → (F 40).toInt < (Fc_58 40).toInt → ¬ (Fc_58 41).toInt = 2 ∨ (65 ≤ (Fc_58 42).toInt ∧ (Fc_58 42).toInt ≤ 72) → mJ G Gc_58 → mI8x Gc_58 (Int32.toNatClampNeg ff) → mQ D h0 q cq (va_A (mW h0 q cq F G) sz) s.heap [13, 14, 40, 41, 42, 43, 44] [5, 6, 7, 8, 9, 10, 11, 12] F G H locs Fc_58 Gc_58 → lv_has ls 2 [(0, .ref h0), (1, .int ff)] → W p l e ({ frames := 4, cells := 0, slots := 0, locals := 91 }) s m args below meth c H locs 0 0 (MQ below (mQi D h0 q cq F G sz [13, 14, 40, 41, 42, 43, 44] [5, 6, 7, 8, 9, 10, 11, 12] (fun r F' G' => (F' 40).toInt ≤ (F 39).toInt ∧ (F 40).toInt + r.toInt ≤ (F' 40).toInt ∧ (¬ (F' 41).toInt = 2 ∨ (65 ≤ (F' 42).toInt ∧ (F' 42).toInt ≤ 72)) ∧ (r.toInt = 0 ∨ r.toInt = 1) ∧ mJ G G' ∧ (r.toInt = 0 ∨ mI8 G'))) args s 0 0 (va_A (mW h0 q cq F G) sz)) (F0 m 58 ls []) := by
    intro H locs ls Fc_58 Gc_58 ff f58_0 f58_1 f58_2 f58_3 f58_4 f58_5 hM hl
    have hfr_58 := hM.fr
    refine lv_aload_n hx hb dX6_format_58 rfl (lv_at hl 0 rfl) ?_
    have b_259 : 0 ≤ (Fc_58 39).toInt ∧ (Fc_58 39).toInt ≤ 1000 := hM.fb 39 rfl
    have e_260 : (Fc_58 39).toInt = (F 39).toInt := (congrArg Int32.toInt (hfr_58.1 39 (by decide))).trans rfl
    have b_261 : 0 ≤ (Fc_58 40).toInt ∧ (Fc_58 40).toInt ≤ 1000 := hM.fb 40 rfl
    refine mr_callv (av := []) (rest := []) E hA hml hM (g3_X6_take l D h0 q cq Fc_58 Gc_58 _  hM.2.2.2.1 (show (Fc_58 40).toInt ≤ (Fc_58 39).toInt from by omega)) (cwV 0 hts gc_X6_format_X6_take_258 rfl rfl rfl (by decide +kernel) ⟨Nat.le_of_ble_eq_true rfl, Nat.le_of_ble_eq_true rfl⟩) rfl hl.1 rfl (Nat.le_of_ble_eq_true rfl) dX6_format_59 ⟨Nat.le_of_ble_eq_true rfl, Nat.le_of_ble_eq_true rfl⟩ (by decide) (by decide) (fun F_264 G_265 H locs fr_266 p_263 hM => ?_)
    replace p_263 : (F_264 40).toInt ≤ (Fc_58 39).toInt ∧ (Fc_58 40).toInt ≤ (F_264 40).toInt ∧ ((F_264 41).toInt = 0 ∨ (Fc_58 40).toInt < (F_264 40).toInt) ∧ (¬ (F_264 41).toInt = 2 ∨ (65 ≤ (F_264 42).toInt ∧ (F_264 42).toInt ≤ 72)) := p_263
    refine lv_aload_n hx hb dX6_format_62 rfl (lv_at hl 0 rfl) ?_
    refine lv_bipush (v := 123) hx hb dX6_format_63 (by decide) ?_
    have b_268 : 0 ≤ (F_264 39).toInt ∧ (F_264 39).toInt ≤ 1000 := hM.fb 39 rfl
    have e_269 : (F_264 39).toInt = (Fc_58 39).toInt := (congrArg Int32.toInt (fr_266.1 39 (by decide))).trans rfl
    have b_270 : 0 ≤ (F_264 40).toInt ∧ (F_264 40).toInt ≤ 1000 := hM.fb 40 rfl
    have b_271 : 0 ≤ (F_264 41).toInt ∧ (F_264 41).toInt ≤ 5 := hM.fb 41 rfl
    refine mr_calli (av := [.int 123]) (rest := []) E hA hml hM (g3_X6_sign l D h0 q cq F_264 G_265 _ 123 hM.2.2.2.1 (show (F_264 40).toInt ≤ (F_264 39).toInt from by have n_0 := num_123; omega) (show ¬ (F_264 41).toInt = 2 ∨ (65 ≤ (F_264 42).toInt ∧ (F_264 42).toInt ≤ 72) from by have n_0 := num_123; omega)) (cwV 1 hts gc_X6_format_X6_sign_267 rfl rfl rfl (by decide +kernel) ⟨Nat.le_of_ble_eq_true rfl, Nat.le_of_ble_eq_true rfl⟩) rfl hl.1 rfl (Nat.le_of_ble_eq_true rfl) dX6_format_65 ⟨Nat.le_of_ble_eq_true rfl, Nat.le_of_ble_eq_true rfl⟩ (by decide) (by decide) (fun r_272 F_274 G_275 H locs fr_276 p_273 hM => ?_)
    replace p_273 : (F_274 40).toInt ≤ (F_264 39).toInt ∧ (F_264 40).toInt ≤ (F_274 40).toInt ∧ (¬ (F_274 41).toInt = 2 ∨ (65 ≤ (F_274 42).toInt ∧ (F_274 42).toInt ≤ 72)) := p_273
    refine mm_if_eq (X := r_272.toInt) (tgt := 89) hx hb dX6_format_68 (by decide) rfl (fun c_277 => ?_) (fun c_277 => ?_)
    · refine lv_iconst (v := 0) hx hb dX6_format_89 (by decide) ?_
      have b_278 : 0 ≤ (F_274 40).toInt ∧ (F_274 40).toInt ≤ 1000 := hM.fb 40 rfl
      have b_279 : 0 ≤ (F_274 41).toInt ∧ (F_274 41).toInt ≤ 5 := hM.fb 41 rfl
      exact mr_rz (X := 0) E hr hlk hsz hM num_0 (by omega) (show (F_274 40).toInt ≤ (F 39).toInt ∧ (F 40).toInt + (0 : Int32).toInt ≤ (F_274 40).toInt ∧ (¬ (F_274 41).toInt = 2 ∨ (65 ≤ (F_274 42).toInt ∧ (F_274 42).toInt ≤ 72)) ∧ ((0 : Int32).toInt = 0 ∨ (0 : Int32).toInt = 1) ∧ mJ G G_275 ∧ ((0 : Int32).toInt = 0 ∨ mI8 G_275) from by have n9 := num_0; exact ⟨by omega, by omega, by omega, by omega, mJ.tr f58_4 ((fr_276.2 5 (by decide)).trans ((fr_266.2 5 (by decide)).trans rfl)) ((fr_276.2 11 (by decide)).trans ((fr_266.2 11 (by decide)).trans rfl)), Or.inl (by omega)⟩) dX6_format_90
    · refine lv_aload_n hx hb dX6_format_71 rfl (lv_at hl 0 rfl) ?_
      refine lv_iconst (v := 2) hx hb dX6_format_72 (by decide) ?_
      have b_281 : 0 ≤ (F_274 39).toInt ∧ (F_274 39).toInt ≤ 1000 := hM.fb 39 rfl
      have e_282 : (F_274 39).toInt = (F_264 39).toInt := (congrArg Int32.toInt (fr_276.1 39 (by decide))).trans rfl
      have b_283 : 0 ≤ (F_274 40).toInt ∧ (F_274 40).toInt ≤ 1000 := hM.fb 40 rfl
      have b_284 : 0 ≤ (F_274 41).toInt ∧ (F_274 41).toInt ≤ 5 := hM.fb 41 rfl
      refine mr_calli (av := [.int 2]) (rest := []) E hA hml hM (g3_X6_word l D h0 q cq F_274 G_275 _ 2 hM.2.2.2.1 (show (F_274 40).toInt ≤ (F_274 39).toInt from by have n_0 := num_2; omega) (show ¬ (F_274 41).toInt = 2 ∨ (65 ≤ (F_274 42).toInt ∧ (F_274 42).toInt ≤ 72) from by have n_0 := num_2; omega)) (cwV 1 hts gc_X6_format_X6_word_280 rfl rfl rfl (by decide +kernel) ⟨Nat.le_of_ble_eq_true rfl, Nat.le_of_ble_eq_true rfl⟩) rfl hl.1 rfl (Nat.le_of_ble_eq_true rfl) dX6_format_73 ⟨Nat.le_of_ble_eq_true rfl, Nat.le_of_ble_eq_true rfl⟩ (by decide) (by decide) (fun r_285 F_287 G_288 H locs fr_289 p_286 hM => ?_)
      replace p_286 : (F_287 40).toInt ≤ (F_274 39).toInt ∧ (F_274 40).toInt ≤ (F_287 40).toInt ∧ (¬ (F_287 41).toInt = 2 ∨ (65 ≤ (F_287 42).toInt ∧ (F_287 42).toInt ≤ 72)) ∧ (r_285.toInt = 0 ∨ (r_285.toInt = 1 ∧ ((F_287 41).toInt = 0 ∨ (F_274 40).toInt < (F_287 40).toInt))) := p_286
      refine mm_if_eq (X := r_285.toInt) (tgt := 89) hx hb dX6_format_76 (by decide) rfl (fun c_290 => ?_) (fun c_290 => ?_)
      · refine lv_iconst (v := 0) hx hb dX6_format_89 (by decide) ?_
        have b_291 : 0 ≤ (F_287 40).toInt ∧ (F_287 40).toInt ≤ 1000 := hM.fb 40 rfl
        have b_292 : 0 ≤ (F_287 41).toInt ∧ (F_287 41).toInt ≤ 5 := hM.fb 41 rfl
        exact mr_rz (X := 0) E hr hlk hsz hM num_0 (by omega) (show (F_287 40).toInt ≤ (F 39).toInt ∧ (F 40).toInt + (0 : Int32).toInt ≤ (F_287 40).toInt ∧ (¬ (F_287 41).toInt = 2 ∨ (65 ≤ (F_287 42).toInt ∧ (F_287 42).toInt ≤ 72)) ∧ ((0 : Int32).toInt = 0 ∨ (0 : Int32).toInt = 1) ∧ mJ G G_288 ∧ ((0 : Int32).toInt = 0 ∨ mI8 G_288) from by have n9 := num_0; exact ⟨by omega, by omega, by omega, by omega, mJ.tr f58_4 ((fr_289.2 5 (by decide)).trans ((fr_276.2 5 (by decide)).trans ((fr_266.2 5 (by decide)).trans rfl))) ((fr_289.2 11 (by decide)).trans ((fr_276.2 11 (by decide)).trans ((fr_266.2 11 (by decide)).trans rfl))), Or.inl (by omega)⟩) dX6_format_90
      · refine lv_aload_n hx hb dX6_format_79 rfl (lv_at hl 0 rfl) ?_
        refine lv_iconst (v := 1) hx hb dX6_format_80 (by decide) ?_
        refine lv_bipush (v := 6) hx hb dX6_format_81 (by decide) ?_
        have b_294 : 0 ≤ (F_287 39).toInt ∧ (F_287 39).toInt ≤ 1000 := hM.fb 39 rfl
        have e_295 : (F_287 39).toInt = (F_274 39).toInt := (congrArg Int32.toInt (fr_289.1 39 (by decide))).trans rfl
        have b_296 : 0 ≤ (F_287 40).toInt ∧ (F_287 40).toInt ≤ 1000 := hM.fb 40 rfl
        have b_297 : 0 ≤ (F_287 41).toInt ∧ (F_287 41).toInt ≤ 5 := hM.fb 41 rfl
        refine mr_calli (av := [.int 1, .int 6]) (rest := []) E hA hml hM (g3_X6_number l D h0 q cq F_287 G_288 _ 1 6 hM.2.2.2.1 (show (F_287 40).toInt ≤ (F_287 39).toInt from by have n_0 := num_1; have n_1 := num_6; omega) (show ¬ (F_287 41).toInt = 2 ∨ (65 ≤ (F_287 42).toInt ∧ (F_287 42).toInt ≤ 72) from by have n_0 := num_1; have n_1 := num_6; omega)) (cwV 2 hts gc_X6_format_X6_number_293 rfl rfl rfl (by decide +kernel) ⟨Nat.le_of_ble_eq_true rfl, Nat.le_of_ble_eq_true rfl⟩) rfl hl.1 rfl (Nat.le_of_ble_eq_true rfl) dX6_format_83 ⟨Nat.le_of_ble_eq_true rfl, Nat.le_of_ble_eq_true rfl⟩ (by decide) (by decide) (fun r_298 F_300 G_301 H locs fr_302 p_299 hM => ?_)
        replace p_299 : (F_300 40).toInt ≤ (F_287 39).toInt ∧ (F_287 40).toInt ≤ (F_300 40).toInt ∧ (¬ (F_300 41).toInt = 2 ∨ (65 ≤ (F_300 42).toInt ∧ (F_300 42).toInt ≤ 72)) := p_299
        refine mm_if_ne (X := r_298.toInt) (tgt := 91) hx hb dX6_format_86 (by decide) rfl (fun c_303 => ?_) (fun c_303 => ?_)
        · have b_304 : 0 ≤ (F_300 40).toInt ∧ (F_300 40).toInt ≤ 1000 := hM.fb 40 rfl
          have b_305 : 0 ≤ (F_300 41).toInt ∧ (F_300 41).toInt ≤ 5 := hM.fb 41 rfl
          exact B_91 _ _ _ F_300 G_301 ff (show (8 ≤ ff.toInt ∧ ff.toInt ≤ 15) from by omega) (show (F_300 40).toInt ≤ (F 39).toInt from by omega) (show (F 40).toInt < (F_300 40).toInt from by omega) (show ¬ (F_300 41).toInt = 2 ∨ (65 ≤ (F_300 42).toInt ∧ (F_300 42).toInt ≤ 72) from by omega) (show mJ G G_301 from by exact mJ.tr f58_4 ((fr_302.2 5 (by decide)).trans ((fr_289.2 5 (by decide)).trans ((fr_276.2 5 (by decide)).trans ((fr_266.2 5 (by decide)).trans rfl)))) ((fr_302.2 11 (by decide)).trans ((fr_289.2 11 (by decide)).trans ((fr_276.2 11 (by decide)).trans ((fr_266.2 11 (by decide)).trans rfl))))) (show mI8x G_301 (Int32.toNatClampNeg ff) from by exact mI8x.tr f58_5 ((fr_302.2 5 (by decide)).trans ((fr_289.2 5 (by decide)).trans ((fr_276.2 5 (by decide)).trans ((fr_266.2 5 (by decide)).trans rfl)))) ((fr_302.2 11 (by decide)).trans ((fr_289.2 11 (by decide)).trans ((fr_276.2 11 (by decide)).trans ((fr_266.2 11 (by decide)).trans rfl))))) hM (lv_sub hl [0, 1] rfl)
        · refine lv_iconst (v := 0) hx hb dX6_format_89 (by decide) ?_
          have b_306 : 0 ≤ (F_300 40).toInt ∧ (F_300 40).toInt ≤ 1000 := hM.fb 40 rfl
          have b_307 : 0 ≤ (F_300 41).toInt ∧ (F_300 41).toInt ≤ 5 := hM.fb 41 rfl
          exact mr_rz (X := 0) E hr hlk hsz hM num_0 (by omega) (show (F_300 40).toInt ≤ (F 39).toInt ∧ (F 40).toInt + (0 : Int32).toInt ≤ (F_300 40).toInt ∧ (¬ (F_300 41).toInt = 2 ∨ (65 ≤ (F_300 42).toInt ∧ (F_300 42).toInt ≤ 72)) ∧ ((0 : Int32).toInt = 0 ∨ (0 : Int32).toInt = 1) ∧ mJ G G_301 ∧ ((0 : Int32).toInt = 0 ∨ mI8 G_301) from by have n9 := num_0; exact ⟨by omega, by omega, by omega, by omega, mJ.tr f58_4 ((fr_302.2 5 (by decide)).trans ((fr_289.2 5 (by decide)).trans ((fr_276.2 5 (by decide)).trans ((fr_266.2 5 (by decide)).trans rfl)))) ((fr_302.2 11 (by decide)).trans ((fr_289.2 11 (by decide)).trans ((fr_276.2 11 (by decide)).trans ((fr_266.2 11 (by decide)).trans rfl)))), Or.inl (by omega)⟩) dX6_format_90
  refine lv_aload_n hx hb dX6_format_0 rfl (lv_at hl 0 rfl) ?_
  refine lv_iconst (v := 1) hx hb dX6_format_1 (by decide) ?_
  have b_309 : 0 ≤ (F 39).toInt ∧ (F 39).toInt ≤ 1000 := hM.fb 39 rfl
  have b_310 : 0 ≤ (F 40).toInt ∧ (F 40).toInt ≤ 1000 := hM.fb 40 rfl
  have b_311 : 0 ≤ (F 41).toInt ∧ (F 41).toInt ≤ 5 := hM.fb 41 rfl
  refine mr_calli (av := [.int 1]) (rest := []) E hA hml hM (g3_X6_word l D h0 q cq F G _ 1 hM.2.2.2.1 (show (F 40).toInt ≤ (F 39).toInt from by have n_0 := num_1; omega) (show ¬ (F 41).toInt = 2 ∨ (65 ≤ (F 42).toInt ∧ (F 42).toInt ≤ 72) from by have n_0 := num_1; omega)) (cwV 1 hts gc_X6_format_X6_word_308 rfl rfl rfl (by decide +kernel) ⟨Nat.le_of_ble_eq_true rfl, Nat.le_of_ble_eq_true rfl⟩) rfl hl.1 rfl (Nat.le_of_ble_eq_true rfl) dX6_format_2 ⟨Nat.le_of_ble_eq_true rfl, Nat.le_of_ble_eq_true rfl⟩ (by decide) (by decide) (fun r_312 F_314 G_315 H locs fr_316 p_313 hM => ?_)
  replace p_313 : (F_314 40).toInt ≤ (F 39).toInt ∧ (F 40).toInt ≤ (F_314 40).toInt ∧ (¬ (F_314 41).toInt = 2 ∨ (65 ≤ (F_314 42).toInt ∧ (F_314 42).toInt ≤ 72)) ∧ (r_312.toInt = 0 ∨ (r_312.toInt = 1 ∧ ((F_314 41).toInt = 0 ∨ (F 40).toInt < (F_314 40).toInt))) := p_313
  refine mm_if_ne (X := r_312.toInt) (tgt := 10) hx hb dX6_format_5 (by decide) rfl (fun c_317 => ?_) (fun c_317 => ?_)
  · refine lv_aload_n hx hb dX6_format_10 rfl (lv_at hl 0 rfl) ?_
    have b_318 : 0 ≤ (F_314 41).toInt ∧ (F_314 41).toInt ≤ 5 := hM.fb 41 rfl
    refine mr_get (v := .int (F_314 41)) E hM 41 (by decide) (index := 144) (mm_at 8 rfl) rfl rfl dX6_format_11 ?_
    refine lv_iconst (v := 2) hx hb dX6_format_14 (by decide) ?_
    refine mm_icmp_eq (X := (F_314 41).toInt) (Y := 2) (tgt := 28) hx hb dX6_format_15 (by decide) rfl num_2 (fun c_319 => ?_) (fun c_319 => ?_)
    · refine lv_bipush (v := 8) hx hb dX6_format_28 (by decide) ?_
      refine lv_aload_n hx hb dX6_format_30 rfl (lv_at hl 0 rfl) ?_
      refine mr_get (v := .int (F_314 42)) E hM 42 (by decide) (index := 155) (mm_at 16 rfl) rfl rfl dX6_format_31 ?_
      refine mm_iadd (X := 8) (Y := (F_314 42).toInt) hx hb dX6_format_34 num_8 rfl (by omega) (fun z_320 hz_320 => ?_)
      refine lv_bipush (v := 65) hx hb dX6_format_35 (by decide) ?_
      refine mm_isub (X := z_320.toInt) (Y := 65) hx hb dX6_format_37 rfl num_65 (by omega) (fun z_321 hz_321 => ?_)
      refine lv_istore_n (lv' := [(1, .int z_321), (0, .ref h0)]) hx hb dX6_format_38 rfl hl (by decide) rfl (fun ls hl => ?_)
      refine lv_aload_n hx hb dX6_format_39 rfl (lv_at hl 1 rfl) ?_
      refine mr_get (v := .ref (q 5)) E hM 5 (by decide) (index := 13) (mm_at 54 rfl) rfl rfl dX6_format_40 ?_
      refine lv_iload_n hx hb dX6_format_43 rfl (lv_at hl 0 rfl) ?_
      refine mr_ald (X := z_321.toInt) E hM 2 1 rfl rfl rfl (by omega) dX6_format_44 ?_
      refine mm_if_le (X := (G_315 5 (Int32.toNatClampNeg z_321)).toInt) (tgt := 58) hx hb dX6_format_45 (by decide) rfl (fun c_322 => ?_) (fun c_322 => ?_)
      · have b_323 : 0 ≤ (F_314 40).toInt ∧ (F_314 40).toInt ≤ 1000 := hM.fb 40 rfl
        exact B_58 _ _ _ F_314 G_315 z_321 (show (8 ≤ z_321.toInt ∧ z_321.toInt ≤ 15) from by omega) (show (F_314 40).toInt ≤ (F 39).toInt from by omega) (show (F 40).toInt < (F_314 40).toInt from by omega) (show ¬ (F_314 41).toInt = 2 ∨ (65 ≤ (F_314 42).toInt ∧ (F_314 42).toInt ≤ 72) from by omega) (show mJ G G_315 from by exact mJ.tr mJ.rf ((fr_316.2 5 (by decide)).trans rfl) ((fr_316.2 11 (by decide)).trans rfl)) (show mI8x G_315 (Int32.toNatClampNeg z_321) from by exact mI8x.tr (mI8x.of hI8) ((fr_316.2 5 (by decide)).trans rfl) ((fr_316.2 11 (by decide)).trans rfl)) hM (lv_sub hl [1, 0] rfl)
      · refine lv_aload_n hx hb dX6_format_48 rfl (lv_at hl 1 rfl) ?_
        refine lv_iconst (v := 3) hx hb dX6_format_49 (by decide) ?_
        refine lv_aload_n hx hb dX6_format_50 rfl (lv_at hl 1 rfl) ?_
        have b_324 : 0 ≤ (F_314 43).toInt ∧ (F_314 43).toInt ≤ 1000 := hM.fb 43 rfl
        refine mr_get (v := .int (F_314 43)) E hM 43 (by decide) (index := 141) (mm_at 9 rfl) rfl rfl dX6_format_51 ?_
        refine mr_calli (av := [.int 3, .int (F_314 43)]) (rest := []) E hA hml hM (g3_X6_wrong l D h0 q cq F_314 G_315 _ 3 (F_314 43) hM.2.2.2.1 ) (cwV 2 hts gc_X6_format_X6_wrong_325 rfl rfl rfl (by decide +kernel) ⟨Nat.le_of_ble_eq_true rfl, Nat.le_of_ble_eq_true rfl⟩) rfl hl.1 rfl (Nat.le_of_ble_eq_true rfl) dX6_format_54 ⟨Nat.le_of_ble_eq_true rfl, Nat.le_of_ble_eq_true rfl⟩ (by decide) (by decide) (fun r_326 F_328 G_329 H locs fr_330 p_327 hM => ?_)
        replace p_327 : r_326.toInt = 0 := p_327
        have e_331 : (F_328 42).toInt = (F_314 42).toInt := (congrArg Int32.toInt (fr_330.1 42 (by decide))).trans rfl
        have b_332 : 0 ≤ (F_328 40).toInt ∧ (F_328 40).toInt ≤ 1000 := hM.fb 40 rfl
        have e_333 : (F_328 40).toInt = (F_314 40).toInt := (congrArg Int32.toInt (fr_330.1 40 (by decide))).trans rfl
        have b_334 : 0 ≤ (F_328 41).toInt ∧ (F_328 41).toInt ≤ 5 := hM.fb 41 rfl
        have e_335 : (F_328 41).toInt = (F_314 41).toInt := (congrArg Int32.toInt (fr_330.1 41 (by decide))).trans rfl
        exact mr_rz (X := r_326.toInt) E hr hlk hsz hM rfl (by omega) (show (F_328 40).toInt ≤ (F 39).toInt ∧ (F 40).toInt + r_326.toInt ≤ (F_328 40).toInt ∧ (¬ (F_328 41).toInt = 2 ∨ (65 ≤ (F_328 42).toInt ∧ (F_328 42).toInt ≤ 72)) ∧ (r_326.toInt = 0 ∨ r_326.toInt = 1) ∧ mJ G G_329 ∧ (r_326.toInt = 0 ∨ mI8 G_329) from by exact ⟨by omega, by omega, by omega, by omega, mJ.tr mJ.rf ((fr_330.2 5 (by decide)).trans ((fr_316.2 5 (by decide)).trans rfl)) ((fr_330.2 11 (by decide)).trans ((fr_316.2 11 (by decide)).trans rfl)), Or.inl (by omega)⟩) dX6_format_57
    · refine lv_aload_n hx hb dX6_format_18 rfl (lv_at hl 0 rfl) ?_
      refine lv_iconst (v := 1) hx hb dX6_format_19 (by decide) ?_
      refine lv_aload_n hx hb dX6_format_20 rfl (lv_at hl 0 rfl) ?_
      have b_336 : 0 ≤ (F_314 43).toInt ∧ (F_314 43).toInt ≤ 1000 := hM.fb 43 rfl
      refine mr_get (v := .int (F_314 43)) E hM 43 (by decide) (index := 141) (mm_at 9 rfl) rfl rfl dX6_format_21 ?_
      refine mr_calli (av := [.int 1, .int (F_314 43)]) (rest := []) E hA hml hM (g3_X6_wrong l D h0 q cq F_314 G_315 _ 1 (F_314 43) hM.2.2.2.1 ) (cwV 2 hts gc_X6_format_X6_wrong_337 rfl rfl rfl (by decide +kernel) ⟨Nat.le_of_ble_eq_true rfl, Nat.le_of_ble_eq_true rfl⟩) rfl hl.1 rfl (Nat.le_of_ble_eq_true rfl) dX6_format_24 ⟨Nat.le_of_ble_eq_true rfl, Nat.le_of_ble_eq_true rfl⟩ (by decide) (by decide) (fun r_338 F_340 G_341 H locs fr_342 p_339 hM => ?_)
      replace p_339 : r_338.toInt = 0 := p_339
      have e_343 : (F_340 42).toInt = (F_314 42).toInt := (congrArg Int32.toInt (fr_342.1 42 (by decide))).trans rfl
      have b_344 : 0 ≤ (F_340 40).toInt ∧ (F_340 40).toInt ≤ 1000 := hM.fb 40 rfl
      have e_345 : (F_340 40).toInt = (F_314 40).toInt := (congrArg Int32.toInt (fr_342.1 40 (by decide))).trans rfl
      have b_346 : 0 ≤ (F_340 41).toInt ∧ (F_340 41).toInt ≤ 5 := hM.fb 41 rfl
      have e_347 : (F_340 41).toInt = (F_314 41).toInt := (congrArg Int32.toInt (fr_342.1 41 (by decide))).trans rfl
      exact mr_rz (X := r_338.toInt) E hr hlk hsz hM rfl (by omega) (show (F_340 40).toInt ≤ (F 39).toInt ∧ (F 40).toInt + r_338.toInt ≤ (F_340 40).toInt ∧ (¬ (F_340 41).toInt = 2 ∨ (65 ≤ (F_340 42).toInt ∧ (F_340 42).toInt ≤ 72)) ∧ (r_338.toInt = 0 ∨ r_338.toInt = 1) ∧ mJ G G_341 ∧ (r_338.toInt = 0 ∨ mI8 G_341) from by exact ⟨by omega, by omega, by omega, by omega, mJ.tr mJ.rf ((fr_342.2 5 (by decide)).trans ((fr_316.2 5 (by decide)).trans rfl)) ((fr_342.2 11 (by decide)).trans ((fr_316.2 11 (by decide)).trans rfl)), Or.inl (by omega)⟩) dX6_format_27
  · refine lv_iconst (v := 0) hx hb dX6_format_8 (by decide) ?_
    have b_348 : 0 ≤ (F_314 40).toInt ∧ (F_314 40).toInt ≤ 1000 := hM.fb 40 rfl
    have b_349 : 0 ≤ (F_314 41).toInt ∧ (F_314 41).toInt ≤ 5 := hM.fb 41 rfl
    exact mr_rz (X := 0) E hr hlk hsz hM num_0 (by omega) (show (F_314 40).toInt ≤ (F 39).toInt ∧ (F 40).toInt + (0 : Int32).toInt ≤ (F_314 40).toInt ∧ (¬ (F_314 41).toInt = 2 ∨ (65 ≤ (F_314 42).toInt ∧ (F_314 42).toInt ≤ 72)) ∧ ((0 : Int32).toInt = 0 ∨ (0 : Int32).toInt = 1) ∧ mJ G G_315 ∧ ((0 : Int32).toInt = 0 ∨ mI8 G_315) from by have n9 := num_0; exact ⟨by omega, by omega, by omega, by omega, mJ.tr mJ.rf ((fr_316.2 5 (by decide)).trans rfl) ((fr_316.2 11 (by decide)).trans rfl), Or.inl (by omega)⟩) dX6_format_9
