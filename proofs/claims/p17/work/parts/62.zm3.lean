def zst (k : Nat → Nat) (n y : Nat) (h v : Int) (z : Nat) : Prop := (zW k n y (zwl 8) ∧ h = 0 ∧ v = 0 ∧ z = zty k n y) ∨ (zW k n y (zwl 10) ∧ h = 1 ∧ zN k n (zty k n y) 1 600 v ∧ z = zty k n (zty k n y)) ∨ (zW k n y (zwl 9) ∧ h = 2 ∧ zN k n (zty k n y) 0 3600 v ∧ z = zty k n (zty k n y))
theorem zst_uq {k : Nat → Nat} {n y : Nat} {h v h2 v2 : Int} {z z2 : Nat} (a : zst k n y h v z) (b : zst k n y h2 v2 z2) : h = h2 ∧ v = v2 ∧ z = z2 := by
  rcases a with ⟨w, e1, e2, e3⟩ | ⟨w, e1, e2, e3⟩ | ⟨w, e1, e2, e3⟩ <;> rcases b with ⟨w', e1', e2', e3'⟩ | ⟨w', e1', e2', e3'⟩ | ⟨w', e1', e2', e3'⟩
  all_goals first
    | exact absurd (zW_uq (by decide) (by decide) w w') (by decide)
    | exact ⟨e1.trans e1'.symm, e2.trans e2'.symm, e3.trans e3'.symm⟩
    | exact ⟨e1.trans e1'.symm, zN_uq e2 e2', e3.trans e3'.symm⟩
def w7X6_starts : List Cond := .code yX6_starts cX6_starts 3 (some .boolean) :: ([.fieldLink RX6 144 "SkiShotsModel" "kind" "I", .fieldLink RX6 141 "SkiShotsModel" "place" "I", .methodLink RX6 162 yX6_wrong, .instanceMethod yX6_wrong, .selects RX6 yX6_wrong yX6_wrong, .initialized RX6, .code yX6_wrong cX6_wrong 3 (some .boolean), .fieldLink RX6 132 "SkiShotsModel" "fault" "I", .fieldLink RX6 38 "SkiShotsModel" "faultPlace" "I", .fieldLink RX6 155 "SkiShotsModel" "which" "I", .fieldLink RX6 32 "SkiShotsModel" "startHow" "[I", .fieldLink RX6 35 "SkiShotsModel" "startNumber" "[I", .methodLink RX6 166 yX6_take, .instanceMethod yX6_take, .selects RX6 yX6_take yX6_take, .code yX6_take cX6_take 1 none, .fieldLink RX6 138 "SkiShotsModel" "next" "I", .methodLink RX6 158 yX6_isDigit, .instanceMethod yX6_isDigit, .selects RX6 yX6_isDigit yX6_isDigit, .code yX6_isDigit cX6_isDigit 2 (some .boolean), .fieldLink RX6 135 "SkiShotsModel" "size" "I", .fieldLink RX6 7 "SkiShotsModel" "tape" "[I", .constant RX6 161 (99999), .methodLink RX6 147 yX6_isSmall, .instanceMethod yX6_isSmall, .selects RX6 yX6_isSmall yX6_isSmall, .code yX6_isSmall cX6_isSmall 2 (some .boolean), .methodLink RX6 151 yX6_wordAt, .instanceMethod yX6_wordAt, .selects RX6 yX6_wordAt yX6_wordAt, .code yX6_wordAt cX6_wordAt 8 (some .int), .fieldLink RX6 102 "SkiShotsModel" "words" "[I", .methodLink RX6 172 yX6_number, .instanceMethod yX6_number, .selects RX6 yX6_number yX6_number, .code yX6_number cX6_number 3 (some .boolean), .fieldLink RX6 169 "SkiShotsModel" "read" "I"] ++ wsX60)
set_option maxRecDepth 20000 in
theorem g8_X6_starts_X6_wrong_5 : GoodIn w7X6_starts (wsV RX6 162 RX6 yX6_wrong w3X6_wrong) := goodIn_p _ [7] rfl (by decide +kernel)
set_option maxRecDepth 20000 in
theorem g8_X6_starts_X6_take_22 : GoodIn w7X6_starts (wsV RX6 166 RX6 yX6_take w7X6_take) := goodIn_p _ [16, 21, 28, 32] rfl (by decide +kernel)
set_option maxRecDepth 20000 in
theorem g8_X6_starts_X6_take_40 : GoodIn w7X6_starts (wsV RX6 166 RX6 yX6_take w7X6_take) := goodIn_p _ [16, 21, 28, 32] rfl (by decide +kernel)
set_option maxRecDepth 20000 in
theorem g8_X6_starts_X6_number_55 : GoodIn w7X6_starts (wsV RX6 172 RX6 yX6_number w7X6_number) := goodIn_p _ [37, 7, 16, 21, 28, 32] rfl (by decide +kernel)
set_option maxRecDepth 20000 in
theorem g8_X6_starts_X6_wrong_81 : GoodIn w7X6_starts (wsV RX6 162 RX6 yX6_wrong w3X6_wrong) := goodIn_p _ [7] rfl (by decide +kernel)
set_option maxRecDepth 20000 in
theorem g8_X6_starts_X6_take_97 : GoodIn w7X6_starts (wsV RX6 166 RX6 yX6_take w7X6_take) := goodIn_p _ [16, 21, 28, 32] rfl (by decide +kernel)
set_option maxRecDepth 20000 in
theorem g8_X6_starts_X6_number_112 : GoodIn w7X6_starts (wsV RX6 172 RX6 yX6_number w7X6_number) := goodIn_p _ [37, 7, 16, 21, 28, 32] rfl (by decide +kernel)
set_option maxHeartbeats 4000000 in
set_option maxRecDepth 100000 in
theorem g7_X6_starts (l : Launch) (D : va_G) (h0 : Nat) (q : Nat → Nat) (cq : Nat → ClassId) (F : Nat → Int32) (G : Nat → Nat → Int32) (sz : Nat) (p0 : Int32) (hI : mI F G) (kz : Nat → Nat) (nz : Nat) (xz : Nat) (htx : mTx kz nz F G) (hat : (F 43).toInt = (ztp kz xz : Int) ∧ (F 40).toInt = (zty kz nz xz : Int) ∧ mKW kz nz xz (F 41).toInt (F 42).toInt) (k0 : 8 ≤ p0.toInt ∧ p0.toInt < 16) (hns : (F 40).toInt ≤ (F 39).toInt) (hk2 : ¬ (F 41).toInt = 2 ∨ (65 ≤ (F 42).toInt ∧ (F 42).toInt ≤ 72)) : Met l yX6_starts w7X6_starts ({ frames := 3, cells := 0, slots := 0, locals := 69 }) (mPre D h0 q cq F G sz [.ref h0, .int p0]) (mQi D h0 q cq F G sz [13, 14, 40, 41, 42, 43, 44] [11, 12] (fun r F' G' => (F' 40).toInt ≤ (F 39).toInt ∧ (F 40).toInt ≤ (F' 40).toInt ∧ (¬ (F' 41).toInt = 2 ∨ (65 ≤ (F' 42).toInt ∧ (F' 42).toInt ≤ 72)) ∧ ((r.toInt = 1 ∧ ∃ z : Nat, zst kz nz xz ((G' 11 (Int32.toNatClampNeg p0)).toInt - 9) (G' 12 (Int32.toNatClampNeg p0)).toInt z ∧ (F' 43).toInt = (ztp kz z : Int) ∧ (F' 40).toInt = (zty kz nz z : Int) ∧ mKW kz nz z (F' 41).toInt (F' 42).toInt) ∨ (r.toInt = 0 ∧ ∀ (h v : Int) (z : Nat), ¬ zst kz nz xz h v z)) ∧ (∀ j : Nat, ¬ j = (Int32.toNatClampNeg p0) → G' 11 j = G 11 j) ∧ (∀ j : Nat, ¬ j = (Int32.toNatClampNeg p0) → G' 12 j = G 12 j))) 0 0 (va_A (mW h0 q cq F G) sz) := by
  refine mr_met (WF := [13, 14, 40, 41, 42, 43, 44]) (WG := [11, 12]) (cc := cX6_starts) (maxL := 3) (ret := (some .boolean)) (by decide) rfl rfl (by decide +kernel) (Nat.le_of_ble_eq_true rfl) hI ?_
  intro p e s m args below meth c ls E hml hr hlk hsz hA hM hl
  have hx := E.1
  have hb := E.2.1
  have hts := E.2.2.1
  have hown := E.2.2.2.2.1
  have hl : lv_has ls 3 [(0, .ref h0), (1, .int p0)] := hl
  have hou := mTx_out htx
  have hsz9 := htx.2
  refine lv_aload_n hx hb dX6_starts_0 rfl (lv_at hl 0 rfl) ?_
  have b_1 : 0 ≤ (F 41).toInt ∧ (F 41).toInt ≤ 5 := hM.fb 41 rfl
  refine mr_get (v := .int (F 41)) E hM 41 (by decide) (index := 144) (mm_at 1 rfl) rfl rfl dX6_starts_1 ?_
  refine lv_iconst (v := 1) hx hb dX6_starts_4 (by decide) ?_
  refine mm_icmp_ne (X := (F 41).toInt) (Y := 1) (tgt := 39) hx hb dX6_starts_5 (by decide) rfl num_1 (fun c_2 => ?_) (fun c_2 => ?_)
  · refine lv_iconst (v := 0) hx hb dX6_starts_39 (by decide) ?_
    refine lv_istore_n (lv' := [(2, .int 0), (0, .ref h0), (1, .int p0)]) hx hb dX6_starts_40 rfl hl (by decide) rfl (fun ls hl => ?_)
    refine lv_iload_n hx hb dX6_starts_41 rfl (lv_at hl 0 rfl) ?_
    refine mm_if_ne (X := 0) (tgt := 55) hx hb dX6_starts_42 (by decide) num_0 (fun c_3 => False.elim (by omega)) (fun c_3 => ?_)
    refine lv_aload_n hx hb dX6_starts_45 rfl (lv_at hl 1 rfl) ?_
    refine lv_iconst (v := 1) hx hb dX6_starts_46 (by decide) ?_
    refine lv_aload_n hx hb dX6_starts_47 rfl (lv_at hl 1 rfl) ?_
    have b_4 : 0 ≤ (F 43).toInt ∧ (F 43).toInt ≤ 1000 := hM.fb 43 rfl
    refine mr_get (v := .int (F 43)) E hM 43 (by decide) (index := 141) (mm_at 2 rfl) rfl rfl dX6_starts_48 ?_
    refine mr_calli (av := [.int 1, .int (F 43)]) (rest := []) E hA hml hM (g3_X6_wrong l D h0 q cq F G _ 1 (F 43) hM.2.2.2.1 ) (cwV 2 hts g8_X6_starts_X6_wrong_5 rfl rfl rfl (by decide +kernel) ⟨Nat.le_of_ble_eq_true rfl, Nat.le_of_ble_eq_true rfl⟩) rfl hl.1 rfl (Nat.le_of_ble_eq_true rfl) dX6_starts_51 ⟨Nat.le_of_ble_eq_true rfl, Nat.le_of_ble_eq_true rfl⟩ (by decide) (by decide) (fun r_6 F_8 G_9 H locs fr_10 p_7 hM => ?_)
    replace p_7 : r_6.toInt = 0 := p_7
    have b_11 : 0 ≤ (F_8 40).toInt ∧ (F_8 40).toInt ≤ 1000 := hM.fb 40 rfl
    have e_12 : (F_8 40).toInt = (F 40).toInt := (congrArg Int32.toInt (fr_10.1 40 (by decide))).trans rfl
    have e_13 : (F_8 42).toInt = (F 42).toInt := (congrArg Int32.toInt (fr_10.1 42 (by decide))).trans rfl
    have b_14 : 0 ≤ (F_8 43).toInt ∧ (F_8 43).toInt ≤ 1000 := hM.fb 43 rfl
    have e_15 : (F_8 43).toInt = (F 43).toInt := (congrArg Int32.toInt (fr_10.1 43 (by decide))).trans rfl
    have b_16 : 0 ≤ (F_8 41).toInt ∧ (F_8 41).toInt ≤ 5 := hM.fb 41 rfl
    have e_17 : (F_8 41).toInt = (F 41).toInt := (congrArg Int32.toInt (fr_10.1 41 (by decide))).trans rfl
    exact mr_rz (X := r_6.toInt) E hr hlk hsz hM rfl (by omega) (show (F_8 40).toInt ≤ (F 39).toInt ∧ (F 40).toInt ≤ (F_8 40).toInt ∧ (¬ (F_8 41).toInt = 2 ∨ (65 ≤ (F_8 42).toInt ∧ (F_8 42).toInt ≤ 72)) ∧ ((r_6.toInt = 1 ∧ ∃ z : Nat, zst kz nz xz ((G_9 11 (Int32.toNatClampNeg p0)).toInt - 9) (G_9 12 (Int32.toNatClampNeg p0)).toInt z ∧ (F_8 43).toInt = (ztp kz z : Int) ∧ (F_8 40).toInt = (zty kz nz z : Int) ∧ mKW kz nz z (F_8 41).toInt (F_8 42).toInt) ∨ (r_6.toInt = 0 ∧ ∀ (h v : Int) (z : Nat), ¬ zst kz nz xz h v z)) ∧ (∀ j : Nat, ¬ j = (Int32.toNatClampNeg p0) → G_9 11 j = G 11 j) ∧ (∀ j : Nat, ¬ j = (Int32.toNatClampNeg p0) → G_9 12 j = G 12 j) from by have h8 := mKW_W hou hat.2.2 (i := 8) (by decide); have h9 := mKW_W hou hat.2.2 (i := 9) (by decide); have h10 := mKW_W hou hat.2.2 (i := 10) (by decide); rw [show zid 8 = 9 from by decide] at h8; rw [show zid 9 = 11 from by decide] at h9; rw [show zid 10 = 10 from by decide] at h10; exact ⟨by omega, by omega, by omega, Or.inr ⟨by omega, fun h v z q => q.elim (fun a => by have := h8.mp a.1; omega) (fun a => a.elim (fun a => by have := h10.mp a.1; omega) (fun a => by have := h9.mp a.1; omega))⟩, (fun j hj => ((congrFun (fr_10.2 11 (by decide)) j).trans rfl)), (fun j hj => ((congrFun (fr_10.2 12 (by decide)) j).trans rfl))⟩) dX6_starts_54
  · refine lv_aload_n hx hb dX6_starts_8 rfl (lv_at hl 0 rfl) ?_
    refine mr_get (v := .int (F 42)) E hM 42 (by decide) (index := 155) (mm_at 10 rfl) rfl rfl dX6_starts_9 ?_
    refine lv_bipush (v := 9) hx hb dX6_starts_12 (by decide) ?_
    refine mm_icmp_eq (X := (F 42).toInt) (Y := 9) (tgt := 35) hx hb dX6_starts_14 (by decide) rfl num_9 (fun c_18 => ?_) (fun c_18 => ?_)
    · refine lv_iconst (v := 1) hx hb dX6_starts_35 (by decide) ?_
      refine lv_goto (tgt := 40) hx hb dX6_starts_36 (by decide) ?_
      refine lv_istore_n (lv' := [(2, .int 1), (0, .ref h0), (1, .int p0)]) hx hb dX6_starts_40 rfl hl (by decide) rfl (fun ls hl => ?_)
      refine lv_iload_n hx hb dX6_starts_41 rfl (lv_at hl 0 rfl) ?_
      refine mm_if_ne (X := 1) (tgt := 55) hx hb dX6_starts_42 (by decide) num_1 (fun c_19 => ?_) (fun c_19 => False.elim (by omega))
      refine lv_aload_n hx hb dX6_starts_55 rfl (lv_at hl 1 rfl) ?_
      refine mr_get (v := .ref (q 11)) E hM 11 (by decide) (index := 32) (mm_at 11 rfl) rfl rfl dX6_starts_56 ?_
      refine lv_iload_n hx hb dX6_starts_59 rfl (lv_at hl 2 rfl) ?_
      refine lv_aload_n hx hb dX6_starts_60 rfl (lv_at hl 1 rfl) ?_
      refine mr_get (v := .int (F 42)) E hM 42 (by decide) (index := 155) (mm_at 10 rfl) rfl rfl dX6_starts_61 ?_
      refine mr_ast (X := p0.toInt) E hM 11 8 7 rfl rfl rfl (by omega) mg_11 (by decide) (mm_nbA rfl) (by decide) dX6_starts_64 (fun H locs G_20 eG_20 hM => ?_)
      refine lv_aload_n hx hb dX6_starts_65 rfl (lv_at hl 1 rfl) ?_
      refine mr_get (v := .ref (q 12)) E hM 12 (by decide) (index := 35) (mm_at 12 rfl) rfl rfl dX6_starts_66 ?_
      refine lv_iload_n hx hb dX6_starts_69 rfl (lv_at hl 2 rfl) ?_
      refine lv_iconst (v := 0) hx hb dX6_starts_70 (by decide) ?_
      refine mr_ast (X := p0.toInt) E hM 12 9 8 rfl rfl rfl (by omega) mg_12 (by decide) (mm_nbA rfl) (by decide) dX6_starts_71 (fun H locs G_21 eG_21 hM => ?_)
      refine lv_aload_n hx hb dX6_starts_72 rfl (lv_at hl 1 rfl) ?_
      have b_23 : 0 ≤ (F 40).toInt ∧ (F 40).toInt ≤ 1000 := hM.fb 40 rfl
      have b_24 : 0 ≤ (F 39).toInt ∧ (F 39).toInt ≤ 1000 := hM.fb 39 rfl
      refine mr_callv (av := []) (rest := []) E hA hml hM (g7_X6_take l D h0 q cq F G_21 _  hM.2.2.2.1 kz nz (zty kz nz xz) (mTx_fr htx hM.fr (by decide) (by decide)) (show (F 40).toInt = ((zty kz nz xz) : Int) from by omega) (show (F 40).toInt ≤ (F 39).toInt from by omega)) (cwV 0 hts g8_X6_starts_X6_take_22 rfl rfl rfl (by decide +kernel) ⟨Nat.le_of_ble_eq_true rfl, Nat.le_of_ble_eq_true rfl⟩) rfl hl.1 rfl (Nat.le_of_ble_eq_true rfl) dX6_starts_73 ⟨Nat.le_of_ble_eq_true rfl, Nat.le_of_ble_eq_true rfl⟩ (by decide) (by decide) (fun F_27 G_28 H locs fr_29 p_26 hM => ?_)
      replace p_26 : (F_27 40).toInt ≤ (F 39).toInt ∧ (F 40).toInt ≤ (F_27 40).toInt ∧ ((F_27 41).toInt = 0 ∨ (F 40).toInt < (F_27 40).toInt) ∧ (¬ (F_27 41).toInt = 2 ∨ (65 ≤ (F_27 42).toInt ∧ (F_27 42).toInt ≤ 72)) ∧ (F_27 43).toInt = (ztp kz (zty kz nz xz) : Int) ∧ (F_27 40).toInt = (zty kz nz (zty kz nz xz) : Int) ∧ mKW kz nz (zty kz nz xz) (F_27 41).toInt (F_27 42).toInt := p_26
      rcases p_26 with ⟨t1_30, t2_30, t3_30, t4_30, a1_30, a2_30, kw_30⟩
      refine lv_aload_n hx hb dX6_starts_76 rfl (lv_at hl 1 rfl) ?_
      refine mr_get (v := .ref (q 11)) E hM 11 (by decide) (index := 32) (mm_at 11 rfl) rfl rfl dX6_starts_77 ?_
      refine lv_iload_n hx hb dX6_starts_80 rfl (lv_at hl 2 rfl) ?_
      refine mr_ald (X := p0.toInt) E hM 8 7 rfl rfl rfl (by omega) dX6_starts_81 ?_
      have gh_31 : (G_28 11 (Int32.toNatClampNeg p0)).toInt = 9 := by rw [show (G_28 11 (Int32.toNatClampNeg p0)) = (F 42) from by rw [((fr_29.2 11 (by decide)).trans ((show G_21 11 = G_20 11 from by rw [eG_21]; rfl).trans ((show G_20 11 = upd (G 11) (Int32.toNatClampNeg p0) ((F 42)) from by rw [eG_20]; rfl).trans (congrArg (fun z => upd z (Int32.toNatClampNeg p0) ((F 42))) rfl))))]; simp only [upd, if_true]]; omega
      refine lv_bipush (v := 9) hx hb dX6_starts_82 (by decide) ?_
      refine mm_icmp_ne (X := (G_28 11 (Int32.toNatClampNeg p0)).toInt) (Y := 9) (tgt := 89) hx hb dX6_starts_84 (by decide) rfl num_9 (fun c_32 => False.elim (by omega)) (fun c_32 => ?_)
      refine lv_iconst (v := 1) hx hb dX6_starts_87 (by decide) ?_
      have b_33 : 0 ≤ (F_27 40).toInt ∧ (F_27 40).toInt ≤ 1000 := hM.fb 40 rfl
      have b_34 : 0 ≤ (F_27 43).toInt ∧ (F_27 43).toInt ≤ 1000 := hM.fb 43 rfl
      have b_35 : 0 ≤ (F_27 41).toInt ∧ (F_27 41).toInt ≤ 5 := hM.fb 41 rfl
      exact mr_rz (X := 1) E hr hlk hsz hM num_1 (by omega) (show (F_27 40).toInt ≤ (F 39).toInt ∧ (F 40).toInt ≤ (F_27 40).toInt ∧ (¬ (F_27 41).toInt = 2 ∨ (65 ≤ (F_27 42).toInt ∧ (F_27 42).toInt ≤ 72)) ∧ (((1 : Int32).toInt = 1 ∧ ∃ z : Nat, zst kz nz xz ((G_28 11 (Int32.toNatClampNeg p0)).toInt - 9) (G_28 12 (Int32.toNatClampNeg p0)).toInt z ∧ (F_27 43).toInt = (ztp kz z : Int) ∧ (F_27 40).toInt = (zty kz nz z : Int) ∧ mKW kz nz z (F_27 41).toInt (F_27 42).toInt) ∨ ((1 : Int32).toInt = 0 ∧ ∀ (h v : Int) (z : Nat), ¬ zst kz nz xz h v z)) ∧ (∀ j : Nat, ¬ j = (Int32.toNatClampNeg p0) → G_28 11 j = G 11 j) ∧ (∀ j : Nat, ¬ j = (Int32.toNatClampNeg p0) → G_28 12 j = G 12 j) from by have n9 := num_1; have h8 := mKW_W hou hat.2.2 (i := 8) (by decide); have h9 := mKW_W hou hat.2.2 (i := 9) (by decide); have h10 := mKW_W hou hat.2.2 (i := 10) (by decide); rw [show zid 8 = 9 from by decide] at h8; rw [show zid 9 = 11 from by decide] at h9; rw [show zid 10 = 10 from by decide] at h10; have q11 : (G_28 11 (Int32.toNatClampNeg p0)).toInt = 9 := (by rw [((congrFun (fr_29.2 11 (by decide)) _).trans ((congrFun (show G_21 11 = G_20 11 from by rw [eG_21]; rfl) _).trans (show G_20 11 (Int32.toNatClampNeg p0) = (F 42) from by rw [eG_20]; simp only [mUp, if_true, upd])))]; omega); have q12 : (G_28 12 (Int32.toNatClampNeg p0)).toInt = 0 := (by rw [((congrFun (fr_29.2 12 (by decide)) _).trans (show G_21 12 (Int32.toNatClampNeg p0) = 0 from by rw [eG_21]; simp only [mUp, if_true, upd]))]; decide); exact ⟨by omega, by omega, by omega, Or.inl ⟨by omega, (zty kz nz xz), Or.inl ⟨h8.mpr ⟨by omega, by omega⟩, by omega, by omega, rfl⟩, a1_30, a2_30, kw_30⟩, (fun j hj => ((congrFun (fr_29.2 11 (by decide)) j).trans ((congrFun (show G_21 11 = G_20 11 from by rw [eG_21]; simp only [mUp]; rfl) j).trans ((show G_20 11 j = G 11 j from by rw [eG_20]; simp only [mUp, if_true, upd]; rw [if_neg hj]).trans rfl)))), (fun j hj => ((congrFun (fr_29.2 12 (by decide)) j).trans ((show G_21 12 j = G_20 12 j from by rw [eG_21]; simp only [mUp, if_true, upd]; rw [if_neg hj]).trans ((congrFun (show G_20 12 = G 12 from by rw [eG_20]; simp only [mUp]; rfl) j).trans rfl))))⟩) dX6_starts_88
    · refine lv_aload_n hx hb dX6_starts_17 rfl (lv_at hl 0 rfl) ?_
      refine mr_get (v := .int (F 42)) E hM 42 (by decide) (index := 155) (mm_at 10 rfl) rfl rfl dX6_starts_18 ?_
      refine lv_bipush (v := 10) hx hb dX6_starts_21 (by decide) ?_
      refine mm_icmp_eq (X := (F 42).toInt) (Y := 10) (tgt := 35) hx hb dX6_starts_23 (by decide) rfl num_10 (fun c_36 => ?_) (fun c_36 => ?_)
      · refine lv_iconst (v := 1) hx hb dX6_starts_35 (by decide) ?_
        refine lv_goto (tgt := 40) hx hb dX6_starts_36 (by decide) ?_
        refine lv_istore_n (lv' := [(2, .int 1), (0, .ref h0), (1, .int p0)]) hx hb dX6_starts_40 rfl hl (by decide) rfl (fun ls hl => ?_)
        refine lv_iload_n hx hb dX6_starts_41 rfl (lv_at hl 0 rfl) ?_
        refine mm_if_ne (X := 1) (tgt := 55) hx hb dX6_starts_42 (by decide) num_1 (fun c_37 => ?_) (fun c_37 => False.elim (by omega))
        refine lv_aload_n hx hb dX6_starts_55 rfl (lv_at hl 1 rfl) ?_
        refine mr_get (v := .ref (q 11)) E hM 11 (by decide) (index := 32) (mm_at 11 rfl) rfl rfl dX6_starts_56 ?_
        refine lv_iload_n hx hb dX6_starts_59 rfl (lv_at hl 2 rfl) ?_
        refine lv_aload_n hx hb dX6_starts_60 rfl (lv_at hl 1 rfl) ?_
        refine mr_get (v := .int (F 42)) E hM 42 (by decide) (index := 155) (mm_at 10 rfl) rfl rfl dX6_starts_61 ?_
        refine mr_ast (X := p0.toInt) E hM 11 8 7 rfl rfl rfl (by omega) mg_11 (by decide) (mm_nbA rfl) (by decide) dX6_starts_64 (fun H locs G_38 eG_38 hM => ?_)
        refine lv_aload_n hx hb dX6_starts_65 rfl (lv_at hl 1 rfl) ?_
        refine mr_get (v := .ref (q 12)) E hM 12 (by decide) (index := 35) (mm_at 12 rfl) rfl rfl dX6_starts_66 ?_
        refine lv_iload_n hx hb dX6_starts_69 rfl (lv_at hl 2 rfl) ?_
        refine lv_iconst (v := 0) hx hb dX6_starts_70 (by decide) ?_
        refine mr_ast (X := p0.toInt) E hM 12 9 8 rfl rfl rfl (by omega) mg_12 (by decide) (mm_nbA rfl) (by decide) dX6_starts_71 (fun H locs G_39 eG_39 hM => ?_)
        refine lv_aload_n hx hb dX6_starts_72 rfl (lv_at hl 1 rfl) ?_
        have b_41 : 0 ≤ (F 40).toInt ∧ (F 40).toInt ≤ 1000 := hM.fb 40 rfl
        have b_42 : 0 ≤ (F 39).toInt ∧ (F 39).toInt ≤ 1000 := hM.fb 39 rfl
        refine mr_callv (av := []) (rest := []) E hA hml hM (g7_X6_take l D h0 q cq F G_39 _  hM.2.2.2.1 kz nz (zty kz nz xz) (mTx_fr htx hM.fr (by decide) (by decide)) (show (F 40).toInt = ((zty kz nz xz) : Int) from by omega) (show (F 40).toInt ≤ (F 39).toInt from by omega)) (cwV 0 hts g8_X6_starts_X6_take_40 rfl rfl rfl (by decide +kernel) ⟨Nat.le_of_ble_eq_true rfl, Nat.le_of_ble_eq_true rfl⟩) rfl hl.1 rfl (Nat.le_of_ble_eq_true rfl) dX6_starts_73 ⟨Nat.le_of_ble_eq_true rfl, Nat.le_of_ble_eq_true rfl⟩ (by decide) (by decide) (fun F_45 G_46 H locs fr_47 p_44 hM => ?_)
        replace p_44 : (F_45 40).toInt ≤ (F 39).toInt ∧ (F 40).toInt ≤ (F_45 40).toInt ∧ ((F_45 41).toInt = 0 ∨ (F 40).toInt < (F_45 40).toInt) ∧ (¬ (F_45 41).toInt = 2 ∨ (65 ≤ (F_45 42).toInt ∧ (F_45 42).toInt ≤ 72)) ∧ (F_45 43).toInt = (ztp kz (zty kz nz xz) : Int) ∧ (F_45 40).toInt = (zty kz nz (zty kz nz xz) : Int) ∧ mKW kz nz (zty kz nz xz) (F_45 41).toInt (F_45 42).toInt := p_44
        rcases p_44 with ⟨t1_48, t2_48, t3_48, t4_48, a1_48, a2_48, kw_48⟩
        refine lv_aload_n hx hb dX6_starts_76 rfl (lv_at hl 1 rfl) ?_
        refine mr_get (v := .ref (q 11)) E hM 11 (by decide) (index := 32) (mm_at 11 rfl) rfl rfl dX6_starts_77 ?_
        refine lv_iload_n hx hb dX6_starts_80 rfl (lv_at hl 2 rfl) ?_
        refine mr_ald (X := p0.toInt) E hM 8 7 rfl rfl rfl (by omega) dX6_starts_81 ?_
        have gh_49 : (G_46 11 (Int32.toNatClampNeg p0)).toInt = 10 := by rw [show (G_46 11 (Int32.toNatClampNeg p0)) = (F 42) from by rw [((fr_47.2 11 (by decide)).trans ((show G_39 11 = G_38 11 from by rw [eG_39]; rfl).trans ((show G_38 11 = upd (G 11) (Int32.toNatClampNeg p0) ((F 42)) from by rw [eG_38]; rfl).trans (congrArg (fun z => upd z (Int32.toNatClampNeg p0) ((F 42))) rfl))))]; simp only [upd, if_true]]; omega
        refine lv_bipush (v := 9) hx hb dX6_starts_82 (by decide) ?_
        refine mm_icmp_ne (X := (G_46 11 (Int32.toNatClampNeg p0)).toInt) (Y := 9) (tgt := 89) hx hb dX6_starts_84 (by decide) rfl num_9 (fun c_50 => ?_) (fun c_50 => False.elim (by omega))
        refine lv_aload_n hx hb dX6_starts_89 rfl (lv_at hl 1 rfl) ?_
        refine lv_aload_n hx hb dX6_starts_90 rfl (lv_at hl 1 rfl) ?_
        refine mr_get (v := .ref (q 11)) E hM 11 (by decide) (index := 32) (mm_at 11 rfl) rfl rfl dX6_starts_91 ?_
        refine lv_iload_n hx hb dX6_starts_94 rfl (lv_at hl 2 rfl) ?_
        refine mr_ald (X := p0.toInt) E hM 8 7 rfl rfl rfl (by omega) dX6_starts_95 ?_
        have gh_51 : (G_46 11 (Int32.toNatClampNeg p0)).toInt = 10 := by rw [show (G_46 11 (Int32.toNatClampNeg p0)) = (F 42) from by rw [((fr_47.2 11 (by decide)).trans ((show G_39 11 = G_38 11 from by rw [eG_39]; rfl).trans ((show G_38 11 = upd (G 11) (Int32.toNatClampNeg p0) ((F 42)) from by rw [eG_38]; rfl).trans (congrArg (fun z => upd z (Int32.toNatClampNeg p0) ((F 42))) rfl))))]; simp only [upd, if_true]]; omega
        refine lv_bipush (v := 10) hx hb dX6_starts_96 (by decide) ?_
        refine mm_icmp_ne (X := (G_46 11 (Int32.toNatClampNeg p0)).toInt) (Y := 10) (tgt := 105) hx hb dX6_starts_98 (by decide) rfl num_10 (fun c_52 => False.elim (by omega)) (fun c_52 => ?_)
        refine lv_iconst (v := 1) hx hb dX6_starts_101 (by decide) ?_
        refine lv_goto (tgt := 106) hx hb dX6_starts_102 (by decide) ?_
        refine lv_aload_n hx hb dX6_starts_106 rfl (lv_at hl 1 rfl) ?_
        refine mr_get (v := .ref (q 11)) E hM 11 (by decide) (index := 32) (mm_at 11 rfl) rfl rfl dX6_starts_107 ?_
        refine lv_iload_n hx hb dX6_starts_110 rfl (lv_at hl 2 rfl) ?_
        refine mr_ald (X := p0.toInt) E hM 8 7 rfl rfl rfl (by omega) dX6_starts_111 ?_
        have gh_53 : (G_46 11 (Int32.toNatClampNeg p0)).toInt = 10 := by rw [show (G_46 11 (Int32.toNatClampNeg p0)) = (F 42) from by rw [((fr_47.2 11 (by decide)).trans ((show G_39 11 = G_38 11 from by rw [eG_39]; rfl).trans ((show G_38 11 = upd (G 11) (Int32.toNatClampNeg p0) ((F 42)) from by rw [eG_38]; rfl).trans (congrArg (fun z => upd z (Int32.toNatClampNeg p0) ((F 42))) rfl))))]; simp only [upd, if_true]]; omega
        refine lv_bipush (v := 10) hx hb dX6_starts_112 (by decide) ?_
        refine mm_icmp_ne (X := (G_46 11 (Int32.toNatClampNeg p0)).toInt) (Y := 10) (tgt := 123) hx hb dX6_starts_114 (by decide) rfl num_10 (fun c_54 => False.elim (by omega)) (fun c_54 => ?_)
        refine lv_sipush (v := 600) hx hb dX6_starts_117 (by decide) ?_
        refine lv_goto (tgt := 126) hx hb dX6_starts_120 (by decide) ?_
        have b_56 : 0 ≤ (F_45 40).toInt ∧ (F_45 40).toInt ≤ 1000 := hM.fb 40 rfl
        have b_57 : 0 ≤ (F_45 39).toInt ∧ (F_45 39).toInt ≤ 1000 := hM.fb 39 rfl
        have e_58 : (F_45 39).toInt = (F 39).toInt := (congrArg Int32.toInt (fr_47.1 39 (by decide))).trans rfl
        have b_59 : 0 ≤ (F_45 43).toInt ∧ (F_45 43).toInt ≤ 1000 := hM.fb 43 rfl
        have b_60 : 0 ≤ (F_45 41).toInt ∧ (F_45 41).toInt ≤ 5 := hM.fb 41 rfl
        refine mr_calli (av := [.int 1, .int 600]) (rest := []) E hA hml hM (g7_X6_number l D h0 q cq F_45 G_46 _ 1 600 hM.2.2.2.1 kz nz (zty kz nz xz) (mTx_fr htx hM.fr (by decide) (by decide)) ⟨a1_48, a2_48, kw_48⟩ (show (F_45 40).toInt ≤ (F_45 39).toInt from by have n_0 := num_1; have n_1 := num_600; omega) (show ¬ (F_45 41).toInt = 2 ∨ (65 ≤ (F_45 42).toInt ∧ (F_45 42).toInt ≤ 72) from by have n_0 := num_1; have n_1 := num_600; omega) (show (1 : Int32).toInt ≤ 99999 from by have n_0 := num_1; have n_1 := num_600; omega) (show (600 : Int32).toInt ≤ 99999 from by have n_0 := num_1; have n_1 := num_600; omega)) (cwV 2 hts g8_X6_starts_X6_number_55 rfl rfl rfl (by decide +kernel) ⟨Nat.le_of_ble_eq_true rfl, Nat.le_of_ble_eq_true rfl⟩) rfl hl.1 rfl (Nat.le_of_ble_eq_true rfl) dX6_starts_126 ⟨Nat.le_of_ble_eq_true rfl, Nat.le_of_ble_eq_true rfl⟩ (by decide) (by decide) (fun r_61 F_63 G_64 H locs fr_65 p_62 hM => ?_)
        replace p_62 : (F_63 40).toInt ≤ (F_45 39).toInt ∧ (F_45 40).toInt ≤ (F_63 40).toInt ∧ (¬ (F_63 41).toInt = 2 ∨ (65 ≤ (F_63 42).toInt ∧ (F_63 42).toInt ≤ 72)) ∧ ((r_61.toInt = 1 ∧ zN kz nz (zty kz nz xz) (1 : Int32).toInt (600 : Int32).toInt (F_63 44).toInt ∧ (F_63 43).toInt = (ztp kz (zty kz nz (zty kz nz xz)) : Int) ∧ (F_63 40).toInt = (zty kz nz (zty kz nz (zty kz nz xz)) : Int) ∧ mKW kz nz (zty kz nz (zty kz nz xz)) (F_63 41).toInt (F_63 42).toInt) ∨ (r_61.toInt = 0 ∧ ∀ v : Int, ¬ zN kz nz (zty kz nz xz) (1 : Int32).toInt (600 : Int32).toInt v)) := p_62
        have nn_66 := num_1
        have nn_67 := num_600
        rcases p_62 with ⟨t1_68, t2_68, t3_68, ⟨hr_68, w_68, a1_68, a2_68, kw_68⟩ | ⟨hr_68, w_68⟩⟩
        · rw [num_1, num_600] at w_68
          refine mm_if_ne (X := r_61.toInt) (tgt := 134) hx hb dX6_starts_129 (by decide) rfl (fun c_69 => ?_) (fun c_69 => False.elim (by omega))
          refine lv_aload_n hx hb dX6_starts_134 rfl (lv_at hl 1 rfl) ?_
          refine mr_get (v := .ref (q 12)) E hM 12 (by decide) (index := 35) (mm_at 12 rfl) rfl rfl dX6_starts_135 ?_
          refine lv_iload_n hx hb dX6_starts_138 rfl (lv_at hl 2 rfl) ?_
          refine lv_aload_n hx hb dX6_starts_139 rfl (lv_at hl 1 rfl) ?_
          refine mr_get (v := .int (F_63 44)) E hM 44 (by decide) (index := 169) (mm_at 38 rfl) rfl rfl dX6_starts_140 ?_
          refine mr_ast (X := p0.toInt) E hM 12 9 8 rfl rfl rfl (by omega) mg_12 (by decide) (mm_nbA rfl) (by decide) dX6_starts_143 (fun H locs G_70 eG_70 hM => ?_)
          refine lv_iconst (v := 1) hx hb dX6_starts_144 (by decide) ?_
          have b_71 : 0 ≤ (F_63 40).toInt ∧ (F_63 40).toInt ≤ 1000 := hM.fb 40 rfl
          have b_72 : 0 ≤ (F_63 43).toInt ∧ (F_63 43).toInt ≤ 1000 := hM.fb 43 rfl
          have b_73 : 0 ≤ (F_63 41).toInt ∧ (F_63 41).toInt ≤ 5 := hM.fb 41 rfl
          exact mr_rz (X := 1) E hr hlk hsz hM num_1 (by omega) (show (F_63 40).toInt ≤ (F 39).toInt ∧ (F 40).toInt ≤ (F_63 40).toInt ∧ (¬ (F_63 41).toInt = 2 ∨ (65 ≤ (F_63 42).toInt ∧ (F_63 42).toInt ≤ 72)) ∧ (((1 : Int32).toInt = 1 ∧ ∃ z : Nat, zst kz nz xz ((G_70 11 (Int32.toNatClampNeg p0)).toInt - 9) (G_70 12 (Int32.toNatClampNeg p0)).toInt z ∧ (F_63 43).toInt = (ztp kz z : Int) ∧ (F_63 40).toInt = (zty kz nz z : Int) ∧ mKW kz nz z (F_63 41).toInt (F_63 42).toInt) ∨ ((1 : Int32).toInt = 0 ∧ ∀ (h v : Int) (z : Nat), ¬ zst kz nz xz h v z)) ∧ (∀ j : Nat, ¬ j = (Int32.toNatClampNeg p0) → G_70 11 j = G 11 j) ∧ (∀ j : Nat, ¬ j = (Int32.toNatClampNeg p0) → G_70 12 j = G 12 j) from by have n9 := num_1; have h8 := mKW_W hou hat.2.2 (i := 8) (by decide); have h9 := mKW_W hou hat.2.2 (i := 9) (by decide); have h10 := mKW_W hou hat.2.2 (i := 10) (by decide); rw [show zid 8 = 9 from by decide] at h8; rw [show zid 9 = 11 from by decide] at h9; rw [show zid 10 = 10 from by decide] at h10; have q11 : (G_70 11 (Int32.toNatClampNeg p0)).toInt = 10 := (by rw [((congrFun (show G_70 11 = G_64 11 from by rw [eG_70]; rfl) _).trans ((congrFun (fr_65.2 11 (by decide)) _).trans ((congrFun (fr_47.2 11 (by decide)) _).trans ((congrFun (show G_39 11 = G_38 11 from by rw [eG_39]; rfl) _).trans (show G_38 11 (Int32.toNatClampNeg p0) = (F 42) from by rw [eG_38]; simp only [mUp, if_true, upd])))))]; omega); have q12 : (G_70 12 (Int32.toNatClampNeg p0)).toInt = (F_63 44).toInt := (by rw [(show G_70 12 (Int32.toNatClampNeg p0) = (F_63 44) from by rw [eG_70]; simp only [mUp, if_true, upd])]); exact ⟨by omega, by omega, by omega, Or.inl ⟨by omega, (zty kz nz (zty kz nz xz)), Or.inr (Or.inl ⟨h10.mpr ⟨by omega, by omega⟩, by omega, by rw [q12]; exact w_68, rfl⟩), a1_68, a2_68, kw_68⟩, (fun j hj => ((congrFun (show G_70 11 = G_64 11 from by rw [eG_70]; simp only [mUp]; rfl) j).trans ((congrFun (fr_65.2 11 (by decide)) j).trans ((congrFun (fr_47.2 11 (by decide)) j).trans ((congrFun (show G_39 11 = G_38 11 from by rw [eG_39]; simp only [mUp]; rfl) j).trans ((show G_38 11 j = G 11 j from by rw [eG_38]; simp only [mUp, if_true, upd]; rw [if_neg hj]).trans rfl)))))), (fun j hj => ((show G_70 12 j = G_64 12 j from by rw [eG_70]; simp only [mUp, if_true, upd]; rw [if_neg hj]).trans ((congrFun (fr_65.2 12 (by decide)) j).trans ((congrFun (fr_47.2 12 (by decide)) j).trans ((show G_39 12 j = G_38 12 j from by rw [eG_39]; simp only [mUp, if_true, upd]; rw [if_neg hj]).trans ((congrFun (show G_38 12 = G 12 from by rw [eG_38]; simp only [mUp]; rfl) j).trans rfl))))))⟩) dX6_starts_145
        · rw [num_1, num_600] at w_68
          refine mm_if_ne (X := r_61.toInt) (tgt := 134) hx hb dX6_starts_129 (by decide) rfl (fun c_74 => False.elim (by omega)) (fun c_74 => ?_)
          refine lv_iconst (v := 0) hx hb dX6_starts_132 (by decide) ?_
          have b_75 : 0 ≤ (F_63 40).toInt ∧ (F_63 40).toInt ≤ 1000 := hM.fb 40 rfl
          have b_76 : 0 ≤ (F_63 43).toInt ∧ (F_63 43).toInt ≤ 1000 := hM.fb 43 rfl
          have b_77 : 0 ≤ (F_63 41).toInt ∧ (F_63 41).toInt ≤ 5 := hM.fb 41 rfl
          exact mr_rz (X := 0) E hr hlk hsz hM num_0 (by omega) (show (F_63 40).toInt ≤ (F 39).toInt ∧ (F 40).toInt ≤ (F_63 40).toInt ∧ (¬ (F_63 41).toInt = 2 ∨ (65 ≤ (F_63 42).toInt ∧ (F_63 42).toInt ≤ 72)) ∧ (((0 : Int32).toInt = 1 ∧ ∃ z : Nat, zst kz nz xz ((G_64 11 (Int32.toNatClampNeg p0)).toInt - 9) (G_64 12 (Int32.toNatClampNeg p0)).toInt z ∧ (F_63 43).toInt = (ztp kz z : Int) ∧ (F_63 40).toInt = (zty kz nz z : Int) ∧ mKW kz nz z (F_63 41).toInt (F_63 42).toInt) ∨ ((0 : Int32).toInt = 0 ∧ ∀ (h v : Int) (z : Nat), ¬ zst kz nz xz h v z)) ∧ (∀ j : Nat, ¬ j = (Int32.toNatClampNeg p0) → G_64 11 j = G 11 j) ∧ (∀ j : Nat, ¬ j = (Int32.toNatClampNeg p0) → G_64 12 j = G 12 j) from by have n9 := num_0; have h8 := mKW_W hou hat.2.2 (i := 8) (by decide); have h9 := mKW_W hou hat.2.2 (i := 9) (by decide); have h10 := mKW_W hou hat.2.2 (i := 10) (by decide); rw [show zid 8 = 9 from by decide] at h8; rw [show zid 9 = 11 from by decide] at h9; rw [show zid 10 = 10 from by decide] at h10; exact ⟨by omega, by omega, by omega, Or.inr ⟨by omega, fun h v z q => q.elim (fun a => by have := h8.mp a.1; omega) (fun a => a.elim (fun a => w_68 v a.2.2.1) (fun a => by have := h9.mp a.1; omega))⟩, (fun j hj => ((congrFun (fr_65.2 11 (by decide)) j).trans ((congrFun (fr_47.2 11 (by decide)) j).trans ((congrFun (show G_39 11 = G_38 11 from by rw [eG_39]; simp only [mUp]; rfl) j).trans ((show G_38 11 j = G 11 j from by rw [eG_38]; simp only [mUp, if_true, upd]; rw [if_neg hj]).trans rfl))))), (fun j hj => ((congrFun (fr_65.2 12 (by decide)) j).trans ((congrFun (fr_47.2 12 (by decide)) j).trans ((show G_39 12 j = G_38 12 j from by rw [eG_39]; simp only [mUp, if_true, upd]; rw [if_neg hj]).trans ((congrFun (show G_38 12 = G 12 from by rw [eG_38]; simp only [mUp]; rfl) j).trans rfl)))))⟩) dX6_starts_133
      · refine lv_aload_n hx hb dX6_starts_26 rfl (lv_at hl 0 rfl) ?_
        refine mr_get (v := .int (F 42)) E hM 42 (by decide) (index := 155) (mm_at 10 rfl) rfl rfl dX6_starts_27 ?_
        refine lv_bipush (v := 11) hx hb dX6_starts_30 (by decide) ?_
        refine mm_icmp_ne (X := (F 42).toInt) (Y := 11) (tgt := 39) hx hb dX6_starts_32 (by decide) rfl num_11 (fun c_78 => ?_) (fun c_78 => ?_)
        · refine lv_iconst (v := 0) hx hb dX6_starts_39 (by decide) ?_
          refine lv_istore_n (lv' := [(2, .int 0), (0, .ref h0), (1, .int p0)]) hx hb dX6_starts_40 rfl hl (by decide) rfl (fun ls hl => ?_)
          refine lv_iload_n hx hb dX6_starts_41 rfl (lv_at hl 0 rfl) ?_
          refine mm_if_ne (X := 0) (tgt := 55) hx hb dX6_starts_42 (by decide) num_0 (fun c_79 => False.elim (by omega)) (fun c_79 => ?_)
          refine lv_aload_n hx hb dX6_starts_45 rfl (lv_at hl 1 rfl) ?_
          refine lv_iconst (v := 1) hx hb dX6_starts_46 (by decide) ?_
          refine lv_aload_n hx hb dX6_starts_47 rfl (lv_at hl 1 rfl) ?_
          have b_80 : 0 ≤ (F 43).toInt ∧ (F 43).toInt ≤ 1000 := hM.fb 43 rfl
          refine mr_get (v := .int (F 43)) E hM 43 (by decide) (index := 141) (mm_at 2 rfl) rfl rfl dX6_starts_48 ?_
          refine mr_calli (av := [.int 1, .int (F 43)]) (rest := []) E hA hml hM (g3_X6_wrong l D h0 q cq F G _ 1 (F 43) hM.2.2.2.1 ) (cwV 2 hts g8_X6_starts_X6_wrong_81 rfl rfl rfl (by decide +kernel) ⟨Nat.le_of_ble_eq_true rfl, Nat.le_of_ble_eq_true rfl⟩) rfl hl.1 rfl (Nat.le_of_ble_eq_true rfl) dX6_starts_51 ⟨Nat.le_of_ble_eq_true rfl, Nat.le_of_ble_eq_true rfl⟩ (by decide) (by decide) (fun r_82 F_84 G_85 H locs fr_86 p_83 hM => ?_)
          replace p_83 : r_82.toInt = 0 := p_83
          have b_87 : 0 ≤ (F_84 40).toInt ∧ (F_84 40).toInt ≤ 1000 := hM.fb 40 rfl
          have e_88 : (F_84 40).toInt = (F 40).toInt := (congrArg Int32.toInt (fr_86.1 40 (by decide))).trans rfl
          have e_89 : (F_84 42).toInt = (F 42).toInt := (congrArg Int32.toInt (fr_86.1 42 (by decide))).trans rfl
          have b_90 : 0 ≤ (F_84 43).toInt ∧ (F_84 43).toInt ≤ 1000 := hM.fb 43 rfl
          have e_91 : (F_84 43).toInt = (F 43).toInt := (congrArg Int32.toInt (fr_86.1 43 (by decide))).trans rfl
          have b_92 : 0 ≤ (F_84 41).toInt ∧ (F_84 41).toInt ≤ 5 := hM.fb 41 rfl
          have e_93 : (F_84 41).toInt = (F 41).toInt := (congrArg Int32.toInt (fr_86.1 41 (by decide))).trans rfl
          exact mr_rz (X := r_82.toInt) E hr hlk hsz hM rfl (by omega) (show (F_84 40).toInt ≤ (F 39).toInt ∧ (F 40).toInt ≤ (F_84 40).toInt ∧ (¬ (F_84 41).toInt = 2 ∨ (65 ≤ (F_84 42).toInt ∧ (F_84 42).toInt ≤ 72)) ∧ ((r_82.toInt = 1 ∧ ∃ z : Nat, zst kz nz xz ((G_85 11 (Int32.toNatClampNeg p0)).toInt - 9) (G_85 12 (Int32.toNatClampNeg p0)).toInt z ∧ (F_84 43).toInt = (ztp kz z : Int) ∧ (F_84 40).toInt = (zty kz nz z : Int) ∧ mKW kz nz z (F_84 41).toInt (F_84 42).toInt) ∨ (r_82.toInt = 0 ∧ ∀ (h v : Int) (z : Nat), ¬ zst kz nz xz h v z)) ∧ (∀ j : Nat, ¬ j = (Int32.toNatClampNeg p0) → G_85 11 j = G 11 j) ∧ (∀ j : Nat, ¬ j = (Int32.toNatClampNeg p0) → G_85 12 j = G 12 j) from by have h8 := mKW_W hou hat.2.2 (i := 8) (by decide); have h9 := mKW_W hou hat.2.2 (i := 9) (by decide); have h10 := mKW_W hou hat.2.2 (i := 10) (by decide); rw [show zid 8 = 9 from by decide] at h8; rw [show zid 9 = 11 from by decide] at h9; rw [show zid 10 = 10 from by decide] at h10; exact ⟨by omega, by omega, by omega, Or.inr ⟨by omega, fun h v z q => q.elim (fun a => by have := h8.mp a.1; omega) (fun a => a.elim (fun a => by have := h10.mp a.1; omega) (fun a => by have := h9.mp a.1; omega))⟩, (fun j hj => ((congrFun (fr_86.2 11 (by decide)) j).trans rfl)), (fun j hj => ((congrFun (fr_86.2 12 (by decide)) j).trans rfl))⟩) dX6_starts_54
        · refine lv_iconst (v := 1) hx hb dX6_starts_35 (by decide) ?_
          refine lv_goto (tgt := 40) hx hb dX6_starts_36 (by decide) ?_
          refine lv_istore_n (lv' := [(2, .int 1), (0, .ref h0), (1, .int p0)]) hx hb dX6_starts_40 rfl hl (by decide) rfl (fun ls hl => ?_)
          refine lv_iload_n hx hb dX6_starts_41 rfl (lv_at hl 0 rfl) ?_
          refine mm_if_ne (X := 1) (tgt := 55) hx hb dX6_starts_42 (by decide) num_1 (fun c_94 => ?_) (fun c_94 => False.elim (by omega))
          refine lv_aload_n hx hb dX6_starts_55 rfl (lv_at hl 1 rfl) ?_
          refine mr_get (v := .ref (q 11)) E hM 11 (by decide) (index := 32) (mm_at 11 rfl) rfl rfl dX6_starts_56 ?_
          refine lv_iload_n hx hb dX6_starts_59 rfl (lv_at hl 2 rfl) ?_
          refine lv_aload_n hx hb dX6_starts_60 rfl (lv_at hl 1 rfl) ?_
          refine mr_get (v := .int (F 42)) E hM 42 (by decide) (index := 155) (mm_at 10 rfl) rfl rfl dX6_starts_61 ?_
          refine mr_ast (X := p0.toInt) E hM 11 8 7 rfl rfl rfl (by omega) mg_11 (by decide) (mm_nbA rfl) (by decide) dX6_starts_64 (fun H locs G_95 eG_95 hM => ?_)
          refine lv_aload_n hx hb dX6_starts_65 rfl (lv_at hl 1 rfl) ?_
          refine mr_get (v := .ref (q 12)) E hM 12 (by decide) (index := 35) (mm_at 12 rfl) rfl rfl dX6_starts_66 ?_
          refine lv_iload_n hx hb dX6_starts_69 rfl (lv_at hl 2 rfl) ?_
          refine lv_iconst (v := 0) hx hb dX6_starts_70 (by decide) ?_
          refine mr_ast (X := p0.toInt) E hM 12 9 8 rfl rfl rfl (by omega) mg_12 (by decide) (mm_nbA rfl) (by decide) dX6_starts_71 (fun H locs G_96 eG_96 hM => ?_)
          refine lv_aload_n hx hb dX6_starts_72 rfl (lv_at hl 1 rfl) ?_
          have b_98 : 0 ≤ (F 40).toInt ∧ (F 40).toInt ≤ 1000 := hM.fb 40 rfl
          have b_99 : 0 ≤ (F 39).toInt ∧ (F 39).toInt ≤ 1000 := hM.fb 39 rfl
          refine mr_callv (av := []) (rest := []) E hA hml hM (g7_X6_take l D h0 q cq F G_96 _  hM.2.2.2.1 kz nz (zty kz nz xz) (mTx_fr htx hM.fr (by decide) (by decide)) (show (F 40).toInt = ((zty kz nz xz) : Int) from by omega) (show (F 40).toInt ≤ (F 39).toInt from by omega)) (cwV 0 hts g8_X6_starts_X6_take_97 rfl rfl rfl (by decide +kernel) ⟨Nat.le_of_ble_eq_true rfl, Nat.le_of_ble_eq_true rfl⟩) rfl hl.1 rfl (Nat.le_of_ble_eq_true rfl) dX6_starts_73 ⟨Nat.le_of_ble_eq_true rfl, Nat.le_of_ble_eq_true rfl⟩ (by decide) (by decide) (fun F_102 G_103 H locs fr_104 p_101 hM => ?_)
          replace p_101 : (F_102 40).toInt ≤ (F 39).toInt ∧ (F 40).toInt ≤ (F_102 40).toInt ∧ ((F_102 41).toInt = 0 ∨ (F 40).toInt < (F_102 40).toInt) ∧ (¬ (F_102 41).toInt = 2 ∨ (65 ≤ (F_102 42).toInt ∧ (F_102 42).toInt ≤ 72)) ∧ (F_102 43).toInt = (ztp kz (zty kz nz xz) : Int) ∧ (F_102 40).toInt = (zty kz nz (zty kz nz xz) : Int) ∧ mKW kz nz (zty kz nz xz) (F_102 41).toInt (F_102 42).toInt := p_101
          rcases p_101 with ⟨t1_105, t2_105, t3_105, t4_105, a1_105, a2_105, kw_105⟩
          refine lv_aload_n hx hb dX6_starts_76 rfl (lv_at hl 1 rfl) ?_
          refine mr_get (v := .ref (q 11)) E hM 11 (by decide) (index := 32) (mm_at 11 rfl) rfl rfl dX6_starts_77 ?_
          refine lv_iload_n hx hb dX6_starts_80 rfl (lv_at hl 2 rfl) ?_
          refine mr_ald (X := p0.toInt) E hM 8 7 rfl rfl rfl (by omega) dX6_starts_81 ?_
          have gh_106 : (G_103 11 (Int32.toNatClampNeg p0)).toInt = 11 := by rw [show (G_103 11 (Int32.toNatClampNeg p0)) = (F 42) from by rw [((fr_104.2 11 (by decide)).trans ((show G_96 11 = G_95 11 from by rw [eG_96]; rfl).trans ((show G_95 11 = upd (G 11) (Int32.toNatClampNeg p0) ((F 42)) from by rw [eG_95]; rfl).trans (congrArg (fun z => upd z (Int32.toNatClampNeg p0) ((F 42))) rfl))))]; simp only [upd, if_true]]; omega
          refine lv_bipush (v := 9) hx hb dX6_starts_82 (by decide) ?_
          refine mm_icmp_ne (X := (G_103 11 (Int32.toNatClampNeg p0)).toInt) (Y := 9) (tgt := 89) hx hb dX6_starts_84 (by decide) rfl num_9 (fun c_107 => ?_) (fun c_107 => False.elim (by omega))
          refine lv_aload_n hx hb dX6_starts_89 rfl (lv_at hl 1 rfl) ?_
          refine lv_aload_n hx hb dX6_starts_90 rfl (lv_at hl 1 rfl) ?_
          refine mr_get (v := .ref (q 11)) E hM 11 (by decide) (index := 32) (mm_at 11 rfl) rfl rfl dX6_starts_91 ?_
          refine lv_iload_n hx hb dX6_starts_94 rfl (lv_at hl 2 rfl) ?_
          refine mr_ald (X := p0.toInt) E hM 8 7 rfl rfl rfl (by omega) dX6_starts_95 ?_
          have gh_108 : (G_103 11 (Int32.toNatClampNeg p0)).toInt = 11 := by rw [show (G_103 11 (Int32.toNatClampNeg p0)) = (F 42) from by rw [((fr_104.2 11 (by decide)).trans ((show G_96 11 = G_95 11 from by rw [eG_96]; rfl).trans ((show G_95 11 = upd (G 11) (Int32.toNatClampNeg p0) ((F 42)) from by rw [eG_95]; rfl).trans (congrArg (fun z => upd z (Int32.toNatClampNeg p0) ((F 42))) rfl))))]; simp only [upd, if_true]]; omega
          refine lv_bipush (v := 10) hx hb dX6_starts_96 (by decide) ?_
          refine mm_icmp_ne (X := (G_103 11 (Int32.toNatClampNeg p0)).toInt) (Y := 10) (tgt := 105) hx hb dX6_starts_98 (by decide) rfl num_10 (fun c_109 => ?_) (fun c_109 => False.elim (by omega))
          refine lv_iconst (v := 0) hx hb dX6_starts_105 (by decide) ?_
          refine lv_aload_n hx hb dX6_starts_106 rfl (lv_at hl 1 rfl) ?_
          refine mr_get (v := .ref (q 11)) E hM 11 (by decide) (index := 32) (mm_at 11 rfl) rfl rfl dX6_starts_107 ?_
          refine lv_iload_n hx hb dX6_starts_110 rfl (lv_at hl 2 rfl) ?_
          refine mr_ald (X := p0.toInt) E hM 8 7 rfl rfl rfl (by omega) dX6_starts_111 ?_
          have gh_110 : (G_103 11 (Int32.toNatClampNeg p0)).toInt = 11 := by rw [show (G_103 11 (Int32.toNatClampNeg p0)) = (F 42) from by rw [((fr_104.2 11 (by decide)).trans ((show G_96 11 = G_95 11 from by rw [eG_96]; rfl).trans ((show G_95 11 = upd (G 11) (Int32.toNatClampNeg p0) ((F 42)) from by rw [eG_95]; rfl).trans (congrArg (fun z => upd z (Int32.toNatClampNeg p0) ((F 42))) rfl))))]; simp only [upd, if_true]]; omega
          refine lv_bipush (v := 10) hx hb dX6_starts_112 (by decide) ?_
          refine mm_icmp_ne (X := (G_103 11 (Int32.toNatClampNeg p0)).toInt) (Y := 10) (tgt := 123) hx hb dX6_starts_114 (by decide) rfl num_10 (fun c_111 => ?_) (fun c_111 => False.elim (by omega))
          refine lv_sipush (v := 3600) hx hb dX6_starts_123 (by decide) ?_
          have b_113 : 0 ≤ (F_102 40).toInt ∧ (F_102 40).toInt ≤ 1000 := hM.fb 40 rfl
          have b_114 : 0 ≤ (F_102 39).toInt ∧ (F_102 39).toInt ≤ 1000 := hM.fb 39 rfl
          have e_115 : (F_102 39).toInt = (F 39).toInt := (congrArg Int32.toInt (fr_104.1 39 (by decide))).trans rfl
          have b_116 : 0 ≤ (F_102 43).toInt ∧ (F_102 43).toInt ≤ 1000 := hM.fb 43 rfl
          have b_117 : 0 ≤ (F_102 41).toInt ∧ (F_102 41).toInt ≤ 5 := hM.fb 41 rfl
          refine mr_calli (av := [.int 0, .int 3600]) (rest := []) E hA hml hM (g7_X6_number l D h0 q cq F_102 G_103 _ 0 3600 hM.2.2.2.1 kz nz (zty kz nz xz) (mTx_fr htx hM.fr (by decide) (by decide)) ⟨a1_105, a2_105, kw_105⟩ (show (F_102 40).toInt ≤ (F_102 39).toInt from by have n_0 := num_0; have n_1 := num_3600; omega) (show ¬ (F_102 41).toInt = 2 ∨ (65 ≤ (F_102 42).toInt ∧ (F_102 42).toInt ≤ 72) from by have n_0 := num_0; have n_1 := num_3600; omega) (show (0 : Int32).toInt ≤ 99999 from by have n_0 := num_0; have n_1 := num_3600; omega) (show (3600 : Int32).toInt ≤ 99999 from by have n_0 := num_0; have n_1 := num_3600; omega)) (cwV 2 hts g8_X6_starts_X6_number_112 rfl rfl rfl (by decide +kernel) ⟨Nat.le_of_ble_eq_true rfl, Nat.le_of_ble_eq_true rfl⟩) rfl hl.1 rfl (Nat.le_of_ble_eq_true rfl) dX6_starts_126 ⟨Nat.le_of_ble_eq_true rfl, Nat.le_of_ble_eq_true rfl⟩ (by decide) (by decide) (fun r_118 F_120 G_121 H locs fr_122 p_119 hM => ?_)
          replace p_119 : (F_120 40).toInt ≤ (F_102 39).toInt ∧ (F_102 40).toInt ≤ (F_120 40).toInt ∧ (¬ (F_120 41).toInt = 2 ∨ (65 ≤ (F_120 42).toInt ∧ (F_120 42).toInt ≤ 72)) ∧ ((r_118.toInt = 1 ∧ zN kz nz (zty kz nz xz) (0 : Int32).toInt (3600 : Int32).toInt (F_120 44).toInt ∧ (F_120 43).toInt = (ztp kz (zty kz nz (zty kz nz xz)) : Int) ∧ (F_120 40).toInt = (zty kz nz (zty kz nz (zty kz nz xz)) : Int) ∧ mKW kz nz (zty kz nz (zty kz nz xz)) (F_120 41).toInt (F_120 42).toInt) ∨ (r_118.toInt = 0 ∧ ∀ v : Int, ¬ zN kz nz (zty kz nz xz) (0 : Int32).toInt (3600 : Int32).toInt v)) := p_119
          have nn_123 := num_0
          have nn_124 := num_3600
          rcases p_119 with ⟨t1_125, t2_125, t3_125, ⟨hr_125, w_125, a1_125, a2_125, kw_125⟩ | ⟨hr_125, w_125⟩⟩
          · rw [num_0, num_3600] at w_125
            refine mm_if_ne (X := r_118.toInt) (tgt := 134) hx hb dX6_starts_129 (by decide) rfl (fun c_126 => ?_) (fun c_126 => False.elim (by omega))
            refine lv_aload_n hx hb dX6_starts_134 rfl (lv_at hl 1 rfl) ?_
            refine mr_get (v := .ref (q 12)) E hM 12 (by decide) (index := 35) (mm_at 12 rfl) rfl rfl dX6_starts_135 ?_
            refine lv_iload_n hx hb dX6_starts_138 rfl (lv_at hl 2 rfl) ?_
            refine lv_aload_n hx hb dX6_starts_139 rfl (lv_at hl 1 rfl) ?_
            refine mr_get (v := .int (F_120 44)) E hM 44 (by decide) (index := 169) (mm_at 38 rfl) rfl rfl dX6_starts_140 ?_
            refine mr_ast (X := p0.toInt) E hM 12 9 8 rfl rfl rfl (by omega) mg_12 (by decide) (mm_nbA rfl) (by decide) dX6_starts_143 (fun H locs G_127 eG_127 hM => ?_)
            refine lv_iconst (v := 1) hx hb dX6_starts_144 (by decide) ?_
            have b_128 : 0 ≤ (F_120 40).toInt ∧ (F_120 40).toInt ≤ 1000 := hM.fb 40 rfl
            have b_129 : 0 ≤ (F_120 43).toInt ∧ (F_120 43).toInt ≤ 1000 := hM.fb 43 rfl
            have b_130 : 0 ≤ (F_120 41).toInt ∧ (F_120 41).toInt ≤ 5 := hM.fb 41 rfl
            exact mr_rz (X := 1) E hr hlk hsz hM num_1 (by omega) (show (F_120 40).toInt ≤ (F 39).toInt ∧ (F 40).toInt ≤ (F_120 40).toInt ∧ (¬ (F_120 41).toInt = 2 ∨ (65 ≤ (F_120 42).toInt ∧ (F_120 42).toInt ≤ 72)) ∧ (((1 : Int32).toInt = 1 ∧ ∃ z : Nat, zst kz nz xz ((G_127 11 (Int32.toNatClampNeg p0)).toInt - 9) (G_127 12 (Int32.toNatClampNeg p0)).toInt z ∧ (F_120 43).toInt = (ztp kz z : Int) ∧ (F_120 40).toInt = (zty kz nz z : Int) ∧ mKW kz nz z (F_120 41).toInt (F_120 42).toInt) ∨ ((1 : Int32).toInt = 0 ∧ ∀ (h v : Int) (z : Nat), ¬ zst kz nz xz h v z)) ∧ (∀ j : Nat, ¬ j = (Int32.toNatClampNeg p0) → G_127 11 j = G 11 j) ∧ (∀ j : Nat, ¬ j = (Int32.toNatClampNeg p0) → G_127 12 j = G 12 j) from by have n9 := num_1; have h8 := mKW_W hou hat.2.2 (i := 8) (by decide); have h9 := mKW_W hou hat.2.2 (i := 9) (by decide); have h10 := mKW_W hou hat.2.2 (i := 10) (by decide); rw [show zid 8 = 9 from by decide] at h8; rw [show zid 9 = 11 from by decide] at h9; rw [show zid 10 = 10 from by decide] at h10; have q11 : (G_127 11 (Int32.toNatClampNeg p0)).toInt = 11 := (by rw [((congrFun (show G_127 11 = G_121 11 from by rw [eG_127]; rfl) _).trans ((congrFun (fr_122.2 11 (by decide)) _).trans ((congrFun (fr_104.2 11 (by decide)) _).trans ((congrFun (show G_96 11 = G_95 11 from by rw [eG_96]; rfl) _).trans (show G_95 11 (Int32.toNatClampNeg p0) = (F 42) from by rw [eG_95]; simp only [mUp, if_true, upd])))))]; omega); have q12 : (G_127 12 (Int32.toNatClampNeg p0)).toInt = (F_120 44).toInt := (by rw [(show G_127 12 (Int32.toNatClampNeg p0) = (F_120 44) from by rw [eG_127]; simp only [mUp, if_true, upd])]); exact ⟨by omega, by omega, by omega, Or.inl ⟨by omega, (zty kz nz (zty kz nz xz)), Or.inr (Or.inr ⟨h9.mpr ⟨by omega, by omega⟩, by omega, by rw [q12]; exact w_125, rfl⟩), a1_125, a2_125, kw_125⟩, (fun j hj => ((congrFun (show G_127 11 = G_121 11 from by rw [eG_127]; simp only [mUp]; rfl) j).trans ((congrFun (fr_122.2 11 (by decide)) j).trans ((congrFun (fr_104.2 11 (by decide)) j).trans ((congrFun (show G_96 11 = G_95 11 from by rw [eG_96]; simp only [mUp]; rfl) j).trans ((show G_95 11 j = G 11 j from by rw [eG_95]; simp only [mUp, if_true, upd]; rw [if_neg hj]).trans rfl)))))), (fun j hj => ((show G_127 12 j = G_121 12 j from by rw [eG_127]; simp only [mUp, if_true, upd]; rw [if_neg hj]).trans ((congrFun (fr_122.2 12 (by decide)) j).trans ((congrFun (fr_104.2 12 (by decide)) j).trans ((show G_96 12 j = G_95 12 j from by rw [eG_96]; simp only [mUp, if_true, upd]; rw [if_neg hj]).trans ((congrFun (show G_95 12 = G 12 from by rw [eG_95]; simp only [mUp]; rfl) j).trans rfl))))))⟩) dX6_starts_145
          · rw [num_0, num_3600] at w_125
            refine mm_if_ne (X := r_118.toInt) (tgt := 134) hx hb dX6_starts_129 (by decide) rfl (fun c_131 => False.elim (by omega)) (fun c_131 => ?_)
            refine lv_iconst (v := 0) hx hb dX6_starts_132 (by decide) ?_
            have b_132 : 0 ≤ (F_120 40).toInt ∧ (F_120 40).toInt ≤ 1000 := hM.fb 40 rfl
            have b_133 : 0 ≤ (F_120 43).toInt ∧ (F_120 43).toInt ≤ 1000 := hM.fb 43 rfl
            have b_134 : 0 ≤ (F_120 41).toInt ∧ (F_120 41).toInt ≤ 5 := hM.fb 41 rfl
            exact mr_rz (X := 0) E hr hlk hsz hM num_0 (by omega) (show (F_120 40).toInt ≤ (F 39).toInt ∧ (F 40).toInt ≤ (F_120 40).toInt ∧ (¬ (F_120 41).toInt = 2 ∨ (65 ≤ (F_120 42).toInt ∧ (F_120 42).toInt ≤ 72)) ∧ (((0 : Int32).toInt = 1 ∧ ∃ z : Nat, zst kz nz xz ((G_121 11 (Int32.toNatClampNeg p0)).toInt - 9) (G_121 12 (Int32.toNatClampNeg p0)).toInt z ∧ (F_120 43).toInt = (ztp kz z : Int) ∧ (F_120 40).toInt = (zty kz nz z : Int) ∧ mKW kz nz z (F_120 41).toInt (F_120 42).toInt) ∨ ((0 : Int32).toInt = 0 ∧ ∀ (h v : Int) (z : Nat), ¬ zst kz nz xz h v z)) ∧ (∀ j : Nat, ¬ j = (Int32.toNatClampNeg p0) → G_121 11 j = G 11 j) ∧ (∀ j : Nat, ¬ j = (Int32.toNatClampNeg p0) → G_121 12 j = G 12 j) from by have n9 := num_0; have h8 := mKW_W hou hat.2.2 (i := 8) (by decide); have h9 := mKW_W hou hat.2.2 (i := 9) (by decide); have h10 := mKW_W hou hat.2.2 (i := 10) (by decide); rw [show zid 8 = 9 from by decide] at h8; rw [show zid 9 = 11 from by decide] at h9; rw [show zid 10 = 10 from by decide] at h10; exact ⟨by omega, by omega, by omega, Or.inr ⟨by omega, fun h v z q => q.elim (fun a => by have := h8.mp a.1; omega) (fun a => a.elim (fun a => by have := h10.mp a.1; omega) (fun a => w_125 v a.2.2.1))⟩, (fun j hj => ((congrFun (fr_122.2 11 (by decide)) j).trans ((congrFun (fr_104.2 11 (by decide)) j).trans ((congrFun (show G_96 11 = G_95 11 from by rw [eG_96]; simp only [mUp]; rfl) j).trans ((show G_95 11 j = G 11 j from by rw [eG_95]; simp only [mUp, if_true, upd]; rw [if_neg hj]).trans rfl))))), (fun j hj => ((congrFun (fr_122.2 12 (by decide)) j).trans ((congrFun (fr_104.2 12 (by decide)) j).trans ((show G_96 12 j = G_95 12 j from by rw [eG_96]; simp only [mUp, if_true, upd]; rw [if_neg hj]).trans ((congrFun (show G_95 12 = G 12 from by rw [eG_95]; simp only [mUp]; rfl) j).trans rfl)))))⟩) dX6_starts_133
