def zshp (k : Nat → Nat) (n x : Nat) (la : Int) (i : Nat) : Prop := ∀ j : Nat, j < i → zsh1 k n x la j
theorem zshp_s {k : Nat → Nat} {n x : Nat} {la : Int} {i : Nat} (h : zshp k n x la i) (g : zsh1 k n x la i) : zshp k n x la (i + 1) := fun j hj => by
  by_cases e : j = i
  · rw [e]; exact g
  · exact h j (by omega)
theorem zsh1_of {k : Nat → Nat} {n x : Nat} {la lo hi v : Int} {i : Nat} (h : zN k n (zit k n i x) lo hi v) (hl : (i = 0 ∧ lo = 1) ∨ (1 ≤ i ∧ lo = (zV k n (zit k n (i - 1) x) : Int) + 1)) (hh : hi = la - 1) : zsh1 k n x la i := by
  obtain ⟨a, b, c, d⟩ := h
  refine ⟨a, ?_, by omega, rfl⟩
  split <;> omega
theorem zsh1_to {k : Nat → Nat} {n x : Nat} {la lo hi : Int} {i : Nat} (h : zsh1 k n x la i) (hl : (i = 0 ∧ lo = 1) ∨ (1 ≤ i ∧ lo = (zV k n (zit k n (i - 1) x) : Int) + 1)) (hh : hi = la - 1) : zN k n (zit k n i x) lo hi (zV k n (zit k n i x)) := by
  obtain ⟨a, b, c, d⟩ := h
  refine ⟨a, ?_, by omega, rfl⟩
  split at b <;> omega
def w5X4_readLaps : List Cond := .code yX4_readLaps cX4_readLaps 2 (some .boolean) :: ([.methodLink RX4 50 yX4_readWord, .instanceMethod yX4_readWord, .selects RX4 yX4_readWord yX4_readWord, .initialized RX4, .code yX4_readWord cX4_readWord 2 (some .boolean), .methodLink RX4 107 yX4_isWord, .instanceMethod yX4_isWord, .selects RX4 yX4_isWord yX4_isWord, .code yX4_isWord cX4_isWord 3 (some .boolean), .methodLink RX4 140 yJ0_length_8abf5, .instanceMethod yJ0_length_8abf5, .selects RJ0 yJ0_length_8abf5 yJ0_length_8abf5, .initialized RJ0, .code yJ0_length_8abf5 cJ0_length_8abf5 1 (some .int), .fieldLink RJ0 9 "java/lang/String" "value" "[B", .methodLink RJ0 335 yJ0_coder_7d493, .instanceMethod yJ0_coder_7d493, .selects RJ0 yJ0_coder_7d493 yJ0_coder_7d493, .code yJ0_coder_7d493 cJ0_coder_7d493 1 (some .byte), .fieldLink RJ0 38 "java/lang/String" "COMPACT_STRINGS" "Z", .fieldLink RJ0 15 "java/lang/String" "coder" "B", .fieldLink RX4 9 "SkiShots$Reader" "text" "[B", .fieldLink RX4 54 "SkiShots$Reader" "place" "I", .methodLink RX4 145 yJ0_charAt_5068e, .instanceMethod yJ0_charAt_5068e, .selects RJ0 yJ0_charAt_5068e yJ0_charAt_5068e, .code yJ0_charAt_5068e cJ0_charAt_5068e 2 (some .char), .methodLink RJ0 492 yJ0_isLatin1_aae02, .instanceMethod yJ0_isLatin1_aae02, .selects RJ0 yJ0_isLatin1_aae02 yJ0_isLatin1_aae02, .code yJ0_isLatin1_aae02 cJ0_isLatin1_aae02 1 (some .boolean), .methodLink RJ0 495 yJ1_charAt_3b067, .static yJ1_charAt_3b067, .initialized RJ1, .code yJ1_charAt_3b067 cJ1_charAt_3b067 2 (some .char), .methodLink RJ1 9 yJ0_checkIndex_df160, .static yJ0_checkIndex_df160, .code yJ0_checkIndex_df160 cJ0_checkIndex_df160 2 none, .fieldLink RJ0 1053 "jdk/internal/util/Preconditions" "SIOOBE_FORMATTER" "Ljava/util/function/BiFunction;", .methodLink RJ0 1059 yJ3_checkIndex_8e157, .static yJ3_checkIndex_8e157, .initialized RJ3, .code yJ3_checkIndex_8e157 cJ3_checkIndex_8e157 3 (some .int), .fieldLink RX4 37 "SkiShots$Reader" "sort" "I", .fieldLink RX4 133 "SkiShots$Reader" "behind" "I", .methodLink RX4 34 yX4_step, .instanceMethod yX4_step, .selects RX4 yX4_step yX4_step, .code yX4_step cX4_step 1 none, .fieldLink RX4 21 "SkiShots$Reader" "length" "I", .methodLink RX4 149 yX4_sortAt, .instanceMethod yX4_sortAt, .selects RX4 yX4_sortAt yX4_sortAt, .code yX4_sortAt cX4_sortAt 3 (some .int), .methodLink RX4 15 Lib.Math.min.name, .static Lib.Math.min.name, .initialized "java/lang/Math", .code Lib.Math.min.name Lib.Math.min.code 2 (some .int), .methodLink RX4 44 yX4_fail, .instanceMethod yX4_fail, .selects RX4 yX4_fail yX4_fail, .code yX4_fail cX4_fail 2 (some .boolean), .fieldLink RX4 137 "SkiShots$Reader" "fault" "I", .fieldLink RX4 31 "SkiShots$Reader" "faultPlace" "I", .methodLink RX4 85 yX4_readNumber, .instanceMethod yX4_readNumber, .selects RX4 yX4_readNumber yX4_readNumber, .code yX4_readNumber cX4_readNumber 4 (some .boolean), .fieldLink RX4 89 "SkiShots$Reader" "number" "I", .constant RX4 136 (100000), .fieldLink RX4 92 "SkiShots$Format" "laps" "I"] ++ wsX20 ++ wsX40)
set_option maxRecDepth 20000 in
theorem gz_X4_readLaps_X4_readWord_1 : GoodIn w5X4_readLaps (wsV RX4 50 RX4 yX4_readWord w5X4_readWord) := goodIn_p _ [5, 9, 14, 19, 27, 31, 35, 38, 43, 49, 54, 58, 62] rfl (by decide +kernel)
set_option maxRecDepth 20000 in
theorem gz_X4_readLaps_X4_readNumber_12 : GoodIn w5X4_readLaps (wsV RX4 85 RX4 yX4_readNumber w5X4_readNumber) := goodIn_p _ [68, 62, 49, 54, 58] rfl (by decide +kernel)
set_option maxHeartbeats 4000000 in
set_option maxRecDepth 100000 in
theorem h5_X4_readLaps (l : Launch) (D : va_G) (cA : Nat → ClassId) (ad av : Nat → Nat) (L : List Nat) (K : Nat → Nat) (I : Nat → Nat → Int32) (O : Nat → Nat → Option Nat) (sz : Nat) (x0 : Nat) (p0 : Nat) (hI : cI L K I O) (mx0 : x0 ∈ L) (kx0 : K x0 = 4) (mp0 : p0 ∈ L) (kp0 : K p0 = 2) (kz : Nat → Nat) (nz : Nat) (xz : Nat) (htx : zTx kz nz I O x0) (hat : (I x0 7).toInt = (ztp kz xz : Int) ∧ (I x0 8).toInt = (zty kz nz xz : Int) ∧ (I x0 6).toInt = zso kz nz (ztp kz xz)) (hrp : (I x0 6).toInt = 0 ∨ (I x0 7).toInt ≤ 999) : Met l yX4_readLaps w5X4_readLaps ({ frames := 6, cells := 0, slots := 0, locals := 128 }) (cPre D cA ad av L K I O sz [.ref x0, .ref p0]) (cQi D cA L K I O sz [] [(2, 1), (4, 4), (4, 5), (4, 6), (4, 7), (4, 8), (4, 9)] [] (fun r L' K' I' O' => ((I' x0 6).toInt = 0 ∨ (I' x0 7).toInt ≤ 999) ∧ ((r.toInt = 1 ∧ zlaps kz nz xz (I' p0 1).toInt ∧ (I' x0 7).toInt = (ztp kz (zty kz nz (zty kz nz xz)) : Int) ∧ (I' x0 8).toInt = (zty kz nz (zty kz nz (zty kz nz xz)) : Int) ∧ (I' x0 6).toInt = zso kz nz (ztp kz (zty kz nz (zty kz nz xz)))) ∨ (r.toInt = 0 ∧ ∀ v : Int, ¬ zlaps kz nz xz v)) ∧ (∀ a : Nat, a ∈ L → K a = 2 → ¬ a = p0 → ∀ j : Nat, I' a j = I a j))) 0 0 (va_A (cW cA L K I O) sz) := by
  refine cr_met (own := RX4) (xs := []) (WI := [(2, 1), (4, 4), (4, 5), (4, 6), (4, 7), (4, 8), (4, 9)]) (WO := []) (cc := cX4_readLaps) (maxL := 2) (ret := (some .boolean)) (by decide) rfl rfl (Nat.le_of_ble_eq_true rfl) hI ?_
  intro p e s m args below meth c ls E hV hml hr hlk hname hsz hA hM hl
  have hx := E.1
  have hb := E.2.1
  have hts := E.2.2.1
  have hown := E.2.2.2.1
  have hl : lv_has ls 2 [(0, .ref x0), (1, .ref p0)] := hl
  have hin2 : ∀ w ∈ wsX20, w ∈ w5X4_readLaps := by decide +kernel
  have hin4 : ∀ w ∈ wsX40, w ∈ w5X4_readLaps := by decide +kernel
  refine lv_aload_n hx hb dX4_readLaps_0 rfl (lv_at hl 0 rfl) ?_
  refine va_ldcS (own := RX4) (q := ad 1) hx hb hown (hV.2.2.1 1 (83, "laps") rfl) dX4_readLaps_1 ?_
  have b_2 : 0 ≤ (I x0 7).toInt ∧ (I x0 7).toInt ≤ 1000 := hM.ib mx0 kx0 7 rfl
  have b_3 : 0 ≤ (I x0 8).toInt ∧ (I x0 8).toInt ≤ 1000 := hM.ib mx0 kx0 8 rfl
  have b_4 : 0 ≤ (I x0 6).toInt ∧ (I x0 6).toInt ≤ 4 := hM.ib mx0 kx0 6 rfl
  refine cc_Vi (vs := [.ref (ad 1)]) (rest := []) (b := x0) (κ := 4) E hV rfl hA hml hM mx0 kx0 rfl rfl (h5_X4_readWord l D cA ad av L K I O _ x0 1 hM.2.2.2.1 mx0 kx0 (by decide) kz nz xz (zTx_fr htx hI mx0 kx0 hM.2.2.2.2 rfl rfl rfl) (show (I x0 7).toInt = (ztp kz xz : Int) ∧ (I x0 8).toInt = (zty kz nz xz : Int) ∧ (I x0 6).toInt = zso kz nz (ztp kz xz) from ⟨by omega, by omega, by omega⟩) (show (I x0 6).toInt = 0 ∨ (I x0 7).toInt ≤ 999 from by omega)) (cwV 1 hts gz_X4_readLaps_X4_readWord_1 rfl rfl rfl (by decide +kernel) ⟨Nat.le_of_ble_eq_true rfl, Nat.le_of_ble_eq_true rfl⟩) rfl hl.1 rfl (Nat.le_of_ble_eq_true rfl) dX4_readLaps_3 ⟨show (0 + 0 : Nat) ≤ 0 from by omega, show (0 + 0 : Nat) ≤ 0 from by omega⟩ (fun _ h => by cases h) (by decide) (by decide) (fun r_5 L_7 K_7 I_7 O_7 H locs fr_7 p_6 hM => ?_)
  have m_8 := (fr_7 x0 mx0 (fun z => by cases z)).1
  have k_8 : K_7 x0 = 4 := (fr_7 x0 mx0 (fun z => by cases z)).2.1.trans kx0
  have m_9 := (fr_7 p0 mp0 (fun z => by cases z)).1
  have k_9 : K_7 p0 = 2 := (fr_7 p0 mp0 (fun z => by cases z)).2.1.trans kp0
  replace p_6 : ((I_7 x0 6).toInt = 0 ∨ (I_7 x0 7).toInt ≤ 999) ∧ ((r_5.toInt = 1 ∧ zW kz nz xz (zwl 1) ∧ (I_7 x0 7).toInt = (ztp kz (zty kz nz xz) : Int) ∧ (I_7 x0 8).toInt = (zty kz nz (zty kz nz xz) : Int) ∧ (I_7 x0 6).toInt = zso kz nz (ztp kz (zty kz nz xz))) ∨ (r_5.toInt = 0 ∧ ¬ zW kz nz xz (zwl 1))) := p_6
  rcases p_6 with ⟨hrp_10, ⟨hr_10, w_10, a1_10, a2_10, a3_10⟩ | ⟨hr_10, w_10⟩⟩
  · refine mm_if_eq (X := r_5.toInt) (tgt := 19) hx hb dX4_readLaps_6 (by decide) rfl (fun c_11 => False.elim (by omega)) (fun c_11 => ?_)
    refine lv_aload_n hx hb dX4_readLaps_9 rfl (lv_at hl 0 rfl) ?_
    refine lv_iconst (v := 1) hx hb dX4_readLaps_10 (by decide) ?_
    refine lv_bipush (v := 6) hx hb dX4_readLaps_11 (by decide) ?_
    have b_13 : 0 ≤ (I_7 x0 7).toInt ∧ (I_7 x0 7).toInt ≤ 1000 := hM.ib m_8 k_8 7 rfl
    have b_14 : 0 ≤ (I_7 x0 8).toInt ∧ (I_7 x0 8).toInt ≤ 1000 := hM.ib m_8 k_8 8 rfl
    have b_15 : 0 ≤ (I_7 x0 6).toInt ∧ (I_7 x0 6).toInt ≤ 4 := hM.ib m_8 k_8 6 rfl
    refine cc_Vi (vs := [.int 1, .int 6]) (rest := []) (b := x0) (κ := 4) E hV rfl hA hml hM m_8 k_8 rfl rfl (h5_X4_readNumber l D cA ad av L_7 K_7 I_7 O_7 _ x0 1 6 hM.2.2.2.1 m_8 k_8 kz nz (zty kz nz xz) (zTx_fr htx hI mx0 kx0 hM.2.2.2.2 rfl rfl rfl) (show (I_7 x0 7).toInt = (ztp kz (zty kz nz xz) : Int) ∧ (I_7 x0 8).toInt = (zty kz nz (zty kz nz xz) : Int) ∧ (I_7 x0 6).toInt = zso kz nz (ztp kz (zty kz nz xz)) from ⟨by omega, by omega, by omega⟩) (show (I_7 x0 6).toInt = 0 ∨ (I_7 x0 7).toInt ≤ 999 from by have n_0 := num_1; have n_1 := num_6; omega) (show 0 ≤ (1 : Int32).toInt ∧ (1 : Int32).toInt ≤ 100000 from by have n_0 := num_1; have n_1 := num_6; omega) (show (6 : Int32).toInt ≤ 99999 from by have n_0 := num_1; have n_1 := num_6; omega)) (cwV 2 hts gz_X4_readLaps_X4_readNumber_12 rfl rfl rfl (by decide +kernel) ⟨Nat.le_of_ble_eq_true rfl, Nat.le_of_ble_eq_true rfl⟩) rfl hl.1 rfl (Nat.le_of_ble_eq_true rfl) dX4_readLaps_13 ⟨show (0 + 0 : Nat) ≤ 0 from by omega, show (0 + 0 : Nat) ≤ 0 from by omega⟩ (fun _ h => by cases h) (by decide) (by decide) (fun r_16 L_18 K_18 I_18 O_18 H locs fr_18 p_17 hM => ?_)
    have m_19 := (fr_18 x0 m_8 (fun z => by cases z)).1
    have k_19 : K_18 x0 = 4 := (fr_18 x0 m_8 (fun z => by cases z)).2.1.trans k_8
    have m_20 := (fr_18 p0 m_9 (fun z => by cases z)).1
    have k_20 : K_18 p0 = 2 := (fr_18 p0 m_9 (fun z => by cases z)).2.1.trans k_9
    replace p_17 : ((I_18 x0 6).toInt = 0 ∨ (I_18 x0 7).toInt ≤ 999) ∧ ((r_16.toInt = 1 ∧ zN kz nz (zty kz nz xz) (1 : Int32).toInt (6 : Int32).toInt (I_18 x0 9).toInt ∧ (I_18 x0 7).toInt = (ztp kz (zty kz nz (zty kz nz xz)) : Int) ∧ (I_18 x0 8).toInt = (zty kz nz (zty kz nz (zty kz nz xz)) : Int) ∧ (I_18 x0 6).toInt = zso kz nz (ztp kz (zty kz nz (zty kz nz xz)))) ∨ (r_16.toInt = 0 ∧ ∀ v : Int, ¬ zN kz nz (zty kz nz xz) (1 : Int32).toInt (6 : Int32).toInt v)) := p_17
    have nn_21 := num_1
    have nn_22 := num_6
    rcases p_17 with ⟨hrp_23, ⟨hr_23, w_23, a1_23, a2_23, a3_23⟩ | ⟨hr_23, w_23⟩⟩
    · rw [num_1, num_6] at w_23
      have hn1_23 := w_23.2.1
      have hn2_23 := w_23.2.2.1
      refine mm_if_ne (X := r_16.toInt) (tgt := 21) hx hb dX4_readLaps_16 (by decide) rfl (fun c_24 => ?_) (fun c_24 => False.elim (by omega))
      refine lv_aload_n hx hb dX4_readLaps_21 rfl (lv_at hl 1 rfl) ?_
      refine lv_aload_n hx hb dX4_readLaps_22 rfl (lv_at hl 0 rfl) ?_
      refine cr_get (κ := 4) (ci := 4) (k := 9) (C := RX4) (T := TX4) (N := 10) (fs := cfs 4) (v := .int (I_18 x0 9)) E hM m_19 k_19 (fun _ _ => rfl) rfl hin4 (by decide) (index := 89) (mm_at 69 rfl) rfl rfl dX4_readLaps_23 ?_
      refine cr_puti (κ := 2) (ci := 2) (k := 1) (C := RX2) (T := TX2) (N := 8) (fs := cfs 2) (ty := .int) (v := (I_18 x0 9)) E hM m_20 k_20 (fun _ _ => rfl) rfl hin2 tyX2 tyX2_ok nmX2 (by decide) (index := 92) (mm_at 71 rfl) rfl (Or.inl rfl) (by decide +kernel) rfl rfl (show (1 : Nat) < 8 from by decide) (fun _ _ _ => rfl) (cz_nb rfl) (cS_upd (hM.sp m_20 k_20) (by decide) (by decide)) (Or.inr (Or.inr rfl)) dX4_readLaps_26 (fun H locs I_25 eI_25 hM => ?_)
      refine lv_iconst (v := 1) hx hb dX4_readLaps_29 (by decide) ?_
      have b_26 : 0 ≤ (I_25 x0 6).toInt ∧ (I_25 x0 6).toInt ≤ 4 := hM.ib m_19 k_19 6 rfl
      have e_27 : (I_25 x0 6).toInt = (I_18 x0 6).toInt := congrArg Int32.toInt (cu_k eI_25 (by decide))
      have b_28 : 0 ≤ (I_25 x0 7).toInt ∧ (I_25 x0 7).toInt ≤ 1000 := hM.ib m_19 k_19 7 rfl
      have e_29 : (I_25 x0 7).toInt = (I_18 x0 7).toInt := congrArg Int32.toInt (cu_k eI_25 (by decide))
      have e_30 : (I_25 p0 1).toInt = (I_18 x0 9).toInt := (congrArg Int32.toInt (cu_s eI_25)).trans rfl
      have b_31 : 0 ≤ (I_25 x0 8).toInt ∧ (I_25 x0 8).toInt ≤ 1000 := hM.ib m_19 k_19 8 rfl
      have e_32 : (I_25 x0 8).toInt = (I_18 x0 8).toInt := congrArg Int32.toInt (cu_k eI_25 (by decide))
      exact cr_rz (mc := 0) (ms := 0) (X := 1) E hr hlk hsz hM ⟨show (0 : Nat) ≤ 0 from by omega, show (0 : Nat) ≤ 0 from by omega⟩ num_1 (by omega) (show ((I_25 x0 6).toInt = 0 ∨ (I_25 x0 7).toInt ≤ 999) ∧ (((1 : Int32).toInt = 1 ∧ zlaps kz nz xz (I_25 p0 1).toInt ∧ (I_25 x0 7).toInt = (ztp kz (zty kz nz (zty kz nz xz)) : Int) ∧ (I_25 x0 8).toInt = (zty kz nz (zty kz nz (zty kz nz xz)) : Int) ∧ (I_25 x0 6).toInt = zso kz nz (ztp kz (zty kz nz (zty kz nz xz)))) ∨ ((1 : Int32).toInt = 0 ∧ ∀ v : Int, ¬ zlaps kz nz xz v)) ∧ (∀ a : Nat, a ∈ L → K a = 2 → ¬ a = p0 → ∀ j : Nat, I_25 a j = I a j) from by have n9 := num_1; exact ⟨by omega, Or.inl ⟨by omega, ⟨w_10, by rw [show (I_25 p0 1).toInt = (I_18 x0 9).toInt from by omega]; exact w_23⟩, by omega, by omega, by omega⟩, fun a ha ka na j => (by have t1_ := fr_7 a ha (fun z => by cases z); have k1_ := t1_.2.1.trans ka; have m1_ := t1_.1; have t2_ := fr_18 a m1_ (fun z => by cases z); have k2_ := t2_.2.1.trans k1_; have m2_ := t2_.1; exact ((congrFun (cu_a eI_25 na) j).trans ((t2_.2.2.1 j (by rw [k1_]; rfl)).trans (t1_.2.2.1 j (by rw [ka]; rfl)))))⟩) dX4_readLaps_30
    · rw [num_1, num_6] at w_23
      refine mm_if_ne (X := r_16.toInt) (tgt := 21) hx hb dX4_readLaps_16 (by decide) rfl (fun c_33 => False.elim (by omega)) (fun c_33 => ?_)
      refine lv_iconst (v := 0) hx hb dX4_readLaps_19 (by decide) ?_
      have b_34 : 0 ≤ (I_18 x0 6).toInt ∧ (I_18 x0 6).toInt ≤ 4 := hM.ib m_19 k_19 6 rfl
      have b_35 : 0 ≤ (I_18 x0 7).toInt ∧ (I_18 x0 7).toInt ≤ 1000 := hM.ib m_19 k_19 7 rfl
      have e_36 : (I_7 p0 1).toInt = (I p0 1).toInt := congrArg Int32.toInt ((fr_7 p0 mp0 (fun z => by cases z)).2.2.1 1 (by rw [kp0]; rfl))
      have e_37 : (I_18 p0 1).toInt = (I_7 p0 1).toInt := congrArg Int32.toInt ((fr_18 p0 m_9 (fun z => by cases z)).2.2.1 1 (by rw [k_9]; rfl))
      have b_38 : 0 ≤ (I_18 x0 8).toInt ∧ (I_18 x0 8).toInt ≤ 1000 := hM.ib m_19 k_19 8 rfl
      exact cr_rz (mc := 0) (ms := 0) (X := 0) E hr hlk hsz hM ⟨show (0 : Nat) ≤ 0 from by omega, show (0 : Nat) ≤ 0 from by omega⟩ num_0 (by omega) (show ((I_18 x0 6).toInt = 0 ∨ (I_18 x0 7).toInt ≤ 999) ∧ (((0 : Int32).toInt = 1 ∧ zlaps kz nz xz (I_18 p0 1).toInt ∧ (I_18 x0 7).toInt = (ztp kz (zty kz nz (zty kz nz xz)) : Int) ∧ (I_18 x0 8).toInt = (zty kz nz (zty kz nz (zty kz nz xz)) : Int) ∧ (I_18 x0 6).toInt = zso kz nz (ztp kz (zty kz nz (zty kz nz xz)))) ∨ ((0 : Int32).toInt = 0 ∧ ∀ v : Int, ¬ zlaps kz nz xz v)) ∧ (∀ a : Nat, a ∈ L → K a = 2 → ¬ a = p0 → ∀ j : Nat, I_18 a j = I a j) from by have n9 := num_0; exact ⟨by omega, Or.inr ⟨by omega, fun v h => w_23 v h.2⟩, fun a ha ka na j => (by have t1_ := fr_7 a ha (fun z => by cases z); have k1_ := t1_.2.1.trans ka; have m1_ := t1_.1; have t2_ := fr_18 a m1_ (fun z => by cases z); have k2_ := t2_.2.1.trans k1_; have m2_ := t2_.1; exact ((t2_.2.2.1 j (by rw [k1_]; rfl)).trans (t1_.2.2.1 j (by rw [ka]; rfl))))⟩) dX4_readLaps_20
  · refine mm_if_eq (X := r_5.toInt) (tgt := 19) hx hb dX4_readLaps_6 (by decide) rfl (fun c_39 => ?_) (fun c_39 => False.elim (by omega))
    refine lv_iconst (v := 0) hx hb dX4_readLaps_19 (by decide) ?_
    have b_40 : 0 ≤ (I_7 x0 6).toInt ∧ (I_7 x0 6).toInt ≤ 4 := hM.ib m_8 k_8 6 rfl
    have b_41 : 0 ≤ (I_7 x0 7).toInt ∧ (I_7 x0 7).toInt ≤ 1000 := hM.ib m_8 k_8 7 rfl
    have e_42 : (I_7 p0 1).toInt = (I p0 1).toInt := congrArg Int32.toInt ((fr_7 p0 mp0 (fun z => by cases z)).2.2.1 1 (by rw [kp0]; rfl))
    have b_43 : 0 ≤ (I_7 x0 8).toInt ∧ (I_7 x0 8).toInt ≤ 1000 := hM.ib m_8 k_8 8 rfl
    exact cr_rz (mc := 0) (ms := 0) (X := 0) E hr hlk hsz hM ⟨show (0 : Nat) ≤ 0 from by omega, show (0 : Nat) ≤ 0 from by omega⟩ num_0 (by omega) (show ((I_7 x0 6).toInt = 0 ∨ (I_7 x0 7).toInt ≤ 999) ∧ (((0 : Int32).toInt = 1 ∧ zlaps kz nz xz (I_7 p0 1).toInt ∧ (I_7 x0 7).toInt = (ztp kz (zty kz nz (zty kz nz xz)) : Int) ∧ (I_7 x0 8).toInt = (zty kz nz (zty kz nz (zty kz nz xz)) : Int) ∧ (I_7 x0 6).toInt = zso kz nz (ztp kz (zty kz nz (zty kz nz xz)))) ∨ ((0 : Int32).toInt = 0 ∧ ∀ v : Int, ¬ zlaps kz nz xz v)) ∧ (∀ a : Nat, a ∈ L → K a = 2 → ¬ a = p0 → ∀ j : Nat, I_7 a j = I a j) from by have n9 := num_0; exact ⟨by omega, Or.inr ⟨by omega, fun v h => w_10 h.1⟩, fun a ha ka na j => (by have t1_ := fr_7 a ha (fun z => by cases z); have k1_ := t1_.2.1.trans ka; have m1_ := t1_.1; exact (t1_.2.2.1 j (by rw [ka]; rfl)))⟩) dX4_readLaps_20
def w5X4_readSpares : List Cond := .code yX4_readSpares cX4_readSpares 2 (some .boolean) :: ([.methodLink RX4 50 yX4_readWord, .instanceMethod yX4_readWord, .selects RX4 yX4_readWord yX4_readWord, .initialized RX4, .code yX4_readWord cX4_readWord 2 (some .boolean), .methodLink RX4 107 yX4_isWord, .instanceMethod yX4_isWord, .selects RX4 yX4_isWord yX4_isWord, .code yX4_isWord cX4_isWord 3 (some .boolean), .methodLink RX4 140 yJ0_length_8abf5, .instanceMethod yJ0_length_8abf5, .selects RJ0 yJ0_length_8abf5 yJ0_length_8abf5, .initialized RJ0, .code yJ0_length_8abf5 cJ0_length_8abf5 1 (some .int), .fieldLink RJ0 9 "java/lang/String" "value" "[B", .methodLink RJ0 335 yJ0_coder_7d493, .instanceMethod yJ0_coder_7d493, .selects RJ0 yJ0_coder_7d493 yJ0_coder_7d493, .code yJ0_coder_7d493 cJ0_coder_7d493 1 (some .byte), .fieldLink RJ0 38 "java/lang/String" "COMPACT_STRINGS" "Z", .fieldLink RJ0 15 "java/lang/String" "coder" "B", .fieldLink RX4 9 "SkiShots$Reader" "text" "[B", .fieldLink RX4 54 "SkiShots$Reader" "place" "I", .methodLink RX4 145 yJ0_charAt_5068e, .instanceMethod yJ0_charAt_5068e, .selects RJ0 yJ0_charAt_5068e yJ0_charAt_5068e, .code yJ0_charAt_5068e cJ0_charAt_5068e 2 (some .char), .methodLink RJ0 492 yJ0_isLatin1_aae02, .instanceMethod yJ0_isLatin1_aae02, .selects RJ0 yJ0_isLatin1_aae02 yJ0_isLatin1_aae02, .code yJ0_isLatin1_aae02 cJ0_isLatin1_aae02 1 (some .boolean), .methodLink RJ0 495 yJ1_charAt_3b067, .static yJ1_charAt_3b067, .initialized RJ1, .code yJ1_charAt_3b067 cJ1_charAt_3b067 2 (some .char), .methodLink RJ1 9 yJ0_checkIndex_df160, .static yJ0_checkIndex_df160, .code yJ0_checkIndex_df160 cJ0_checkIndex_df160 2 none, .fieldLink RJ0 1053 "jdk/internal/util/Preconditions" "SIOOBE_FORMATTER" "Ljava/util/function/BiFunction;", .methodLink RJ0 1059 yJ3_checkIndex_8e157, .static yJ3_checkIndex_8e157, .initialized RJ3, .code yJ3_checkIndex_8e157 cJ3_checkIndex_8e157 3 (some .int), .fieldLink RX4 37 "SkiShots$Reader" "sort" "I", .fieldLink RX4 133 "SkiShots$Reader" "behind" "I", .methodLink RX4 34 yX4_step, .instanceMethod yX4_step, .selects RX4 yX4_step yX4_step, .code yX4_step cX4_step 1 none, .fieldLink RX4 21 "SkiShots$Reader" "length" "I", .methodLink RX4 149 yX4_sortAt, .instanceMethod yX4_sortAt, .selects RX4 yX4_sortAt yX4_sortAt, .code yX4_sortAt cX4_sortAt 3 (some .int), .methodLink RX4 15 Lib.Math.min.name, .static Lib.Math.min.name, .initialized "java/lang/Math", .code Lib.Math.min.name Lib.Math.min.code 2 (some .int), .methodLink RX4 44 yX4_fail, .instanceMethod yX4_fail, .selects RX4 yX4_fail yX4_fail, .code yX4_fail cX4_fail 2 (some .boolean), .fieldLink RX4 137 "SkiShots$Reader" "fault" "I", .fieldLink RX4 31 "SkiShots$Reader" "faultPlace" "I", .methodLink RX4 85 yX4_readNumber, .instanceMethod yX4_readNumber, .selects RX4 yX4_readNumber yX4_readNumber, .code yX4_readNumber cX4_readNumber 4 (some .boolean), .fieldLink RX4 89 "SkiShots$Reader" "number" "I", .constant RX4 136 (100000), .fieldLink RX4 101 "SkiShots$Format" "spares" "I"] ++ wsX20 ++ wsX40)
set_option maxRecDepth 20000 in
theorem gz_X4_readSpares_X4_readWord_1 : GoodIn w5X4_readSpares (wsV RX4 50 RX4 yX4_readWord w5X4_readWord) := goodIn_p _ [5, 9, 14, 19, 27, 31, 35, 38, 43, 49, 54, 58, 62] rfl (by decide +kernel)
set_option maxRecDepth 20000 in
theorem gz_X4_readSpares_X4_readNumber_12 : GoodIn w5X4_readSpares (wsV RX4 85 RX4 yX4_readNumber w5X4_readNumber) := goodIn_p _ [68, 62, 49, 54, 58] rfl (by decide +kernel)
set_option maxHeartbeats 4000000 in
set_option maxRecDepth 100000 in
theorem h5_X4_readSpares (l : Launch) (D : va_G) (cA : Nat → ClassId) (ad av : Nat → Nat) (L : List Nat) (K : Nat → Nat) (I : Nat → Nat → Int32) (O : Nat → Nat → Option Nat) (sz : Nat) (x0 : Nat) (p0 : Nat) (hI : cI L K I O) (mx0 : x0 ∈ L) (kx0 : K x0 = 4) (mp0 : p0 ∈ L) (kp0 : K p0 = 2) (kz : Nat → Nat) (nz : Nat) (xz : Nat) (htx : zTx kz nz I O x0) (hat : (I x0 7).toInt = (ztp kz xz : Int) ∧ (I x0 8).toInt = (zty kz nz xz : Int) ∧ (I x0 6).toInt = zso kz nz (ztp kz xz)) (hrp : (I x0 6).toInt = 0 ∨ (I x0 7).toInt ≤ 999) : Met l yX4_readSpares w5X4_readSpares ({ frames := 6, cells := 0, slots := 0, locals := 128 }) (cPre D cA ad av L K I O sz [.ref x0, .ref p0]) (cQi D cA L K I O sz [] [(2, 3), (4, 4), (4, 5), (4, 6), (4, 7), (4, 8), (4, 9)] [] (fun r L' K' I' O' => ((I' x0 6).toInt = 0 ∨ (I' x0 7).toInt ≤ 999) ∧ ((r.toInt = 1 ∧ zspar kz nz xz (I' p0 3).toInt ∧ (I' x0 7).toInt = (ztp kz (zty kz nz (zty kz nz xz)) : Int) ∧ (I' x0 8).toInt = (zty kz nz (zty kz nz (zty kz nz xz)) : Int) ∧ (I' x0 6).toInt = zso kz nz (ztp kz (zty kz nz (zty kz nz xz)))) ∨ (r.toInt = 0 ∧ ∀ v : Int, ¬ zspar kz nz xz v)) ∧ (∀ a : Nat, a ∈ L → K a = 2 → ¬ a = p0 → ∀ j : Nat, I' a j = I a j))) 0 0 (va_A (cW cA L K I O) sz) := by
  refine cr_met (own := RX4) (xs := []) (WI := [(2, 3), (4, 4), (4, 5), (4, 6), (4, 7), (4, 8), (4, 9)]) (WO := []) (cc := cX4_readSpares) (maxL := 2) (ret := (some .boolean)) (by decide) rfl rfl (Nat.le_of_ble_eq_true rfl) hI ?_
  intro p e s m args below meth c ls E hV hml hr hlk hname hsz hA hM hl
  have hx := E.1
  have hb := E.2.1
  have hts := E.2.2.1
  have hown := E.2.2.2.1
  have hl : lv_has ls 2 [(0, .ref x0), (1, .ref p0)] := hl
  have hin2 : ∀ w ∈ wsX20, w ∈ w5X4_readSpares := by decide +kernel
  have hin4 : ∀ w ∈ wsX40, w ∈ w5X4_readSpares := by decide +kernel
  refine lv_aload_n hx hb dX4_readSpares_0 rfl (lv_at hl 0 rfl) ?_
  refine va_ldcS (own := RX4) (q := ad 3) hx hb hown (hV.2.2.1 3 (99, "spares") rfl) dX4_readSpares_1 ?_
  have b_2 : 0 ≤ (I x0 7).toInt ∧ (I x0 7).toInt ≤ 1000 := hM.ib mx0 kx0 7 rfl
  have b_3 : 0 ≤ (I x0 8).toInt ∧ (I x0 8).toInt ≤ 1000 := hM.ib mx0 kx0 8 rfl
  have b_4 : 0 ≤ (I x0 6).toInt ∧ (I x0 6).toInt ≤ 4 := hM.ib mx0 kx0 6 rfl
  refine cc_Vi (vs := [.ref (ad 3)]) (rest := []) (b := x0) (κ := 4) E hV rfl hA hml hM mx0 kx0 rfl rfl (h5_X4_readWord l D cA ad av L K I O _ x0 3 hM.2.2.2.1 mx0 kx0 (by decide) kz nz xz (zTx_fr htx hI mx0 kx0 hM.2.2.2.2 rfl rfl rfl) (show (I x0 7).toInt = (ztp kz xz : Int) ∧ (I x0 8).toInt = (zty kz nz xz : Int) ∧ (I x0 6).toInt = zso kz nz (ztp kz xz) from ⟨by omega, by omega, by omega⟩) (show (I x0 6).toInt = 0 ∨ (I x0 7).toInt ≤ 999 from by omega)) (cwV 1 hts gz_X4_readSpares_X4_readWord_1 rfl rfl rfl (by decide +kernel) ⟨Nat.le_of_ble_eq_true rfl, Nat.le_of_ble_eq_true rfl⟩) rfl hl.1 rfl (Nat.le_of_ble_eq_true rfl) dX4_readSpares_3 ⟨show (0 + 0 : Nat) ≤ 0 from by omega, show (0 + 0 : Nat) ≤ 0 from by omega⟩ (fun _ h => by cases h) (by decide) (by decide) (fun r_5 L_7 K_7 I_7 O_7 H locs fr_7 p_6 hM => ?_)
  have m_8 := (fr_7 x0 mx0 (fun z => by cases z)).1
  have k_8 : K_7 x0 = 4 := (fr_7 x0 mx0 (fun z => by cases z)).2.1.trans kx0
  have m_9 := (fr_7 p0 mp0 (fun z => by cases z)).1
  have k_9 : K_7 p0 = 2 := (fr_7 p0 mp0 (fun z => by cases z)).2.1.trans kp0
  replace p_6 : ((I_7 x0 6).toInt = 0 ∨ (I_7 x0 7).toInt ≤ 999) ∧ ((r_5.toInt = 1 ∧ zW kz nz xz (zwl 3) ∧ (I_7 x0 7).toInt = (ztp kz (zty kz nz xz) : Int) ∧ (I_7 x0 8).toInt = (zty kz nz (zty kz nz xz) : Int) ∧ (I_7 x0 6).toInt = zso kz nz (ztp kz (zty kz nz xz))) ∨ (r_5.toInt = 0 ∧ ¬ zW kz nz xz (zwl 3))) := p_6
  rcases p_6 with ⟨hrp_10, ⟨hr_10, w_10, a1_10, a2_10, a3_10⟩ | ⟨hr_10, w_10⟩⟩
  · refine mm_if_eq (X := r_5.toInt) (tgt := 18) hx hb dX4_readSpares_6 (by decide) rfl (fun c_11 => False.elim (by omega)) (fun c_11 => ?_)
    refine lv_aload_n hx hb dX4_readSpares_9 rfl (lv_at hl 0 rfl) ?_
    refine lv_iconst (v := 0) hx hb dX4_readSpares_10 (by decide) ?_
    refine lv_iconst (v := 3) hx hb dX4_readSpares_11 (by decide) ?_
    have b_13 : 0 ≤ (I_7 x0 7).toInt ∧ (I_7 x0 7).toInt ≤ 1000 := hM.ib m_8 k_8 7 rfl
    have b_14 : 0 ≤ (I_7 x0 8).toInt ∧ (I_7 x0 8).toInt ≤ 1000 := hM.ib m_8 k_8 8 rfl
    have b_15 : 0 ≤ (I_7 x0 6).toInt ∧ (I_7 x0 6).toInt ≤ 4 := hM.ib m_8 k_8 6 rfl
    refine cc_Vi (vs := [.int 0, .int 3]) (rest := []) (b := x0) (κ := 4) E hV rfl hA hml hM m_8 k_8 rfl rfl (h5_X4_readNumber l D cA ad av L_7 K_7 I_7 O_7 _ x0 0 3 hM.2.2.2.1 m_8 k_8 kz nz (zty kz nz xz) (zTx_fr htx hI mx0 kx0 hM.2.2.2.2 rfl rfl rfl) (show (I_7 x0 7).toInt = (ztp kz (zty kz nz xz) : Int) ∧ (I_7 x0 8).toInt = (zty kz nz (zty kz nz xz) : Int) ∧ (I_7 x0 6).toInt = zso kz nz (ztp kz (zty kz nz xz)) from ⟨by omega, by omega, by omega⟩) (show (I_7 x0 6).toInt = 0 ∨ (I_7 x0 7).toInt ≤ 999 from by have n_0 := num_0; have n_1 := num_3; omega) (show 0 ≤ (0 : Int32).toInt ∧ (0 : Int32).toInt ≤ 100000 from by have n_0 := num_0; have n_1 := num_3; omega) (show (3 : Int32).toInt ≤ 99999 from by have n_0 := num_0; have n_1 := num_3; omega)) (cwV 2 hts gz_X4_readSpares_X4_readNumber_12 rfl rfl rfl (by decide +kernel) ⟨Nat.le_of_ble_eq_true rfl, Nat.le_of_ble_eq_true rfl⟩) rfl hl.1 rfl (Nat.le_of_ble_eq_true rfl) dX4_readSpares_12 ⟨show (0 + 0 : Nat) ≤ 0 from by omega, show (0 + 0 : Nat) ≤ 0 from by omega⟩ (fun _ h => by cases h) (by decide) (by decide) (fun r_16 L_18 K_18 I_18 O_18 H locs fr_18 p_17 hM => ?_)
    have m_19 := (fr_18 x0 m_8 (fun z => by cases z)).1
    have k_19 : K_18 x0 = 4 := (fr_18 x0 m_8 (fun z => by cases z)).2.1.trans k_8
    have m_20 := (fr_18 p0 m_9 (fun z => by cases z)).1
    have k_20 : K_18 p0 = 2 := (fr_18 p0 m_9 (fun z => by cases z)).2.1.trans k_9
    replace p_17 : ((I_18 x0 6).toInt = 0 ∨ (I_18 x0 7).toInt ≤ 999) ∧ ((r_16.toInt = 1 ∧ zN kz nz (zty kz nz xz) (0 : Int32).toInt (3 : Int32).toInt (I_18 x0 9).toInt ∧ (I_18 x0 7).toInt = (ztp kz (zty kz nz (zty kz nz xz)) : Int) ∧ (I_18 x0 8).toInt = (zty kz nz (zty kz nz (zty kz nz xz)) : Int) ∧ (I_18 x0 6).toInt = zso kz nz (ztp kz (zty kz nz (zty kz nz xz)))) ∨ (r_16.toInt = 0 ∧ ∀ v : Int, ¬ zN kz nz (zty kz nz xz) (0 : Int32).toInt (3 : Int32).toInt v)) := p_17
    have nn_21 := num_0
    have nn_22 := num_3
    rcases p_17 with ⟨hrp_23, ⟨hr_23, w_23, a1_23, a2_23, a3_23⟩ | ⟨hr_23, w_23⟩⟩
    · rw [num_0, num_3] at w_23
      have hn1_23 := w_23.2.1
      have hn2_23 := w_23.2.2.1
      refine mm_if_ne (X := r_16.toInt) (tgt := 20) hx hb dX4_readSpares_15 (by decide) rfl (fun c_24 => ?_) (fun c_24 => False.elim (by omega))
      refine lv_aload_n hx hb dX4_readSpares_20 rfl (lv_at hl 1 rfl) ?_
      refine lv_aload_n hx hb dX4_readSpares_21 rfl (lv_at hl 0 rfl) ?_
      refine cr_get (κ := 4) (ci := 4) (k := 9) (C := RX4) (T := TX4) (N := 10) (fs := cfs 4) (v := .int (I_18 x0 9)) E hM m_19 k_19 (fun _ _ => rfl) rfl hin4 (by decide) (index := 89) (mm_at 69 rfl) rfl rfl dX4_readSpares_22 ?_
      refine cr_puti (κ := 2) (ci := 2) (k := 3) (C := RX2) (T := TX2) (N := 8) (fs := cfs 2) (ty := .int) (v := (I_18 x0 9)) E hM m_20 k_20 (fun _ _ => rfl) rfl hin2 tyX2 tyX2_ok nmX2 (by decide) (index := 101) (mm_at 71 rfl) rfl (Or.inl rfl) (by decide +kernel) rfl rfl (show (3 : Nat) < 8 from by decide) (fun _ _ _ => rfl) (cz_nb rfl) (cS_upd (hM.sp m_20 k_20) (by decide) (by decide)) (Or.inr (Or.inr rfl)) dX4_readSpares_25 (fun H locs I_25 eI_25 hM => ?_)
      refine lv_iconst (v := 1) hx hb dX4_readSpares_28 (by decide) ?_
      have b_26 : 0 ≤ (I_25 x0 6).toInt ∧ (I_25 x0 6).toInt ≤ 4 := hM.ib m_19 k_19 6 rfl
      have e_27 : (I_25 x0 6).toInt = (I_18 x0 6).toInt := congrArg Int32.toInt (cu_k eI_25 (by decide))
      have b_28 : 0 ≤ (I_25 x0 7).toInt ∧ (I_25 x0 7).toInt ≤ 1000 := hM.ib m_19 k_19 7 rfl
      have e_29 : (I_25 x0 7).toInt = (I_18 x0 7).toInt := congrArg Int32.toInt (cu_k eI_25 (by decide))
      have e_30 : (I_25 p0 3).toInt = (I_18 x0 9).toInt := (congrArg Int32.toInt (cu_s eI_25)).trans rfl
      have b_31 : 0 ≤ (I_25 x0 8).toInt ∧ (I_25 x0 8).toInt ≤ 1000 := hM.ib m_19 k_19 8 rfl
      have e_32 : (I_25 x0 8).toInt = (I_18 x0 8).toInt := congrArg Int32.toInt (cu_k eI_25 (by decide))
      exact cr_rz (mc := 0) (ms := 0) (X := 1) E hr hlk hsz hM ⟨show (0 : Nat) ≤ 0 from by omega, show (0 : Nat) ≤ 0 from by omega⟩ num_1 (by omega) (show ((I_25 x0 6).toInt = 0 ∨ (I_25 x0 7).toInt ≤ 999) ∧ (((1 : Int32).toInt = 1 ∧ zspar kz nz xz (I_25 p0 3).toInt ∧ (I_25 x0 7).toInt = (ztp kz (zty kz nz (zty kz nz xz)) : Int) ∧ (I_25 x0 8).toInt = (zty kz nz (zty kz nz (zty kz nz xz)) : Int) ∧ (I_25 x0 6).toInt = zso kz nz (ztp kz (zty kz nz (zty kz nz xz)))) ∨ ((1 : Int32).toInt = 0 ∧ ∀ v : Int, ¬ zspar kz nz xz v)) ∧ (∀ a : Nat, a ∈ L → K a = 2 → ¬ a = p0 → ∀ j : Nat, I_25 a j = I a j) from by have n9 := num_1; exact ⟨by omega, Or.inl ⟨by omega, ⟨w_10, by rw [show (I_25 p0 3).toInt = (I_18 x0 9).toInt from by omega]; exact w_23⟩, by omega, by omega, by omega⟩, fun a ha ka na j => (by have t1_ := fr_7 a ha (fun z => by cases z); have k1_ := t1_.2.1.trans ka; have m1_ := t1_.1; have t2_ := fr_18 a m1_ (fun z => by cases z); have k2_ := t2_.2.1.trans k1_; have m2_ := t2_.1; exact ((congrFun (cu_a eI_25 na) j).trans ((t2_.2.2.1 j (by rw [k1_]; rfl)).trans (t1_.2.2.1 j (by rw [ka]; rfl)))))⟩) dX4_readSpares_29
    · rw [num_0, num_3] at w_23
      refine mm_if_ne (X := r_16.toInt) (tgt := 20) hx hb dX4_readSpares_15 (by decide) rfl (fun c_33 => False.elim (by omega)) (fun c_33 => ?_)
      refine lv_iconst (v := 0) hx hb dX4_readSpares_18 (by decide) ?_
      have b_34 : 0 ≤ (I_18 x0 6).toInt ∧ (I_18 x0 6).toInt ≤ 4 := hM.ib m_19 k_19 6 rfl
      have b_35 : 0 ≤ (I_18 x0 7).toInt ∧ (I_18 x0 7).toInt ≤ 1000 := hM.ib m_19 k_19 7 rfl
      have e_36 : (I_7 p0 3).toInt = (I p0 3).toInt := congrArg Int32.toInt ((fr_7 p0 mp0 (fun z => by cases z)).2.2.1 3 (by rw [kp0]; rfl))
      have e_37 : (I_18 p0 3).toInt = (I_7 p0 3).toInt := congrArg Int32.toInt ((fr_18 p0 m_9 (fun z => by cases z)).2.2.1 3 (by rw [k_9]; rfl))
      have b_38 : 0 ≤ (I_18 x0 8).toInt ∧ (I_18 x0 8).toInt ≤ 1000 := hM.ib m_19 k_19 8 rfl
      exact cr_rz (mc := 0) (ms := 0) (X := 0) E hr hlk hsz hM ⟨show (0 : Nat) ≤ 0 from by omega, show (0 : Nat) ≤ 0 from by omega⟩ num_0 (by omega) (show ((I_18 x0 6).toInt = 0 ∨ (I_18 x0 7).toInt ≤ 999) ∧ (((0 : Int32).toInt = 1 ∧ zspar kz nz xz (I_18 p0 3).toInt ∧ (I_18 x0 7).toInt = (ztp kz (zty kz nz (zty kz nz xz)) : Int) ∧ (I_18 x0 8).toInt = (zty kz nz (zty kz nz (zty kz nz xz)) : Int) ∧ (I_18 x0 6).toInt = zso kz nz (ztp kz (zty kz nz (zty kz nz xz)))) ∨ ((0 : Int32).toInt = 0 ∧ ∀ v : Int, ¬ zspar kz nz xz v)) ∧ (∀ a : Nat, a ∈ L → K a = 2 → ¬ a = p0 → ∀ j : Nat, I_18 a j = I a j) from by have n9 := num_0; exact ⟨by omega, Or.inr ⟨by omega, fun v h => w_23 v h.2⟩, fun a ha ka na j => (by have t1_ := fr_7 a ha (fun z => by cases z); have k1_ := t1_.2.1.trans ka; have m1_ := t1_.1; have t2_ := fr_18 a m1_ (fun z => by cases z); have k2_ := t2_.2.1.trans k1_; have m2_ := t2_.1; exact ((t2_.2.2.1 j (by rw [k1_]; rfl)).trans (t1_.2.2.1 j (by rw [ka]; rfl))))⟩) dX4_readSpares_19
  · refine mm_if_eq (X := r_5.toInt) (tgt := 18) hx hb dX4_readSpares_6 (by decide) rfl (fun c_39 => ?_) (fun c_39 => False.elim (by omega))
    refine lv_iconst (v := 0) hx hb dX4_readSpares_18 (by decide) ?_
    have b_40 : 0 ≤ (I_7 x0 6).toInt ∧ (I_7 x0 6).toInt ≤ 4 := hM.ib m_8 k_8 6 rfl
    have b_41 : 0 ≤ (I_7 x0 7).toInt ∧ (I_7 x0 7).toInt ≤ 1000 := hM.ib m_8 k_8 7 rfl
    have e_42 : (I_7 p0 3).toInt = (I p0 3).toInt := congrArg Int32.toInt ((fr_7 p0 mp0 (fun z => by cases z)).2.2.1 3 (by rw [kp0]; rfl))
    have b_43 : 0 ≤ (I_7 x0 8).toInt ∧ (I_7 x0 8).toInt ≤ 1000 := hM.ib m_8 k_8 8 rfl
    exact cr_rz (mc := 0) (ms := 0) (X := 0) E hr hlk hsz hM ⟨show (0 : Nat) ≤ 0 from by omega, show (0 : Nat) ≤ 0 from by omega⟩ num_0 (by omega) (show ((I_7 x0 6).toInt = 0 ∨ (I_7 x0 7).toInt ≤ 999) ∧ (((0 : Int32).toInt = 1 ∧ zspar kz nz xz (I_7 p0 3).toInt ∧ (I_7 x0 7).toInt = (ztp kz (zty kz nz (zty kz nz xz)) : Int) ∧ (I_7 x0 8).toInt = (zty kz nz (zty kz nz (zty kz nz xz)) : Int) ∧ (I_7 x0 6).toInt = zso kz nz (ztp kz (zty kz nz (zty kz nz xz)))) ∨ ((0 : Int32).toInt = 0 ∧ ∀ v : Int, ¬ zspar kz nz xz v)) ∧ (∀ a : Nat, a ∈ L → K a = 2 → ¬ a = p0 → ∀ j : Nat, I_7 a j = I a j) from by have n9 := num_0; exact ⟨by omega, Or.inr ⟨by omega, fun v h => w_10 h.1⟩, fun a ha ka na j => (by have t1_ := fr_7 a ha (fun z => by cases z); have k1_ := t1_.2.1.trans ka; have m1_ := t1_.1; exact (t1_.2.2.1 j (by rw [ka]; rfl)))⟩) dX4_readSpares_19
def w5X4_readMiss : List Cond := .code yX4_readMiss cX4_readMiss 2 (some .boolean) :: ([.methodLink RX4 50 yX4_readWord, .instanceMethod yX4_readWord, .selects RX4 yX4_readWord yX4_readWord, .initialized RX4, .code yX4_readWord cX4_readWord 2 (some .boolean), .methodLink RX4 107 yX4_isWord, .instanceMethod yX4_isWord, .selects RX4 yX4_isWord yX4_isWord, .code yX4_isWord cX4_isWord 3 (some .boolean), .methodLink RX4 140 yJ0_length_8abf5, .instanceMethod yJ0_length_8abf5, .selects RJ0 yJ0_length_8abf5 yJ0_length_8abf5, .initialized RJ0, .code yJ0_length_8abf5 cJ0_length_8abf5 1 (some .int), .fieldLink RJ0 9 "java/lang/String" "value" "[B", .methodLink RJ0 335 yJ0_coder_7d493, .instanceMethod yJ0_coder_7d493, .selects RJ0 yJ0_coder_7d493 yJ0_coder_7d493, .code yJ0_coder_7d493 cJ0_coder_7d493 1 (some .byte), .fieldLink RJ0 38 "java/lang/String" "COMPACT_STRINGS" "Z", .fieldLink RJ0 15 "java/lang/String" "coder" "B", .fieldLink RX4 9 "SkiShots$Reader" "text" "[B", .fieldLink RX4 54 "SkiShots$Reader" "place" "I", .methodLink RX4 145 yJ0_charAt_5068e, .instanceMethod yJ0_charAt_5068e, .selects RJ0 yJ0_charAt_5068e yJ0_charAt_5068e, .code yJ0_charAt_5068e cJ0_charAt_5068e 2 (some .char), .methodLink RJ0 492 yJ0_isLatin1_aae02, .instanceMethod yJ0_isLatin1_aae02, .selects RJ0 yJ0_isLatin1_aae02 yJ0_isLatin1_aae02, .code yJ0_isLatin1_aae02 cJ0_isLatin1_aae02 1 (some .boolean), .methodLink RJ0 495 yJ1_charAt_3b067, .static yJ1_charAt_3b067, .initialized RJ1, .code yJ1_charAt_3b067 cJ1_charAt_3b067 2 (some .char), .methodLink RJ1 9 yJ0_checkIndex_df160, .static yJ0_checkIndex_df160, .code yJ0_checkIndex_df160 cJ0_checkIndex_df160 2 none, .fieldLink RJ0 1053 "jdk/internal/util/Preconditions" "SIOOBE_FORMATTER" "Ljava/util/function/BiFunction;", .methodLink RJ0 1059 yJ3_checkIndex_8e157, .static yJ3_checkIndex_8e157, .initialized RJ3, .code yJ3_checkIndex_8e157 cJ3_checkIndex_8e157 3 (some .int), .fieldLink RX4 37 "SkiShots$Reader" "sort" "I", .fieldLink RX4 133 "SkiShots$Reader" "behind" "I", .methodLink RX4 34 yX4_step, .instanceMethod yX4_step, .selects RX4 yX4_step yX4_step, .code yX4_step cX4_step 1 none, .fieldLink RX4 21 "SkiShots$Reader" "length" "I", .methodLink RX4 149 yX4_sortAt, .instanceMethod yX4_sortAt, .selects RX4 yX4_sortAt yX4_sortAt, .code yX4_sortAt cX4_sortAt 3 (some .int), .methodLink RX4 15 Lib.Math.min.name, .static Lib.Math.min.name, .initialized "java/lang/Math", .code Lib.Math.min.name Lib.Math.min.code 2 (some .int), .methodLink RX4 44 yX4_fail, .instanceMethod yX4_fail, .selects RX4 yX4_fail yX4_fail, .code yX4_fail cX4_fail 2 (some .boolean), .fieldLink RX4 137 "SkiShots$Reader" "fault" "I", .fieldLink RX4 31 "SkiShots$Reader" "faultPlace" "I", .fieldLink RX4 110 "SkiShots$Format" "loops" "Z", .methodLink RX4 85 yX4_readNumber, .instanceMethod yX4_readNumber, .selects RX4 yX4_readNumber yX4_readNumber, .code yX4_readNumber cX4_readNumber 4 (some .boolean), .fieldLink RX4 89 "SkiShots$Reader" "number" "I", .constant RX4 136 (100000), .fieldLink RX4 116 "SkiShots$Format" "missSeconds" "I"] ++ wsX20 ++ wsX40)
set_option maxRecDepth 20000 in
theorem gz_X4_readMiss_X4_readWord_1 : GoodIn w5X4_readMiss (wsV RX4 50 RX4 yX4_readWord w5X4_readWord) := goodIn_p _ [5, 9, 14, 19, 27, 31, 35, 38, 43, 49, 54, 58, 62] rfl (by decide +kernel)
set_option maxRecDepth 20000 in
theorem gz_X4_readMiss_X4_isWord_12 : GoodIn w5X4_readMiss (wsV RX4 107 RX4 yX4_isWord w5X4_isWord) := goodIn_p _ [9, 14, 19, 27, 31, 35, 38, 43] rfl (by decide +kernel)
set_option maxRecDepth 20000 in
theorem gz_X4_readMiss_X4_step_23 : GoodIn w5X4_readMiss (wsV RX4 34 RX4 yX4_step w5X4_step) := goodIn_p _ [49, 54, 58] rfl (by decide +kernel)
set_option maxRecDepth 20000 in
theorem gz_X4_readMiss_X4_readNumber_32 : GoodIn w5X4_readMiss (wsV RX4 85 RX4 yX4_readNumber w5X4_readNumber) := goodIn_p _ [69, 62, 49, 54, 58] rfl (by decide +kernel)
set_option maxRecDepth 20000 in
theorem gz_X4_readMiss_X4_isWord_69 : GoodIn w5X4_readMiss (wsV RX4 107 RX4 yX4_isWord w5X4_isWord) := goodIn_p _ [9, 14, 19, 27, 31, 35, 38, 43] rfl (by decide +kernel)
set_option maxRecDepth 20000 in
theorem gz_X4_readMiss_X4_step_81 : GoodIn w5X4_readMiss (wsV RX4 34 RX4 yX4_step w5X4_step) := goodIn_p _ [49, 54, 58] rfl (by decide +kernel)
set_option maxRecDepth 20000 in
theorem gz_X4_readMiss_X4_readNumber_88 : GoodIn w5X4_readMiss (wsV RX4 85 RX4 yX4_readNumber w5X4_readNumber) := goodIn_p _ [69, 62, 49, 54, 58] rfl (by decide +kernel)
set_option maxRecDepth 20000 in
theorem gz_X4_readMiss_X4_fail_123 : GoodIn w5X4_readMiss (wsV RX4 44 RX4 yX4_fail w4X4_fail) := goodIn_p _ [62] rfl (by decide +kernel)
set_option maxHeartbeats 4000000 in
set_option maxRecDepth 100000 in
theorem h5_X4_readMiss (l : Launch) (D : va_G) (cA : Nat → ClassId) (ad av : Nat → Nat) (L : List Nat) (K : Nat → Nat) (I : Nat → Nat → Int32) (O : Nat → Nat → Option Nat) (sz : Nat) (x0 : Nat) (p0 : Nat) (hI : cI L K I O) (mx0 : x0 ∈ L) (kx0 : K x0 = 4) (mp0 : p0 ∈ L) (kp0 : K p0 = 2) (kz : Nat → Nat) (nz : Nat) (xz : Nat) (htx : zTx kz nz I O x0) (hat : (I x0 7).toInt = (ztp kz xz : Int) ∧ (I x0 8).toInt = (zty kz nz xz : Int) ∧ (I x0 6).toInt = zso kz nz (ztp kz xz)) (hrp : (I x0 6).toInt = 0 ∨ (I x0 7).toInt ≤ 999) : Met l yX4_readMiss w5X4_readMiss ({ frames := 6, cells := 0, slots := 0, locals := 128 }) (cPre D cA ad av L K I O sz [.ref x0, .ref p0]) (cQi D cA L K I O sz [] [(2, 4), (2, 5), (4, 4), (4, 5), (4, 6), (4, 7), (4, 8), (4, 9)] [] (fun r L' K' I' O' => ((I' x0 6).toInt = 0 ∨ (I' x0 7).toInt ≤ 999) ∧ ((r.toInt = 1 ∧ zmiss kz nz xz (I' p0 4).toInt (I' p0 5).toInt ∧ (I' x0 7).toInt = (ztp kz (zty kz nz (zty kz nz (zty kz nz xz))) : Int) ∧ (I' x0 8).toInt = (zty kz nz (zty kz nz (zty kz nz (zty kz nz xz))) : Int) ∧ (I' x0 6).toInt = zso kz nz (ztp kz (zty kz nz (zty kz nz (zty kz nz xz))))) ∨ (r.toInt = 0 ∧ ∀ b v : Int, ¬ zmiss kz nz xz b v)) ∧ (∀ a : Nat, a ∈ L → K a = 2 → ¬ a = p0 → ∀ j : Nat, I' a j = I a j))) 0 0 (va_A (cW cA L K I O) sz) := by
  refine cr_met (own := RX4) (xs := []) (WI := [(2, 4), (2, 5), (4, 4), (4, 5), (4, 6), (4, 7), (4, 8), (4, 9)]) (WO := []) (cc := cX4_readMiss) (maxL := 2) (ret := (some .boolean)) (by decide) rfl rfl (Nat.le_of_ble_eq_true rfl) hI ?_
  intro p e s m args below meth c ls E hV hml hr hlk hname hsz hA hM hl
  have hx := E.1
  have hb := E.2.1
  have hts := E.2.2.1
  have hown := E.2.2.2.1
  have hl : lv_has ls 2 [(0, .ref x0), (1, .ref p0)] := hl
  have hin2 : ∀ w ∈ wsX20, w ∈ w5X4_readMiss := by decide +kernel
  have hin4 : ∀ w ∈ wsX40, w ∈ w5X4_readMiss := by decide +kernel
  refine lv_aload_n hx hb dX4_readMiss_0 rfl (lv_at hl 0 rfl) ?_
  refine va_ldcS (own := RX4) (q := ad 4) hx hb hown (hV.2.2.1 4 (103, "miss") rfl) dX4_readMiss_1 ?_
  have b_2 : 0 ≤ (I x0 7).toInt ∧ (I x0 7).toInt ≤ 1000 := hM.ib mx0 kx0 7 rfl
  have b_3 : 0 ≤ (I x0 8).toInt ∧ (I x0 8).toInt ≤ 1000 := hM.ib mx0 kx0 8 rfl
  have b_4 : 0 ≤ (I x0 6).toInt ∧ (I x0 6).toInt ≤ 4 := hM.ib mx0 kx0 6 rfl
  refine cc_Vi (vs := [.ref (ad 4)]) (rest := []) (b := x0) (κ := 4) E hV rfl hA hml hM mx0 kx0 rfl rfl (h5_X4_readWord l D cA ad av L K I O _ x0 4 hM.2.2.2.1 mx0 kx0 (by decide) kz nz xz (zTx_fr htx hI mx0 kx0 hM.2.2.2.2 rfl rfl rfl) (show (I x0 7).toInt = (ztp kz xz : Int) ∧ (I x0 8).toInt = (zty kz nz xz : Int) ∧ (I x0 6).toInt = zso kz nz (ztp kz xz) from ⟨by omega, by omega, by omega⟩) (show (I x0 6).toInt = 0 ∨ (I x0 7).toInt ≤ 999 from by omega)) (cwV 1 hts gz_X4_readMiss_X4_readWord_1 rfl rfl rfl (by decide +kernel) ⟨Nat.le_of_ble_eq_true rfl, Nat.le_of_ble_eq_true rfl⟩) rfl hl.1 rfl (Nat.le_of_ble_eq_true rfl) dX4_readMiss_3 ⟨show (0 + 0 : Nat) ≤ 0 from by omega, show (0 + 0 : Nat) ≤ 0 from by omega⟩ (fun _ h => by cases h) (by decide) (by decide) (fun r_5 L_7 K_7 I_7 O_7 H locs fr_7 p_6 hM => ?_)
  have m_8 := (fr_7 x0 mx0 (fun z => by cases z)).1
  have k_8 : K_7 x0 = 4 := (fr_7 x0 mx0 (fun z => by cases z)).2.1.trans kx0
  have m_9 := (fr_7 p0 mp0 (fun z => by cases z)).1
  have k_9 : K_7 p0 = 2 := (fr_7 p0 mp0 (fun z => by cases z)).2.1.trans kp0
  replace p_6 : ((I_7 x0 6).toInt = 0 ∨ (I_7 x0 7).toInt ≤ 999) ∧ ((r_5.toInt = 1 ∧ zW kz nz xz (zwl 4) ∧ (I_7 x0 7).toInt = (ztp kz (zty kz nz xz) : Int) ∧ (I_7 x0 8).toInt = (zty kz nz (zty kz nz xz) : Int) ∧ (I_7 x0 6).toInt = zso kz nz (ztp kz (zty kz nz xz))) ∨ (r_5.toInt = 0 ∧ ¬ zW kz nz xz (zwl 4))) := p_6
  rcases p_6 with ⟨hrp_10, ⟨hr_10, w_10, a1_10, a2_10, a3_10⟩ | ⟨hr_10, w_10⟩⟩
  · refine mm_if_ne (X := r_5.toInt) (tgt := 11) hx hb dX4_readMiss_6 (by decide) rfl (fun c_11 => ?_) (fun c_11 => False.elim (by omega))
    refine lv_aload_n hx hb dX4_readMiss_11 rfl (lv_at hl 1 rfl) ?_
    refine lv_aload_n hx hb dX4_readMiss_12 rfl (lv_at hl 0 rfl) ?_
    refine va_ldcS (own := RX4) (q := ad 5) hx hb hown (hV.2.2.1 5 (105, "loop") rfl) dX4_readMiss_13 ?_
    have b_13 : 0 ≤ (I_7 x0 7).toInt ∧ (I_7 x0 7).toInt ≤ 1000 := hM.ib m_8 k_8 7 rfl
    have b_14 : 0 ≤ (I_7 x0 8).toInt ∧ (I_7 x0 8).toInt ≤ 1000 := hM.ib m_8 k_8 8 rfl
    have b_15 : 0 ≤ (I_7 x0 6).toInt ∧ (I_7 x0 6).toInt ≤ 4 := hM.ib m_8 k_8 6 rfl
    refine cc_Vip (vs := [.ref (ad 5)]) (rest := [.ref p0]) (b := x0) (κ := 4) E hV rfl hA hml hM m_8 k_8 rfl rfl (h5_X4_isWord l D cA ad av L_7 K_7 I_7 O_7 _ x0 5 hM.2.2.2.1 m_8 k_8 (by decide) kz nz (zty kz nz xz) (zTx_fr htx hI mx0 kx0 hM.2.2.2.2 rfl rfl rfl) (show (I_7 x0 7).toInt = (ztp kz (zty kz nz xz) : Int) ∧ (I_7 x0 8).toInt = (zty kz nz (zty kz nz xz) : Int) ∧ (I_7 x0 6).toInt = zso kz nz (ztp kz (zty kz nz xz)) from ⟨by omega, by omega, by omega⟩)) (cwV 1 hts gz_X4_readMiss_X4_isWord_12 rfl rfl rfl (by decide +kernel) ⟨Nat.le_of_ble_eq_true rfl, Nat.le_of_ble_eq_true rfl⟩) rfl hl.1 rfl (Nat.le_of_ble_eq_true rfl) dX4_readMiss_15 ⟨show (0 : Nat) ≤ 0 from by omega, show (0 : Nat) ≤ 0 from by omega⟩ (fun r_16 H locs p_17 hM => ?_)
    replace p_17 : (r_16.toInt = 1 ∧ zW kz nz (zty kz nz xz) (zwl 5)) ∨ (r_16.toInt = 0 ∧ ¬ zW kz nz (zty kz nz xz) (zwl 5)) := p_17
    rcases p_17 with ⟨hr_19, w_19⟩ | ⟨hr_19, w_19⟩
    · refine cr_puti (κ := 2) (ci := 2) (k := 4) (C := RX2) (T := TX2) (N := 8) (fs := cfs 2) (ty := .boolean) (v := r_16) E hM m_9 k_9 (fun _ _ => rfl) rfl hin2 tyX2 tyX2_ok nmX2 (by decide) (index := 110) (mm_at 65 rfl) rfl (Or.inl rfl) (by decide +kernel) (cz_nar (X := r_16.toInt) rfl (by omega)).1 (cz_nar (X := r_16.toInt) rfl (by omega)).2 (show (4 : Nat) < 8 from by decide) (fun _ _ _ => rfl) (cz_nb rfl) (cS_upd (hM.sp m_9 k_9) (by decide) (by decide)) (Or.inr (Or.inr rfl)) dX4_readMiss_18 (fun H locs I_20 eI_20 hM => ?_)
      refine lv_aload_n hx hb dX4_readMiss_21 rfl (lv_at hl 1 rfl) ?_
      have e_21 : (I_20 p0 4).toInt = r_16.toInt := (congrArg Int32.toInt (cu_s eI_20)).trans rfl
      refine cr_get (κ := 2) (ci := 2) (k := 4) (C := RX2) (T := TX2) (N := 8) (fs := cfs 2) (v := .int (I_20 p0 4)) E hM m_9 k_9 (fun _ _ => rfl) rfl hin2 (by decide) (index := 110) (mm_at 65 rfl) rfl rfl dX4_readMiss_22 ?_
      refine mm_if_ne (X := (I_20 p0 4).toInt) (tgt := 43) hx hb dX4_readMiss_25 (by decide) rfl (fun c_22 => ?_) (fun c_22 => False.elim (by omega))
      refine lv_aload_n hx hb dX4_readMiss_43 rfl (lv_at hl 0 rfl) ?_
      have b_24 : 0 ≤ (I_20 x0 8).toInt ∧ (I_20 x0 8).toInt ≤ 1000 := hM.ib m_8 k_8 8 rfl
      have e_25 : (I_20 x0 8).toInt = (I_7 x0 8).toInt := congrArg Int32.toInt (cu_k eI_20 (by decide))
      refine cc_Vv (vs := []) (rest := []) (b := x0) (κ := 4) E hV rfl hA hml hM m_8 k_8 rfl rfl (h5_X4_step l D cA ad av L_7 K_7 I_20 O_7 _ x0 hM.2.2.2.1 m_8 k_8 kz nz (zty kz nz (zty kz nz xz)) (zTx_fr htx hI mx0 kx0 hM.2.2.2.2 rfl rfl rfl) (show (I_20 x0 8).toInt = ((zty kz nz (zty kz nz xz)) : Int) from by omega)) (cwV 0 hts gz_X4_readMiss_X4_step_23 rfl rfl rfl (by decide +kernel) ⟨Nat.le_of_ble_eq_true rfl, Nat.le_of_ble_eq_true rfl⟩) rfl hl.1 rfl (Nat.le_of_ble_eq_true rfl) dX4_readMiss_44 ⟨show (0 + 0 : Nat) ≤ 0 from by omega, show (0 + 0 : Nat) ≤ 0 from by omega⟩ (fun _ h => by cases h) (by decide) (by decide) (fun L_28 K_28 I_28 O_28 H locs fr_28 p_27 hM => ?_)
      have m_29 := (fr_28 x0 m_8 (fun z => by cases z)).1
      have k_29 : K_28 x0 = 4 := (fr_28 x0 m_8 (fun z => by cases z)).2.1.trans k_8
      have m_30 := (fr_28 p0 m_9 (fun z => by cases z)).1
      have k_30 : K_28 p0 = 2 := (fr_28 p0 m_9 (fun z => by cases z)).2.1.trans k_9
      replace p_27 : ((I_28 x0 6).toInt = 0 ∨ (I_28 x0 7).toInt ≤ 999) ∧ (I_28 x0 7).toInt = (ztp kz (zty kz nz (zty kz nz xz)) : Int) ∧ (I_28 x0 8).toInt = (zty kz nz (zty kz nz (zty kz nz xz)) : Int) ∧ (I_28 x0 6).toInt = zso kz nz (ztp kz (zty kz nz (zty kz nz xz))) := p_27
      rcases p_27 with ⟨hrp_31, a1_31, a2_31, a3_31⟩
      refine lv_aload_n hx hb dX4_readMiss_47 rfl (lv_at hl 0 rfl) ?_
      refine lv_iconst (v := 0) hx hb dX4_readMiss_48 (by decide) ?_
      refine lv_sipush (v := 600) hx hb dX4_readMiss_49 (by decide) ?_
      have b_33 : 0 ≤ (I_28 x0 7).toInt ∧ (I_28 x0 7).toInt ≤ 1000 := hM.ib m_29 k_29 7 rfl
      have b_34 : 0 ≤ (I_28 x0 8).toInt ∧ (I_28 x0 8).toInt ≤ 1000 := hM.ib m_29 k_29 8 rfl
      have b_35 : 0 ≤ (I_28 x0 6).toInt ∧ (I_28 x0 6).toInt ≤ 4 := hM.ib m_29 k_29 6 rfl
      refine cc_Vi (vs := [.int 0, .int 600]) (rest := []) (b := x0) (κ := 4) E hV rfl hA hml hM m_29 k_29 rfl rfl (h5_X4_readNumber l D cA ad av L_28 K_28 I_28 O_28 _ x0 0 600 hM.2.2.2.1 m_29 k_29 kz nz (zty kz nz (zty kz nz xz)) (zTx_fr htx hI mx0 kx0 hM.2.2.2.2 rfl rfl rfl) (show (I_28 x0 7).toInt = (ztp kz (zty kz nz (zty kz nz xz)) : Int) ∧ (I_28 x0 8).toInt = (zty kz nz (zty kz nz (zty kz nz xz)) : Int) ∧ (I_28 x0 6).toInt = zso kz nz (ztp kz (zty kz nz (zty kz nz xz))) from ⟨by omega, by omega, by omega⟩) (show (I_28 x0 6).toInt = 0 ∨ (I_28 x0 7).toInt ≤ 999 from by have n_0 := num_0; have n_1 := num_600; omega) (show 0 ≤ (0 : Int32).toInt ∧ (0 : Int32).toInt ≤ 100000 from by have n_0 := num_0; have n_1 := num_600; omega) (show (600 : Int32).toInt ≤ 99999 from by have n_0 := num_0; have n_1 := num_600; omega)) (cwV 2 hts gz_X4_readMiss_X4_readNumber_32 rfl rfl rfl (by decide +kernel) ⟨Nat.le_of_ble_eq_true rfl, Nat.le_of_ble_eq_true rfl⟩) rfl hl.1 rfl (Nat.le_of_ble_eq_true rfl) dX4_readMiss_52 ⟨show (0 + 0 : Nat) ≤ 0 from by omega, show (0 + 0 : Nat) ≤ 0 from by omega⟩ (fun _ h => by cases h) (by decide) (by decide) (fun r_36 L_38 K_38 I_38 O_38 H locs fr_38 p_37 hM => ?_)
      have m_39 := (fr_38 x0 m_29 (fun z => by cases z)).1
      have k_39 : K_38 x0 = 4 := (fr_38 x0 m_29 (fun z => by cases z)).2.1.trans k_29
      have m_40 := (fr_38 p0 m_30 (fun z => by cases z)).1
      have k_40 : K_38 p0 = 2 := (fr_38 p0 m_30 (fun z => by cases z)).2.1.trans k_30
      replace p_37 : ((I_38 x0 6).toInt = 0 ∨ (I_38 x0 7).toInt ≤ 999) ∧ ((r_36.toInt = 1 ∧ zN kz nz (zty kz nz (zty kz nz xz)) (0 : Int32).toInt (600 : Int32).toInt (I_38 x0 9).toInt ∧ (I_38 x0 7).toInt = (ztp kz (zty kz nz (zty kz nz (zty kz nz xz))) : Int) ∧ (I_38 x0 8).toInt = (zty kz nz (zty kz nz (zty kz nz (zty kz nz xz))) : Int) ∧ (I_38 x0 6).toInt = zso kz nz (ztp kz (zty kz nz (zty kz nz (zty kz nz xz))))) ∨ (r_36.toInt = 0 ∧ ∀ v : Int, ¬ zN kz nz (zty kz nz (zty kz nz xz)) (0 : Int32).toInt (600 : Int32).toInt v)) := p_37
      have nn_41 := num_0
      have nn_42 := num_600
      rcases p_37 with ⟨hrp_43, ⟨hr_43, w_43, a1_43, a2_43, a3_43⟩ | ⟨hr_43, w_43⟩⟩
      · rw [num_0, num_600] at w_43
        have hn1_43 := w_43.2.1
        have hn2_43 := w_43.2.2.1
        refine mm_if_ne (X := r_36.toInt) (tgt := 60) hx hb dX4_readMiss_55 (by decide) rfl (fun c_44 => ?_) (fun c_44 => False.elim (by omega))
        refine lv_aload_n hx hb dX4_readMiss_60 rfl (lv_at hl 1 rfl) ?_
        refine lv_aload_n hx hb dX4_readMiss_61 rfl (lv_at hl 0 rfl) ?_
        refine cr_get (κ := 4) (ci := 4) (k := 9) (C := RX4) (T := TX4) (N := 10) (fs := cfs 4) (v := .int (I_38 x0 9)) E hM m_39 k_39 (fun _ _ => rfl) rfl hin4 (by decide) (index := 89) (mm_at 70 rfl) rfl rfl dX4_readMiss_62 ?_
        refine cr_puti (κ := 2) (ci := 2) (k := 5) (C := RX2) (T := TX2) (N := 8) (fs := cfs 2) (ty := .int) (v := (I_38 x0 9)) E hM m_40 k_40 (fun _ _ => rfl) rfl hin2 tyX2 tyX2_ok nmX2 (by decide) (index := 116) (mm_at 72 rfl) rfl (Or.inl rfl) (by decide +kernel) rfl rfl (show (5 : Nat) < 8 from by decide) (fun _ _ _ => rfl) (cz_nb rfl) (cS_upd (hM.sp m_40 k_40) (by decide) (by decide)) (Or.inr (Or.inr rfl)) dX4_readMiss_65 (fun H locs I_45 eI_45 hM => ?_)
        refine lv_iconst (v := 1) hx hb dX4_readMiss_68 (by decide) ?_
        have b_46 : 0 ≤ (I_45 x0 6).toInt ∧ (I_45 x0 6).toInt ≤ 4 := hM.ib m_39 k_39 6 rfl
        have e_47 : (I_45 x0 6).toInt = (I_38 x0 6).toInt := congrArg Int32.toInt (cu_k eI_45 (by decide))
        have b_48 : 0 ≤ (I_45 x0 7).toInt ∧ (I_45 x0 7).toInt ≤ 1000 := hM.ib m_39 k_39 7 rfl
        have e_49 : (I_45 x0 7).toInt = (I_38 x0 7).toInt := congrArg Int32.toInt (cu_k eI_45 (by decide))
        have e_50 : (I_28 p0 4).toInt = (I_20 p0 4).toInt := congrArg Int32.toInt ((fr_28 p0 m_9 (fun z => by cases z)).2.2.1 4 (by rw [k_9]; rfl))
        have e_51 : (I_38 p0 4).toInt = (I_28 p0 4).toInt := congrArg Int32.toInt ((fr_38 p0 m_30 (fun z => by cases z)).2.2.1 4 (by rw [k_30]; rfl))
        have e_52 : (I_45 p0 4).toInt = (I_38 p0 4).toInt := congrArg Int32.toInt (cu_k eI_45 (by decide))
        have e_53 : (I_45 p0 5).toInt = (I_38 x0 9).toInt := (congrArg Int32.toInt (cu_s eI_45)).trans rfl
        have b_54 : 0 ≤ (I_45 x0 8).toInt ∧ (I_45 x0 8).toInt ≤ 1000 := hM.ib m_39 k_39 8 rfl
        have e_55 : (I_45 x0 8).toInt = (I_38 x0 8).toInt := congrArg Int32.toInt (cu_k eI_45 (by decide))
        exact cr_rz (mc := 0) (ms := 0) (X := 1) E hr hlk hsz hM ⟨show (0 : Nat) ≤ 0 from by omega, show (0 : Nat) ≤ 0 from by omega⟩ num_1 (by omega) (show ((I_45 x0 6).toInt = 0 ∨ (I_45 x0 7).toInt ≤ 999) ∧ (((1 : Int32).toInt = 1 ∧ zmiss kz nz xz (I_45 p0 4).toInt (I_45 p0 5).toInt ∧ (I_45 x0 7).toInt = (ztp kz (zty kz nz (zty kz nz (zty kz nz xz))) : Int) ∧ (I_45 x0 8).toInt = (zty kz nz (zty kz nz (zty kz nz (zty kz nz xz))) : Int) ∧ (I_45 x0 6).toInt = zso kz nz (ztp kz (zty kz nz (zty kz nz (zty kz nz xz))))) ∨ ((1 : Int32).toInt = 0 ∧ ∀ b v : Int, ¬ zmiss kz nz xz b v)) ∧ (∀ a : Nat, a ∈ L → K a = 2 → ¬ a = p0 → ∀ j : Nat, I_45 a j = I a j) from by have n9 := num_1; exact ⟨by omega, Or.inl ⟨by omega, ⟨w_10, Or.inl ⟨w_19, by omega⟩, by rw [show (I_45 p0 5).toInt = (I_38 x0 9).toInt from by omega]; exact w_43⟩, by omega, by omega, by omega⟩, fun a ha ka na j => (by have t1_ := fr_7 a ha (fun z => by cases z); have k1_ := t1_.2.1.trans ka; have m1_ := t1_.1; have t2_ := fr_28 a m1_ (fun z => by cases z); have k2_ := t2_.2.1.trans k1_; have m2_ := t2_.1; have t3_ := fr_38 a m2_ (fun z => by cases z); have k3_ := t3_.2.1.trans k2_; have m3_ := t3_.1; exact ((congrFun (cu_a eI_45 na) j).trans ((t3_.2.2.1 j (by rw [k2_]; rfl)).trans ((t2_.2.2.1 j (by rw [k1_]; rfl)).trans ((congrFun (cu_a eI_20 na) j).trans (t1_.2.2.1 j (by rw [ka]; rfl)))))))⟩) dX4_readMiss_69
      · rw [num_0, num_600] at w_43
        refine mm_if_ne (X := r_36.toInt) (tgt := 60) hx hb dX4_readMiss_55 (by decide) rfl (fun c_56 => False.elim (by omega)) (fun c_56 => ?_)
        refine lv_iconst (v := 0) hx hb dX4_readMiss_58 (by decide) ?_
        have b_57 : 0 ≤ (I_38 x0 6).toInt ∧ (I_38 x0 6).toInt ≤ 4 := hM.ib m_39 k_39 6 rfl
        have b_58 : 0 ≤ (I_38 x0 7).toInt ∧ (I_38 x0 7).toInt ≤ 1000 := hM.ib m_39 k_39 7 rfl
        have e_59 : (I_28 p0 4).toInt = (I_20 p0 4).toInt := congrArg Int32.toInt ((fr_28 p0 m_9 (fun z => by cases z)).2.2.1 4 (by rw [k_9]; rfl))
        have e_60 : (I_38 p0 4).toInt = (I_28 p0 4).toInt := congrArg Int32.toInt ((fr_38 p0 m_30 (fun z => by cases z)).2.2.1 4 (by rw [k_30]; rfl))
        have e_61 : (I_7 p0 5).toInt = (I p0 5).toInt := congrArg Int32.toInt ((fr_7 p0 mp0 (fun z => by cases z)).2.2.1 5 (by rw [kp0]; rfl))
        have e_62 : (I_20 p0 5).toInt = (I_7 p0 5).toInt := congrArg Int32.toInt (cu_k eI_20 (by decide))
        have e_63 : (I_28 p0 5).toInt = (I_20 p0 5).toInt := congrArg Int32.toInt ((fr_28 p0 m_9 (fun z => by cases z)).2.2.1 5 (by rw [k_9]; rfl))
        have e_64 : (I_38 p0 5).toInt = (I_28 p0 5).toInt := congrArg Int32.toInt ((fr_38 p0 m_30 (fun z => by cases z)).2.2.1 5 (by rw [k_30]; rfl))
        have b_65 : 0 ≤ (I_38 x0 8).toInt ∧ (I_38 x0 8).toInt ≤ 1000 := hM.ib m_39 k_39 8 rfl
        exact cr_rz (mc := 0) (ms := 0) (X := 0) E hr hlk hsz hM ⟨show (0 : Nat) ≤ 0 from by omega, show (0 : Nat) ≤ 0 from by omega⟩ num_0 (by omega) (show ((I_38 x0 6).toInt = 0 ∨ (I_38 x0 7).toInt ≤ 999) ∧ (((0 : Int32).toInt = 1 ∧ zmiss kz nz xz (I_38 p0 4).toInt (I_38 p0 5).toInt ∧ (I_38 x0 7).toInt = (ztp kz (zty kz nz (zty kz nz (zty kz nz xz))) : Int) ∧ (I_38 x0 8).toInt = (zty kz nz (zty kz nz (zty kz nz (zty kz nz xz))) : Int) ∧ (I_38 x0 6).toInt = zso kz nz (ztp kz (zty kz nz (zty kz nz (zty kz nz xz))))) ∨ ((0 : Int32).toInt = 0 ∧ ∀ b v : Int, ¬ zmiss kz nz xz b v)) ∧ (∀ a : Nat, a ∈ L → K a = 2 → ¬ a = p0 → ∀ j : Nat, I_38 a j = I a j) from by have n9 := num_0; exact ⟨by omega, Or.inr ⟨by omega, fun b v h => w_43 v h.2.2⟩, fun a ha ka na j => (by have t1_ := fr_7 a ha (fun z => by cases z); have k1_ := t1_.2.1.trans ka; have m1_ := t1_.1; have t2_ := fr_28 a m1_ (fun z => by cases z); have k2_ := t2_.2.1.trans k1_; have m2_ := t2_.1; have t3_ := fr_38 a m2_ (fun z => by cases z); have k3_ := t3_.2.1.trans k2_; have m3_ := t3_.1; exact ((t3_.2.2.1 j (by rw [k2_]; rfl)).trans ((t2_.2.2.1 j (by rw [k1_]; rfl)).trans ((congrFun (cu_a eI_20 na) j).trans (t1_.2.2.1 j (by rw [ka]; rfl))))))⟩) dX4_readMiss_59
    · refine cr_puti (κ := 2) (ci := 2) (k := 4) (C := RX2) (T := TX2) (N := 8) (fs := cfs 2) (ty := .boolean) (v := r_16) E hM m_9 k_9 (fun _ _ => rfl) rfl hin2 tyX2 tyX2_ok nmX2 (by decide) (index := 110) (mm_at 65 rfl) rfl (Or.inl rfl) (by decide +kernel) (cz_nar (X := r_16.toInt) rfl (by omega)).1 (cz_nar (X := r_16.toInt) rfl (by omega)).2 (show (4 : Nat) < 8 from by decide) (fun _ _ _ => rfl) (cz_nb rfl) (cS_upd (hM.sp m_9 k_9) (by decide) (by decide)) (Or.inr (Or.inr rfl)) dX4_readMiss_18 (fun H locs I_66 eI_66 hM => ?_)
      refine lv_aload_n hx hb dX4_readMiss_21 rfl (lv_at hl 1 rfl) ?_
      have e_67 : (I_66 p0 4).toInt = r_16.toInt := (congrArg Int32.toInt (cu_s eI_66)).trans rfl
      refine cr_get (κ := 2) (ci := 2) (k := 4) (C := RX2) (T := TX2) (N := 8) (fs := cfs 2) (v := .int (I_66 p0 4)) E hM m_9 k_9 (fun _ _ => rfl) rfl hin2 (by decide) (index := 110) (mm_at 65 rfl) rfl rfl dX4_readMiss_22 ?_
      refine mm_if_ne (X := (I_66 p0 4).toInt) (tgt := 43) hx hb dX4_readMiss_25 (by decide) rfl (fun c_68 => False.elim (by omega)) (fun c_68 => ?_)
      refine lv_aload_n hx hb dX4_readMiss_28 rfl (lv_at hl 0 rfl) ?_
      refine va_ldcS (own := RX4) (q := ad 6) hx hb hown (hV.2.2.1 6 (114, "add") rfl) dX4_readMiss_29 ?_
      have b_70 : 0 ≤ (I_66 x0 7).toInt ∧ (I_66 x0 7).toInt ≤ 1000 := hM.ib m_8 k_8 7 rfl
      have e_71 : (I_66 x0 7).toInt = (I_7 x0 7).toInt := congrArg Int32.toInt (cu_k eI_66 (by decide))
      have b_72 : 0 ≤ (I_66 x0 8).toInt ∧ (I_66 x0 8).toInt ≤ 1000 := hM.ib m_8 k_8 8 rfl
      have e_73 : (I_66 x0 8).toInt = (I_7 x0 8).toInt := congrArg Int32.toInt (cu_k eI_66 (by decide))
      have b_74 : 0 ≤ (I_66 x0 6).toInt ∧ (I_66 x0 6).toInt ≤ 4 := hM.ib m_8 k_8 6 rfl
      have e_75 : (I_66 x0 6).toInt = (I_7 x0 6).toInt := congrArg Int32.toInt (cu_k eI_66 (by decide))
      refine cc_Vip (vs := [.ref (ad 6)]) (rest := []) (b := x0) (κ := 4) E hV rfl hA hml hM m_8 k_8 rfl rfl (h5_X4_isWord l D cA ad av L_7 K_7 I_66 O_7 _ x0 6 hM.2.2.2.1 m_8 k_8 (by decide) kz nz (zty kz nz xz) (zTx_fr htx hI mx0 kx0 hM.2.2.2.2 rfl rfl rfl) (show (I_66 x0 7).toInt = (ztp kz (zty kz nz xz) : Int) ∧ (I_66 x0 8).toInt = (zty kz nz (zty kz nz xz) : Int) ∧ (I_66 x0 6).toInt = zso kz nz (ztp kz (zty kz nz xz)) from ⟨by omega, by omega, by omega⟩)) (cwV 1 hts gz_X4_readMiss_X4_isWord_69 rfl rfl rfl (by decide +kernel) ⟨Nat.le_of_ble_eq_true rfl, Nat.le_of_ble_eq_true rfl⟩) rfl hl.1 rfl (Nat.le_of_ble_eq_true rfl) dX4_readMiss_31 ⟨show (0 : Nat) ≤ 0 from by omega, show (0 : Nat) ≤ 0 from by omega⟩ (fun r_76 H locs p_77 hM => ?_)
      replace p_77 : (r_76.toInt = 1 ∧ zW kz nz (zty kz nz xz) (zwl 6)) ∨ (r_76.toInt = 0 ∧ ¬ zW kz nz (zty kz nz xz) (zwl 6)) := p_77
      rcases p_77 with ⟨hr_79, w_79⟩ | ⟨hr_79, w_79⟩
      · refine mm_if_ne (X := r_76.toInt) (tgt := 43) hx hb dX4_readMiss_34 (by decide) rfl (fun c_80 => ?_) (fun c_80 => False.elim (by omega))
        refine lv_aload_n hx hb dX4_readMiss_43 rfl (lv_at hl 0 rfl) ?_
        refine cc_Vv (vs := []) (rest := []) (b := x0) (κ := 4) E hV rfl hA hml hM m_8 k_8 rfl rfl (h5_X4_step l D cA ad av L_7 K_7 I_66 O_7 _ x0 hM.2.2.2.1 m_8 k_8 kz nz (zty kz nz (zty kz nz xz)) (zTx_fr htx hI mx0 kx0 hM.2.2.2.2 rfl rfl rfl) (show (I_66 x0 8).toInt = ((zty kz nz (zty kz nz xz)) : Int) from by omega)) (cwV 0 hts gz_X4_readMiss_X4_step_81 rfl rfl rfl (by decide +kernel) ⟨Nat.le_of_ble_eq_true rfl, Nat.le_of_ble_eq_true rfl⟩) rfl hl.1 rfl (Nat.le_of_ble_eq_true rfl) dX4_readMiss_44 ⟨show (0 + 0 : Nat) ≤ 0 from by omega, show (0 + 0 : Nat) ≤ 0 from by omega⟩ (fun _ h => by cases h) (by decide) (by decide) (fun L_84 K_84 I_84 O_84 H locs fr_84 p_83 hM => ?_)
        have m_85 := (fr_84 x0 m_8 (fun z => by cases z)).1
        have k_85 : K_84 x0 = 4 := (fr_84 x0 m_8 (fun z => by cases z)).2.1.trans k_8
        have m_86 := (fr_84 p0 m_9 (fun z => by cases z)).1
        have k_86 : K_84 p0 = 2 := (fr_84 p0 m_9 (fun z => by cases z)).2.1.trans k_9
        replace p_83 : ((I_84 x0 6).toInt = 0 ∨ (I_84 x0 7).toInt ≤ 999) ∧ (I_84 x0 7).toInt = (ztp kz (zty kz nz (zty kz nz xz)) : Int) ∧ (I_84 x0 8).toInt = (zty kz nz (zty kz nz (zty kz nz xz)) : Int) ∧ (I_84 x0 6).toInt = zso kz nz (ztp kz (zty kz nz (zty kz nz xz))) := p_83
        rcases p_83 with ⟨hrp_87, a1_87, a2_87, a3_87⟩
        refine lv_aload_n hx hb dX4_readMiss_47 rfl (lv_at hl 0 rfl) ?_
        refine lv_iconst (v := 0) hx hb dX4_readMiss_48 (by decide) ?_
        refine lv_sipush (v := 600) hx hb dX4_readMiss_49 (by decide) ?_
        have b_89 : 0 ≤ (I_84 x0 7).toInt ∧ (I_84 x0 7).toInt ≤ 1000 := hM.ib m_85 k_85 7 rfl
        have b_90 : 0 ≤ (I_84 x0 8).toInt ∧ (I_84 x0 8).toInt ≤ 1000 := hM.ib m_85 k_85 8 rfl
        have b_91 : 0 ≤ (I_84 x0 6).toInt ∧ (I_84 x0 6).toInt ≤ 4 := hM.ib m_85 k_85 6 rfl
        refine cc_Vi (vs := [.int 0, .int 600]) (rest := []) (b := x0) (κ := 4) E hV rfl hA hml hM m_85 k_85 rfl rfl (h5_X4_readNumber l D cA ad av L_84 K_84 I_84 O_84 _ x0 0 600 hM.2.2.2.1 m_85 k_85 kz nz (zty kz nz (zty kz nz xz)) (zTx_fr htx hI mx0 kx0 hM.2.2.2.2 rfl rfl rfl) (show (I_84 x0 7).toInt = (ztp kz (zty kz nz (zty kz nz xz)) : Int) ∧ (I_84 x0 8).toInt = (zty kz nz (zty kz nz (zty kz nz xz)) : Int) ∧ (I_84 x0 6).toInt = zso kz nz (ztp kz (zty kz nz (zty kz nz xz))) from ⟨by omega, by omega, by omega⟩) (show (I_84 x0 6).toInt = 0 ∨ (I_84 x0 7).toInt ≤ 999 from by have n_0 := num_0; have n_1 := num_600; omega) (show 0 ≤ (0 : Int32).toInt ∧ (0 : Int32).toInt ≤ 100000 from by have n_0 := num_0; have n_1 := num_600; omega) (show (600 : Int32).toInt ≤ 99999 from by have n_0 := num_0; have n_1 := num_600; omega)) (cwV 2 hts gz_X4_readMiss_X4_readNumber_88 rfl rfl rfl (by decide +kernel) ⟨Nat.le_of_ble_eq_true rfl, Nat.le_of_ble_eq_true rfl⟩) rfl hl.1 rfl (Nat.le_of_ble_eq_true rfl) dX4_readMiss_52 ⟨show (0 + 0 : Nat) ≤ 0 from by omega, show (0 + 0 : Nat) ≤ 0 from by omega⟩ (fun _ h => by cases h) (by decide) (by decide) (fun r_92 L_94 K_94 I_94 O_94 H locs fr_94 p_93 hM => ?_)
        have m_95 := (fr_94 x0 m_85 (fun z => by cases z)).1
        have k_95 : K_94 x0 = 4 := (fr_94 x0 m_85 (fun z => by cases z)).2.1.trans k_85
        have m_96 := (fr_94 p0 m_86 (fun z => by cases z)).1
        have k_96 : K_94 p0 = 2 := (fr_94 p0 m_86 (fun z => by cases z)).2.1.trans k_86
        replace p_93 : ((I_94 x0 6).toInt = 0 ∨ (I_94 x0 7).toInt ≤ 999) ∧ ((r_92.toInt = 1 ∧ zN kz nz (zty kz nz (zty kz nz xz)) (0 : Int32).toInt (600 : Int32).toInt (I_94 x0 9).toInt ∧ (I_94 x0 7).toInt = (ztp kz (zty kz nz (zty kz nz (zty kz nz xz))) : Int) ∧ (I_94 x0 8).toInt = (zty kz nz (zty kz nz (zty kz nz (zty kz nz xz))) : Int) ∧ (I_94 x0 6).toInt = zso kz nz (ztp kz (zty kz nz (zty kz nz (zty kz nz xz))))) ∨ (r_92.toInt = 0 ∧ ∀ v : Int, ¬ zN kz nz (zty kz nz (zty kz nz xz)) (0 : Int32).toInt (600 : Int32).toInt v)) := p_93
        have nn_97 := num_0
        have nn_98 := num_600
        rcases p_93 with ⟨hrp_99, ⟨hr_99, w_99, a1_99, a2_99, a3_99⟩ | ⟨hr_99, w_99⟩⟩
        · rw [num_0, num_600] at w_99
          have hn1_99 := w_99.2.1
          have hn2_99 := w_99.2.2.1
          refine mm_if_ne (X := r_92.toInt) (tgt := 60) hx hb dX4_readMiss_55 (by decide) rfl (fun c_100 => ?_) (fun c_100 => False.elim (by omega))
          refine lv_aload_n hx hb dX4_readMiss_60 rfl (lv_at hl 1 rfl) ?_
          refine lv_aload_n hx hb dX4_readMiss_61 rfl (lv_at hl 0 rfl) ?_
          refine cr_get (κ := 4) (ci := 4) (k := 9) (C := RX4) (T := TX4) (N := 10) (fs := cfs 4) (v := .int (I_94 x0 9)) E hM m_95 k_95 (fun _ _ => rfl) rfl hin4 (by decide) (index := 89) (mm_at 70 rfl) rfl rfl dX4_readMiss_62 ?_
          refine cr_puti (κ := 2) (ci := 2) (k := 5) (C := RX2) (T := TX2) (N := 8) (fs := cfs 2) (ty := .int) (v := (I_94 x0 9)) E hM m_96 k_96 (fun _ _ => rfl) rfl hin2 tyX2 tyX2_ok nmX2 (by decide) (index := 116) (mm_at 72 rfl) rfl (Or.inl rfl) (by decide +kernel) rfl rfl (show (5 : Nat) < 8 from by decide) (fun _ _ _ => rfl) (cz_nb rfl) (cS_upd (hM.sp m_96 k_96) (by decide) (by decide)) (Or.inr (Or.inr rfl)) dX4_readMiss_65 (fun H locs I_101 eI_101 hM => ?_)
          refine lv_iconst (v := 1) hx hb dX4_readMiss_68 (by decide) ?_
          have b_102 : 0 ≤ (I_101 x0 6).toInt ∧ (I_101 x0 6).toInt ≤ 4 := hM.ib m_95 k_95 6 rfl
          have e_103 : (I_101 x0 6).toInt = (I_94 x0 6).toInt := congrArg Int32.toInt (cu_k eI_101 (by decide))
          have b_104 : 0 ≤ (I_101 x0 7).toInt ∧ (I_101 x0 7).toInt ≤ 1000 := hM.ib m_95 k_95 7 rfl
          have e_105 : (I_101 x0 7).toInt = (I_94 x0 7).toInt := congrArg Int32.toInt (cu_k eI_101 (by decide))
          have e_106 : (I_84 p0 4).toInt = (I_66 p0 4).toInt := congrArg Int32.toInt ((fr_84 p0 m_9 (fun z => by cases z)).2.2.1 4 (by rw [k_9]; rfl))
          have e_107 : (I_94 p0 4).toInt = (I_84 p0 4).toInt := congrArg Int32.toInt ((fr_94 p0 m_86 (fun z => by cases z)).2.2.1 4 (by rw [k_86]; rfl))
          have e_108 : (I_101 p0 4).toInt = (I_94 p0 4).toInt := congrArg Int32.toInt (cu_k eI_101 (by decide))
          have e_109 : (I_101 p0 5).toInt = (I_94 x0 9).toInt := (congrArg Int32.toInt (cu_s eI_101)).trans rfl
          have b_110 : 0 ≤ (I_101 x0 8).toInt ∧ (I_101 x0 8).toInt ≤ 1000 := hM.ib m_95 k_95 8 rfl
          have e_111 : (I_101 x0 8).toInt = (I_94 x0 8).toInt := congrArg Int32.toInt (cu_k eI_101 (by decide))
          exact cr_rz (mc := 0) (ms := 0) (X := 1) E hr hlk hsz hM ⟨show (0 : Nat) ≤ 0 from by omega, show (0 : Nat) ≤ 0 from by omega⟩ num_1 (by omega) (show ((I_101 x0 6).toInt = 0 ∨ (I_101 x0 7).toInt ≤ 999) ∧ (((1 : Int32).toInt = 1 ∧ zmiss kz nz xz (I_101 p0 4).toInt (I_101 p0 5).toInt ∧ (I_101 x0 7).toInt = (ztp kz (zty kz nz (zty kz nz (zty kz nz xz))) : Int) ∧ (I_101 x0 8).toInt = (zty kz nz (zty kz nz (zty kz nz (zty kz nz xz))) : Int) ∧ (I_101 x0 6).toInt = zso kz nz (ztp kz (zty kz nz (zty kz nz (zty kz nz xz))))) ∨ ((1 : Int32).toInt = 0 ∧ ∀ b v : Int, ¬ zmiss kz nz xz b v)) ∧ (∀ a : Nat, a ∈ L → K a = 2 → ¬ a = p0 → ∀ j : Nat, I_101 a j = I a j) from by have n9 := num_1; exact ⟨by omega, Or.inl ⟨by omega, ⟨w_10, Or.inr ⟨w_79, by omega⟩, by rw [show (I_101 p0 5).toInt = (I_94 x0 9).toInt from by omega]; exact w_99⟩, by omega, by omega, by omega⟩, fun a ha ka na j => (by have t1_ := fr_7 a ha (fun z => by cases z); have k1_ := t1_.2.1.trans ka; have m1_ := t1_.1; have t2_ := fr_84 a m1_ (fun z => by cases z); have k2_ := t2_.2.1.trans k1_; have m2_ := t2_.1; have t3_ := fr_94 a m2_ (fun z => by cases z); have k3_ := t3_.2.1.trans k2_; have m3_ := t3_.1; exact ((congrFun (cu_a eI_101 na) j).trans ((t3_.2.2.1 j (by rw [k2_]; rfl)).trans ((t2_.2.2.1 j (by rw [k1_]; rfl)).trans ((congrFun (cu_a eI_66 na) j).trans (t1_.2.2.1 j (by rw [ka]; rfl)))))))⟩) dX4_readMiss_69
        · rw [num_0, num_600] at w_99
          refine mm_if_ne (X := r_92.toInt) (tgt := 60) hx hb dX4_readMiss_55 (by decide) rfl (fun c_112 => False.elim (by omega)) (fun c_112 => ?_)
          refine lv_iconst (v := 0) hx hb dX4_readMiss_58 (by decide) ?_
          have b_113 : 0 ≤ (I_94 x0 6).toInt ∧ (I_94 x0 6).toInt ≤ 4 := hM.ib m_95 k_95 6 rfl
          have b_114 : 0 ≤ (I_94 x0 7).toInt ∧ (I_94 x0 7).toInt ≤ 1000 := hM.ib m_95 k_95 7 rfl
          have e_115 : (I_84 p0 4).toInt = (I_66 p0 4).toInt := congrArg Int32.toInt ((fr_84 p0 m_9 (fun z => by cases z)).2.2.1 4 (by rw [k_9]; rfl))
          have e_116 : (I_94 p0 4).toInt = (I_84 p0 4).toInt := congrArg Int32.toInt ((fr_94 p0 m_86 (fun z => by cases z)).2.2.1 4 (by rw [k_86]; rfl))
          have e_117 : (I_7 p0 5).toInt = (I p0 5).toInt := congrArg Int32.toInt ((fr_7 p0 mp0 (fun z => by cases z)).2.2.1 5 (by rw [kp0]; rfl))
          have e_118 : (I_66 p0 5).toInt = (I_7 p0 5).toInt := congrArg Int32.toInt (cu_k eI_66 (by decide))
          have e_119 : (I_84 p0 5).toInt = (I_66 p0 5).toInt := congrArg Int32.toInt ((fr_84 p0 m_9 (fun z => by cases z)).2.2.1 5 (by rw [k_9]; rfl))
          have e_120 : (I_94 p0 5).toInt = (I_84 p0 5).toInt := congrArg Int32.toInt ((fr_94 p0 m_86 (fun z => by cases z)).2.2.1 5 (by rw [k_86]; rfl))
          have b_121 : 0 ≤ (I_94 x0 8).toInt ∧ (I_94 x0 8).toInt ≤ 1000 := hM.ib m_95 k_95 8 rfl
          exact cr_rz (mc := 0) (ms := 0) (X := 0) E hr hlk hsz hM ⟨show (0 : Nat) ≤ 0 from by omega, show (0 : Nat) ≤ 0 from by omega⟩ num_0 (by omega) (show ((I_94 x0 6).toInt = 0 ∨ (I_94 x0 7).toInt ≤ 999) ∧ (((0 : Int32).toInt = 1 ∧ zmiss kz nz xz (I_94 p0 4).toInt (I_94 p0 5).toInt ∧ (I_94 x0 7).toInt = (ztp kz (zty kz nz (zty kz nz (zty kz nz xz))) : Int) ∧ (I_94 x0 8).toInt = (zty kz nz (zty kz nz (zty kz nz (zty kz nz xz))) : Int) ∧ (I_94 x0 6).toInt = zso kz nz (ztp kz (zty kz nz (zty kz nz (zty kz nz xz))))) ∨ ((0 : Int32).toInt = 0 ∧ ∀ b v : Int, ¬ zmiss kz nz xz b v)) ∧ (∀ a : Nat, a ∈ L → K a = 2 → ¬ a = p0 → ∀ j : Nat, I_94 a j = I a j) from by have n9 := num_0; exact ⟨by omega, Or.inr ⟨by omega, fun b v h => w_99 v h.2.2⟩, fun a ha ka na j => (by have t1_ := fr_7 a ha (fun z => by cases z); have k1_ := t1_.2.1.trans ka; have m1_ := t1_.1; have t2_ := fr_84 a m1_ (fun z => by cases z); have k2_ := t2_.2.1.trans k1_; have m2_ := t2_.1; have t3_ := fr_94 a m2_ (fun z => by cases z); have k3_ := t3_.2.1.trans k2_; have m3_ := t3_.1; exact ((t3_.2.2.1 j (by rw [k2_]; rfl)).trans ((t2_.2.2.1 j (by rw [k1_]; rfl)).trans ((congrFun (cu_a eI_66 na) j).trans (t1_.2.2.1 j (by rw [ka]; rfl))))))⟩) dX4_readMiss_59
      · refine mm_if_ne (X := r_76.toInt) (tgt := 43) hx hb dX4_readMiss_34 (by decide) rfl (fun c_122 => False.elim (by omega)) (fun c_122 => ?_)
        refine lv_aload_n hx hb dX4_readMiss_37 rfl (lv_at hl 0 rfl) ?_
        refine lv_iconst (v := 1) hx hb dX4_readMiss_38 (by decide) ?_
        refine cc_Vi (vs := [.int 1]) (rest := []) (b := x0) (κ := 4) E hV rfl hA hml hM m_8 k_8 rfl rfl (h4_X4_fail l D cA ad av L_7 K_7 I_66 O_7 _ x0 1 hM.2.2.2.1 m_8 k_8) (cwV 1 hts gz_X4_readMiss_X4_fail_123 rfl rfl rfl (by decide +kernel) ⟨Nat.le_of_ble_eq_true rfl, Nat.le_of_ble_eq_true rfl⟩) rfl hl.1 rfl (Nat.le_of_ble_eq_true rfl) dX4_readMiss_39 ⟨show (0 + 0 : Nat) ≤ 0 from by omega, show (0 + 0 : Nat) ≤ 0 from by omega⟩ (fun _ h => by cases h) (by decide) (by decide) (fun r_124 L_126 K_126 I_126 O_126 H locs fr_126 p_125 hM => ?_)
        have m_127 := (fr_126 x0 m_8 (fun z => by cases z)).1
        have k_127 : K_126 x0 = 4 := (fr_126 x0 m_8 (fun z => by cases z)).2.1.trans k_8
        have m_128 := (fr_126 p0 m_9 (fun z => by cases z)).1
        have k_128 : K_126 p0 = 2 := (fr_126 p0 m_9 (fun z => by cases z)).2.1.trans k_9
        replace p_125 : r_124.toInt = 0 := p_125
        have b_129 : 0 ≤ (I_126 x0 6).toInt ∧ (I_126 x0 6).toInt ≤ 4 := hM.ib m_127 k_127 6 rfl
        have e_130 : (I_126 x0 6).toInt = (I_66 x0 6).toInt := congrArg Int32.toInt ((fr_126 x0 m_8 (fun z => by cases z)).2.2.1 6 (by rw [k_8]; rfl))
        have b_131 : 0 ≤ (I_126 x0 7).toInt ∧ (I_126 x0 7).toInt ≤ 1000 := hM.ib m_127 k_127 7 rfl
        have e_132 : (I_126 x0 7).toInt = (I_66 x0 7).toInt := congrArg Int32.toInt ((fr_126 x0 m_8 (fun z => by cases z)).2.2.1 7 (by rw [k_8]; rfl))
        have e_133 : (I_126 p0 4).toInt = (I_66 p0 4).toInt := congrArg Int32.toInt ((fr_126 p0 m_9 (fun z => by cases z)).2.2.1 4 (by rw [k_9]; rfl))
        have e_134 : (I_7 p0 5).toInt = (I p0 5).toInt := congrArg Int32.toInt ((fr_7 p0 mp0 (fun z => by cases z)).2.2.1 5 (by rw [kp0]; rfl))
        have e_135 : (I_66 p0 5).toInt = (I_7 p0 5).toInt := congrArg Int32.toInt (cu_k eI_66 (by decide))
        have e_136 : (I_126 p0 5).toInt = (I_66 p0 5).toInt := congrArg Int32.toInt ((fr_126 p0 m_9 (fun z => by cases z)).2.2.1 5 (by rw [k_9]; rfl))
        have b_137 : 0 ≤ (I_126 x0 8).toInt ∧ (I_126 x0 8).toInt ≤ 1000 := hM.ib m_127 k_127 8 rfl
        have e_138 : (I_126 x0 8).toInt = (I_66 x0 8).toInt := congrArg Int32.toInt ((fr_126 x0 m_8 (fun z => by cases z)).2.2.1 8 (by rw [k_8]; rfl))
        exact cr_rz (mc := 0) (ms := 0) (X := r_124.toInt) E hr hlk hsz hM ⟨show (0 : Nat) ≤ 0 from by omega, show (0 : Nat) ≤ 0 from by omega⟩ rfl (by omega) (show ((I_126 x0 6).toInt = 0 ∨ (I_126 x0 7).toInt ≤ 999) ∧ ((r_124.toInt = 1 ∧ zmiss kz nz xz (I_126 p0 4).toInt (I_126 p0 5).toInt ∧ (I_126 x0 7).toInt = (ztp kz (zty kz nz (zty kz nz (zty kz nz xz))) : Int) ∧ (I_126 x0 8).toInt = (zty kz nz (zty kz nz (zty kz nz (zty kz nz xz))) : Int) ∧ (I_126 x0 6).toInt = zso kz nz (ztp kz (zty kz nz (zty kz nz (zty kz nz xz))))) ∨ (r_124.toInt = 0 ∧ ∀ b v : Int, ¬ zmiss kz nz xz b v)) ∧ (∀ a : Nat, a ∈ L → K a = 2 → ¬ a = p0 → ∀ j : Nat, I_126 a j = I a j) from by exact ⟨by omega, Or.inr ⟨by omega, fun b v h => h.2.1.elim (fun q => w_19 q.1) (fun q => w_79 q.1)⟩, fun a ha ka na j => (by have t1_ := fr_7 a ha (fun z => by cases z); have k1_ := t1_.2.1.trans ka; have m1_ := t1_.1; have t2_ := fr_126 a m1_ (fun z => by cases z); have k2_ := t2_.2.1.trans k1_; have m2_ := t2_.1; exact ((t2_.2.2.1 j (by rw [k1_]; rfl)).trans ((congrFun (cu_a eI_66 na) j).trans (t1_.2.2.1 j (by rw [ka]; rfl)))))⟩) dX4_readMiss_42
  · refine mm_if_ne (X := r_5.toInt) (tgt := 11) hx hb dX4_readMiss_6 (by decide) rfl (fun c_139 => False.elim (by omega)) (fun c_139 => ?_)
    refine lv_iconst (v := 0) hx hb dX4_readMiss_9 (by decide) ?_
    have b_140 : 0 ≤ (I_7 x0 6).toInt ∧ (I_7 x0 6).toInt ≤ 4 := hM.ib m_8 k_8 6 rfl
    have b_141 : 0 ≤ (I_7 x0 7).toInt ∧ (I_7 x0 7).toInt ≤ 1000 := hM.ib m_8 k_8 7 rfl
    have e_142 : (I_7 p0 4).toInt = (I p0 4).toInt := congrArg Int32.toInt ((fr_7 p0 mp0 (fun z => by cases z)).2.2.1 4 (by rw [kp0]; rfl))
    have e_143 : (I_7 p0 5).toInt = (I p0 5).toInt := congrArg Int32.toInt ((fr_7 p0 mp0 (fun z => by cases z)).2.2.1 5 (by rw [kp0]; rfl))
    have b_144 : 0 ≤ (I_7 x0 8).toInt ∧ (I_7 x0 8).toInt ≤ 1000 := hM.ib m_8 k_8 8 rfl
    exact cr_rz (mc := 0) (ms := 0) (X := 0) E hr hlk hsz hM ⟨show (0 : Nat) ≤ 0 from by omega, show (0 : Nat) ≤ 0 from by omega⟩ num_0 (by omega) (show ((I_7 x0 6).toInt = 0 ∨ (I_7 x0 7).toInt ≤ 999) ∧ (((0 : Int32).toInt = 1 ∧ zmiss kz nz xz (I_7 p0 4).toInt (I_7 p0 5).toInt ∧ (I_7 x0 7).toInt = (ztp kz (zty kz nz (zty kz nz (zty kz nz xz))) : Int) ∧ (I_7 x0 8).toInt = (zty kz nz (zty kz nz (zty kz nz (zty kz nz xz))) : Int) ∧ (I_7 x0 6).toInt = zso kz nz (ztp kz (zty kz nz (zty kz nz (zty kz nz xz))))) ∨ ((0 : Int32).toInt = 0 ∧ ∀ b v : Int, ¬ zmiss kz nz xz b v)) ∧ (∀ a : Nat, a ∈ L → K a = 2 → ¬ a = p0 → ∀ j : Nat, I_7 a j = I a j) from by have n9 := num_0; exact ⟨by omega, Or.inr ⟨by omega, fun b v h => w_10 h.1⟩, fun a ha ka na j => (by have t1_ := fr_7 a ha (fun z => by cases z); have k1_ := t1_.2.1.trans ka; have m1_ := t1_.1; exact (t1_.2.2.1 j (by rw [ka]; rfl)))⟩) dX4_readMiss_10
def w5X4_readStart : List Cond := .code yX4_readStart cX4_readStart 3 (some .boolean) :: ([.methodLink RX4 50 yX4_readWord, .instanceMethod yX4_readWord, .selects RX4 yX4_readWord yX4_readWord, .initialized RX4, .code yX4_readWord cX4_readWord 2 (some .boolean), .methodLink RX4 107 yX4_isWord, .instanceMethod yX4_isWord, .selects RX4 yX4_isWord yX4_isWord, .code yX4_isWord cX4_isWord 3 (some .boolean), .methodLink RX4 140 yJ0_length_8abf5, .instanceMethod yJ0_length_8abf5, .selects RJ0 yJ0_length_8abf5 yJ0_length_8abf5, .initialized RJ0, .code yJ0_length_8abf5 cJ0_length_8abf5 1 (some .int), .fieldLink RJ0 9 "java/lang/String" "value" "[B", .methodLink RJ0 335 yJ0_coder_7d493, .instanceMethod yJ0_coder_7d493, .selects RJ0 yJ0_coder_7d493 yJ0_coder_7d493, .code yJ0_coder_7d493 cJ0_coder_7d493 1 (some .byte), .fieldLink RJ0 38 "java/lang/String" "COMPACT_STRINGS" "Z", .fieldLink RJ0 15 "java/lang/String" "coder" "B", .fieldLink RX4 9 "SkiShots$Reader" "text" "[B", .fieldLink RX4 54 "SkiShots$Reader" "place" "I", .methodLink RX4 145 yJ0_charAt_5068e, .instanceMethod yJ0_charAt_5068e, .selects RJ0 yJ0_charAt_5068e yJ0_charAt_5068e, .code yJ0_charAt_5068e cJ0_charAt_5068e 2 (some .char), .methodLink RJ0 492 yJ0_isLatin1_aae02, .instanceMethod yJ0_isLatin1_aae02, .selects RJ0 yJ0_isLatin1_aae02 yJ0_isLatin1_aae02, .code yJ0_isLatin1_aae02 cJ0_isLatin1_aae02 1 (some .boolean), .methodLink RJ0 495 yJ1_charAt_3b067, .static yJ1_charAt_3b067, .initialized RJ1, .code yJ1_charAt_3b067 cJ1_charAt_3b067 2 (some .char), .methodLink RJ1 9 yJ0_checkIndex_df160, .static yJ0_checkIndex_df160, .code yJ0_checkIndex_df160 cJ0_checkIndex_df160 2 none, .fieldLink RJ0 1053 "jdk/internal/util/Preconditions" "SIOOBE_FORMATTER" "Ljava/util/function/BiFunction;", .methodLink RJ0 1059 yJ3_checkIndex_8e157, .static yJ3_checkIndex_8e157, .initialized RJ3, .code yJ3_checkIndex_8e157 cJ3_checkIndex_8e157 3 (some .int), .fieldLink RX4 37 "SkiShots$Reader" "sort" "I", .fieldLink RX4 133 "SkiShots$Reader" "behind" "I", .methodLink RX4 34 yX4_step, .instanceMethod yX4_step, .selects RX4 yX4_step yX4_step, .code yX4_step cX4_step 1 none, .fieldLink RX4 21 "SkiShots$Reader" "length" "I", .methodLink RX4 149 yX4_sortAt, .instanceMethod yX4_sortAt, .selects RX4 yX4_sortAt yX4_sortAt, .code yX4_sortAt cX4_sortAt 3 (some .int), .methodLink RX4 15 Lib.Math.min.name, .static Lib.Math.min.name, .initialized "java/lang/Math", .code Lib.Math.min.name Lib.Math.min.code 2 (some .int), .methodLink RX4 44 yX4_fail, .instanceMethod yX4_fail, .selects RX4 yX4_fail yX4_fail, .code yX4_fail cX4_fail 2 (some .boolean), .fieldLink RX4 137 "SkiShots$Reader" "fault" "I", .fieldLink RX4 31 "SkiShots$Reader" "faultPlace" "I", .fieldLink RX4 123 "SkiShots$Format" "startSort" "I", .methodLink RX4 85 yX4_readNumber, .instanceMethod yX4_readNumber, .selects RX4 yX4_readNumber yX4_readNumber, .code yX4_readNumber cX4_readNumber 4 (some .boolean), .fieldLink RX4 89 "SkiShots$Reader" "number" "I", .constant RX4 136 (100000), .fieldLink RX4 130 "SkiShots$Format" "startSeconds" "I"] ++ wsX20 ++ wsX40)
set_option maxRecDepth 20000 in
theorem gz_X4_readStart_X4_readWord_1 : GoodIn w5X4_readStart (wsV RX4 50 RX4 yX4_readWord w5X4_readWord) := goodIn_p _ [5, 9, 14, 19, 27, 31, 35, 38, 43, 49, 54, 58, 62] rfl (by decide +kernel)
set_option maxRecDepth 20000 in
theorem gz_X4_readStart_X4_isWord_12 : GoodIn w5X4_readStart (wsV RX4 107 RX4 yX4_isWord w5X4_isWord) := goodIn_p _ [9, 14, 19, 27, 31, 35, 38, 43] rfl (by decide +kernel)
set_option maxRecDepth 20000 in
theorem gz_X4_readStart_X4_step_22 : GoodIn w5X4_readStart (wsV RX4 34 RX4 yX4_step w5X4_step) := goodIn_p _ [49, 54, 58] rfl (by decide +kernel)
set_option maxRecDepth 20000 in
theorem gz_X4_readStart_X4_isWord_40 : GoodIn w5X4_readStart (wsV RX4 107 RX4 yX4_isWord w5X4_isWord) := goodIn_p _ [9, 14, 19, 27, 31, 35, 38, 43] rfl (by decide +kernel)
set_option maxRecDepth 20000 in
theorem gz_X4_readStart_X4_step_48 : GoodIn w5X4_readStart (wsV RX4 34 RX4 yX4_step w5X4_step) := goodIn_p _ [49, 54, 58] rfl (by decide +kernel)
set_option maxRecDepth 20000 in
theorem gz_X4_readStart_X4_readNumber_59 : GoodIn w5X4_readStart (wsV RX4 85 RX4 yX4_readNumber w5X4_readNumber) := goodIn_p _ [69, 62, 49, 54, 58] rfl (by decide +kernel)
set_option maxRecDepth 20000 in
theorem gz_X4_readStart_X4_isWord_96 : GoodIn w5X4_readStart (wsV RX4 107 RX4 yX4_isWord w5X4_isWord) := goodIn_p _ [9, 14, 19, 27, 31, 35, 38, 43] rfl (by decide +kernel)
set_option maxRecDepth 20000 in
theorem gz_X4_readStart_X4_step_104 : GoodIn w5X4_readStart (wsV RX4 34 RX4 yX4_step w5X4_step) := goodIn_p _ [49, 54, 58] rfl (by decide +kernel)
set_option maxRecDepth 20000 in
theorem gz_X4_readStart_X4_readNumber_115 : GoodIn w5X4_readStart (wsV RX4 85 RX4 yX4_readNumber w5X4_readNumber) := goodIn_p _ [69, 62, 49, 54, 58] rfl (by decide +kernel)
set_option maxRecDepth 20000 in
theorem gz_X4_readStart_X4_fail_152 : GoodIn w5X4_readStart (wsV RX4 44 RX4 yX4_fail w4X4_fail) := goodIn_p _ [62] rfl (by decide +kernel)
set_option maxHeartbeats 4000000 in
set_option maxRecDepth 100000 in
theorem h5_X4_readStart (l : Launch) (D : va_G) (cA : Nat → ClassId) (ad av : Nat → Nat) (L : List Nat) (K : Nat → Nat) (I : Nat → Nat → Int32) (O : Nat → Nat → Option Nat) (sz : Nat) (x0 : Nat) (p0 : Nat) (hI : cI L K I O) (mx0 : x0 ∈ L) (kx0 : K x0 = 4) (mp0 : p0 ∈ L) (kp0 : K p0 = 2) (kz : Nat → Nat) (nz : Nat) (xz : Nat) (htx : zTx kz nz I O x0) (hat : (I x0 7).toInt = (ztp kz xz : Int) ∧ (I x0 8).toInt = (zty kz nz xz : Int) ∧ (I x0 6).toInt = zso kz nz (ztp kz xz)) (hrp : (I x0 6).toInt = 0 ∨ (I x0 7).toInt ≤ 999) (h7 : (I p0 7).toInt = 0) : Met l yX4_readStart w5X4_readStart ({ frames := 6, cells := 0, slots := 0, locals := 128 }) (cPre D cA ad av L K I O sz [.ref x0, .ref p0]) (cQi D cA L K I O sz [] [(2, 6), (2, 7), (4, 4), (4, 5), (4, 6), (4, 7), (4, 8), (4, 9)] [] (fun r L' K' I' O' => ((I' x0 6).toInt = 0 ∨ (I' x0 7).toInt ≤ 999) ∧ ((r.toInt = 1 ∧ ∃ z : Nat, zstart kz nz xz (I' p0 6).toInt (I' p0 7).toInt z ∧ (I' x0 7).toInt = (ztp kz z : Int) ∧ (I' x0 8).toInt = (zty kz nz z : Int) ∧ (I' x0 6).toInt = zso kz nz (ztp kz z)) ∨ (r.toInt = 0 ∧ ∀ (h v : Int) (z : Nat), ¬ zstart kz nz xz h v z)) ∧ (∀ a : Nat, a ∈ L → K a = 2 → ¬ a = p0 → ∀ j : Nat, I' a j = I a j))) 0 0 (va_A (cW cA L K I O) sz) := by
  refine cr_met (own := RX4) (xs := []) (WI := [(2, 6), (2, 7), (4, 4), (4, 5), (4, 6), (4, 7), (4, 8), (4, 9)]) (WO := []) (cc := cX4_readStart) (maxL := 3) (ret := (some .boolean)) (by decide) rfl rfl (Nat.le_of_ble_eq_true rfl) hI ?_
  intro p e s m args below meth c ls E hV hml hr hlk hname hsz hA hM hl
  have hx := E.1
  have hb := E.2.1
  have hts := E.2.2.1
  have hown := E.2.2.2.1
  have hl : lv_has ls 3 [(0, .ref x0), (1, .ref p0)] := hl
  have hin2 : ∀ w ∈ wsX20, w ∈ w5X4_readStart := by decide +kernel
  have hin4 : ∀ w ∈ wsX40, w ∈ w5X4_readStart := by decide +kernel
  refine lv_aload_n hx hb dX4_readStart_0 rfl (lv_at hl 0 rfl) ?_
  refine va_ldcS (own := RX4) (q := ad 7) hx hb hown (hV.2.2.1 7 (119, "start") rfl) dX4_readStart_1 ?_
  have b_2 : 0 ≤ (I x0 7).toInt ∧ (I x0 7).toInt ≤ 1000 := hM.ib mx0 kx0 7 rfl
  have b_3 : 0 ≤ (I x0 8).toInt ∧ (I x0 8).toInt ≤ 1000 := hM.ib mx0 kx0 8 rfl
  have b_4 : 0 ≤ (I x0 6).toInt ∧ (I x0 6).toInt ≤ 4 := hM.ib mx0 kx0 6 rfl
  refine cc_Vi (vs := [.ref (ad 7)]) (rest := []) (b := x0) (κ := 4) E hV rfl hA hml hM mx0 kx0 rfl rfl (h5_X4_readWord l D cA ad av L K I O _ x0 7 hM.2.2.2.1 mx0 kx0 (by decide) kz nz xz (zTx_fr htx hI mx0 kx0 hM.2.2.2.2 rfl rfl rfl) (show (I x0 7).toInt = (ztp kz xz : Int) ∧ (I x0 8).toInt = (zty kz nz xz : Int) ∧ (I x0 6).toInt = zso kz nz (ztp kz xz) from ⟨by omega, by omega, by omega⟩) (show (I x0 6).toInt = 0 ∨ (I x0 7).toInt ≤ 999 from by omega)) (cwV 1 hts gz_X4_readStart_X4_readWord_1 rfl rfl rfl (by decide +kernel) ⟨Nat.le_of_ble_eq_true rfl, Nat.le_of_ble_eq_true rfl⟩) rfl hl.1 rfl (Nat.le_of_ble_eq_true rfl) dX4_readStart_3 ⟨show (0 + 0 : Nat) ≤ 0 from by omega, show (0 + 0 : Nat) ≤ 0 from by omega⟩ (fun _ h => by cases h) (by decide) (by decide) (fun r_5 L_7 K_7 I_7 O_7 H locs fr_7 p_6 hM => ?_)
  have m_8 := (fr_7 x0 mx0 (fun z => by cases z)).1
  have k_8 : K_7 x0 = 4 := (fr_7 x0 mx0 (fun z => by cases z)).2.1.trans kx0
  have m_9 := (fr_7 p0 mp0 (fun z => by cases z)).1
  have k_9 : K_7 p0 = 2 := (fr_7 p0 mp0 (fun z => by cases z)).2.1.trans kp0
  replace p_6 : ((I_7 x0 6).toInt = 0 ∨ (I_7 x0 7).toInt ≤ 999) ∧ ((r_5.toInt = 1 ∧ zW kz nz xz (zwl 7) ∧ (I_7 x0 7).toInt = (ztp kz (zty kz nz xz) : Int) ∧ (I_7 x0 8).toInt = (zty kz nz (zty kz nz xz) : Int) ∧ (I_7 x0 6).toInt = zso kz nz (ztp kz (zty kz nz xz))) ∨ (r_5.toInt = 0 ∧ ¬ zW kz nz xz (zwl 7))) := p_6
  rcases p_6 with ⟨hrp_10, ⟨hr_10, w_10, a1_10, a2_10, a3_10⟩ | ⟨hr_10, w_10⟩⟩
  · refine mm_if_ne (X := r_5.toInt) (tgt := 11) hx hb dX4_readStart_6 (by decide) rfl (fun c_11 => ?_) (fun c_11 => False.elim (by omega))
    refine lv_aload_n hx hb dX4_readStart_11 rfl (lv_at hl 0 rfl) ?_
    refine va_ldcS (own := RX4) (q := ad 8) hx hb hown (hV.2.2.1 8 (121, "mass") rfl) dX4_readStart_12 ?_
    have b_13 : 0 ≤ (I_7 x0 7).toInt ∧ (I_7 x0 7).toInt ≤ 1000 := hM.ib m_8 k_8 7 rfl
    have b_14 : 0 ≤ (I_7 x0 8).toInt ∧ (I_7 x0 8).toInt ≤ 1000 := hM.ib m_8 k_8 8 rfl
    have b_15 : 0 ≤ (I_7 x0 6).toInt ∧ (I_7 x0 6).toInt ≤ 4 := hM.ib m_8 k_8 6 rfl
    refine cc_Vip (vs := [.ref (ad 8)]) (rest := []) (b := x0) (κ := 4) E hV rfl hA hml hM m_8 k_8 rfl rfl (h5_X4_isWord l D cA ad av L_7 K_7 I_7 O_7 _ x0 8 hM.2.2.2.1 m_8 k_8 (by decide) kz nz (zty kz nz xz) (zTx_fr htx hI mx0 kx0 hM.2.2.2.2 rfl rfl rfl) (show (I_7 x0 7).toInt = (ztp kz (zty kz nz xz) : Int) ∧ (I_7 x0 8).toInt = (zty kz nz (zty kz nz xz) : Int) ∧ (I_7 x0 6).toInt = zso kz nz (ztp kz (zty kz nz xz)) from ⟨by omega, by omega, by omega⟩)) (cwV 1 hts gz_X4_readStart_X4_isWord_12 rfl rfl rfl (by decide +kernel) ⟨Nat.le_of_ble_eq_true rfl, Nat.le_of_ble_eq_true rfl⟩) rfl hl.1 rfl (Nat.le_of_ble_eq_true rfl) dX4_readStart_14 ⟨show (0 : Nat) ≤ 0 from by omega, show (0 : Nat) ≤ 0 from by omega⟩ (fun r_16 H locs p_17 hM => ?_)
    replace p_17 : (r_16.toInt = 1 ∧ zW kz nz (zty kz nz xz) (zwl 8)) ∨ (r_16.toInt = 0 ∧ ¬ zW kz nz (zty kz nz xz) (zwl 8)) := p_17
    rcases p_17 with ⟨hr_19, w_19⟩ | ⟨hr_19, w_19⟩
    · refine mm_if_eq (X := r_16.toInt) (tgt := 31) hx hb dX4_readStart_17 (by decide) rfl (fun c_20 => False.elim (by omega)) (fun c_20 => ?_)
      refine lv_aload_n hx hb dX4_readStart_20 rfl (lv_at hl 1 rfl) ?_
      refine lv_iconst (v := 0) hx hb dX4_readStart_21 (by decide) ?_
      refine cr_puti (κ := 2) (ci := 2) (k := 6) (C := RX2) (T := TX2) (N := 8) (fs := cfs 2) (ty := .int) (v := 0) E hM m_9 k_9 (fun _ _ => rfl) rfl hin2 tyX2 tyX2_ok nmX2 (by decide) (index := 123) (mm_at 65 rfl) rfl (Or.inl rfl) (by decide +kernel) rfl rfl (show (6 : Nat) < 8 from by decide) (fun _ _ _ => rfl) (cz_nb rfl) (cS_upd (hM.sp m_9 k_9) (by decide) (by decide)) (Or.inr (Or.inr rfl)) dX4_readStart_22 (fun H locs I_21 eI_21 hM => ?_)
      refine lv_aload_n hx hb dX4_readStart_25 rfl (lv_at hl 0 rfl) ?_
      have b_23 : 0 ≤ (I_21 x0 8).toInt ∧ (I_21 x0 8).toInt ≤ 1000 := hM.ib m_8 k_8 8 rfl
      have e_24 : (I_21 x0 8).toInt = (I_7 x0 8).toInt := congrArg Int32.toInt (cu_k eI_21 (by decide))
      refine cc_Vv (vs := []) (rest := []) (b := x0) (κ := 4) E hV rfl hA hml hM m_8 k_8 rfl rfl (h5_X4_step l D cA ad av L_7 K_7 I_21 O_7 _ x0 hM.2.2.2.1 m_8 k_8 kz nz (zty kz nz (zty kz nz xz)) (zTx_fr htx hI mx0 kx0 hM.2.2.2.2 rfl rfl rfl) (show (I_21 x0 8).toInt = ((zty kz nz (zty kz nz xz)) : Int) from by omega)) (cwV 0 hts gz_X4_readStart_X4_step_22 rfl rfl rfl (by decide +kernel) ⟨Nat.le_of_ble_eq_true rfl, Nat.le_of_ble_eq_true rfl⟩) rfl hl.1 rfl (Nat.le_of_ble_eq_true rfl) dX4_readStart_26 ⟨show (0 + 0 : Nat) ≤ 0 from by omega, show (0 + 0 : Nat) ≤ 0 from by omega⟩ (fun _ h => by cases h) (by decide) (by decide) (fun L_27 K_27 I_27 O_27 H locs fr_27 p_26 hM => ?_)
      have m_28 := (fr_27 x0 m_8 (fun z => by cases z)).1
      have k_28 : K_27 x0 = 4 := (fr_27 x0 m_8 (fun z => by cases z)).2.1.trans k_8
      have m_29 := (fr_27 p0 m_9 (fun z => by cases z)).1
      have k_29 : K_27 p0 = 2 := (fr_27 p0 m_9 (fun z => by cases z)).2.1.trans k_9
      replace p_26 : ((I_27 x0 6).toInt = 0 ∨ (I_27 x0 7).toInt ≤ 999) ∧ (I_27 x0 7).toInt = (ztp kz (zty kz nz (zty kz nz xz)) : Int) ∧ (I_27 x0 8).toInt = (zty kz nz (zty kz nz (zty kz nz xz)) : Int) ∧ (I_27 x0 6).toInt = zso kz nz (ztp kz (zty kz nz (zty kz nz xz))) := p_26
      rcases p_26 with ⟨hrp_30, a1_30, a2_30, a3_30⟩
      refine lv_iconst (v := 1) hx hb dX4_readStart_29 (by decide) ?_
      have b_31 : 0 ≤ (I_27 x0 6).toInt ∧ (I_27 x0 6).toInt ≤ 4 := hM.ib m_28 k_28 6 rfl
      have b_32 : 0 ≤ (I_27 x0 7).toInt ∧ (I_27 x0 7).toInt ≤ 1000 := hM.ib m_28 k_28 7 rfl
      have e_33 : (I_21 p0 6).toInt = 0 := (congrArg Int32.toInt (cu_s eI_21)).trans num_0
      have e_34 : (I_27 p0 6).toInt = (I_21 p0 6).toInt := congrArg Int32.toInt ((fr_27 p0 m_9 (fun z => by cases z)).2.2.1 6 (by rw [k_9]; rfl))
      have e_35 : (I_7 p0 7).toInt = (I p0 7).toInt := congrArg Int32.toInt ((fr_7 p0 mp0 (fun z => by cases z)).2.2.1 7 (by rw [kp0]; rfl))
      have e_36 : (I_21 p0 7).toInt = (I_7 p0 7).toInt := congrArg Int32.toInt (cu_k eI_21 (by decide))
      have e_37 : (I_27 p0 7).toInt = (I_21 p0 7).toInt := congrArg Int32.toInt ((fr_27 p0 m_9 (fun z => by cases z)).2.2.1 7 (by rw [k_9]; rfl))
      have b_38 : 0 ≤ (I_27 x0 8).toInt ∧ (I_27 x0 8).toInt ≤ 1000 := hM.ib m_28 k_28 8 rfl
      exact cr_rz (mc := 0) (ms := 0) (X := 1) E hr hlk hsz hM ⟨show (0 : Nat) ≤ 0 from by omega, show (0 : Nat) ≤ 0 from by omega⟩ num_1 (by omega) (show ((I_27 x0 6).toInt = 0 ∨ (I_27 x0 7).toInt ≤ 999) ∧ (((1 : Int32).toInt = 1 ∧ ∃ z : Nat, zstart kz nz xz (I_27 p0 6).toInt (I_27 p0 7).toInt z ∧ (I_27 x0 7).toInt = (ztp kz z : Int) ∧ (I_27 x0 8).toInt = (zty kz nz z : Int) ∧ (I_27 x0 6).toInt = zso kz nz (ztp kz z)) ∨ ((1 : Int32).toInt = 0 ∧ ∀ (h v : Int) (z : Nat), ¬ zstart kz nz xz h v z)) ∧ (∀ a : Nat, a ∈ L → K a = 2 → ¬ a = p0 → ∀ j : Nat, I_27 a j = I a j) from by have n9 := num_1; exact ⟨by omega, Or.inl ⟨by omega, (zty kz nz (zty kz nz xz)), ⟨w_10, Or.inl ⟨w_19, by omega, by omega, rfl⟩⟩, by omega, by omega, by omega⟩, fun a ha ka na j => (by have t1_ := fr_7 a ha (fun z => by cases z); have k1_ := t1_.2.1.trans ka; have m1_ := t1_.1; have t2_ := fr_27 a m1_ (fun z => by cases z); have k2_ := t2_.2.1.trans k1_; have m2_ := t2_.1; exact ((t2_.2.2.1 j (by rw [k1_]; rfl)).trans ((congrFun (cu_a eI_21 na) j).trans (t1_.2.2.1 j (by rw [ka]; rfl)))))⟩) dX4_readStart_30
    · refine mm_if_eq (X := r_16.toInt) (tgt := 31) hx hb dX4_readStart_17 (by decide) rfl (fun c_39 => ?_) (fun c_39 => False.elim (by omega))
      refine lv_aload_n hx hb dX4_readStart_31 rfl (lv_at hl 0 rfl) ?_
      refine va_ldcS (own := RX4) (q := ad 9) hx hb hown (hV.2.2.1 9 (126, "chase") rfl) dX4_readStart_32 ?_
      refine cc_Vip (vs := [.ref (ad 9)]) (rest := []) (b := x0) (κ := 4) E hV rfl hA hml hM m_8 k_8 rfl rfl (h5_X4_isWord l D cA ad av L_7 K_7 I_7 O_7 _ x0 9 hM.2.2.2.1 m_8 k_8 (by decide) kz nz (zty kz nz xz) (zTx_fr htx hI mx0 kx0 hM.2.2.2.2 rfl rfl rfl) (show (I_7 x0 7).toInt = (ztp kz (zty kz nz xz) : Int) ∧ (I_7 x0 8).toInt = (zty kz nz (zty kz nz xz) : Int) ∧ (I_7 x0 6).toInt = zso kz nz (ztp kz (zty kz nz xz)) from ⟨by omega, by omega, by omega⟩)) (cwV 1 hts gz_X4_readStart_X4_isWord_40 rfl rfl rfl (by decide +kernel) ⟨Nat.le_of_ble_eq_true rfl, Nat.le_of_ble_eq_true rfl⟩) rfl hl.1 rfl (Nat.le_of_ble_eq_true rfl) dX4_readStart_34 ⟨show (0 : Nat) ≤ 0 from by omega, show (0 : Nat) ≤ 0 from by omega⟩ (fun r_41 H locs p_42 hM => ?_)
      replace p_42 : (r_41.toInt = 1 ∧ zW kz nz (zty kz nz xz) (zwl 9)) ∨ (r_41.toInt = 0 ∧ ¬ zW kz nz (zty kz nz xz) (zwl 9)) := p_42
      rcases p_42 with ⟨hr_44, w_44⟩ | ⟨hr_44, w_44⟩
      · refine lv_istore_n (lv' := [(2, .int r_41), (0, .ref x0), (1, .ref p0)]) hx hb dX4_readStart_37 rfl hl (by decide) rfl (fun ls hl => ?_)
        refine lv_iload_n hx hb dX4_readStart_38 rfl (lv_at hl 0 rfl) ?_
        refine mm_if_ne (X := r_41.toInt) (tgt := 57) hx hb dX4_readStart_39 (by decide) rfl (fun c_45 => ?_) (fun c_45 => False.elim (by omega))
        refine lv_aload_n hx hb dX4_readStart_57 rfl (lv_at hl 2 rfl) ?_
        refine lv_iload_n hx hb dX4_readStart_58 rfl (lv_at hl 0 rfl) ?_
        refine mm_if_eq (X := r_41.toInt) (tgt := 66) hx hb dX4_readStart_59 (by decide) rfl (fun c_46 => False.elim (by omega)) (fun c_46 => ?_)
        refine lv_iconst (v := 2) hx hb dX4_readStart_62 (by decide) ?_
        refine lv_goto (tgt := 67) hx hb dX4_readStart_63 (by decide) ?_
        refine cr_puti (κ := 2) (ci := 2) (k := 6) (C := RX2) (T := TX2) (N := 8) (fs := cfs 2) (ty := .int) (v := 2) E hM m_9 k_9 (fun _ _ => rfl) rfl hin2 tyX2 tyX2_ok nmX2 (by decide) (index := 123) (mm_at 65 rfl) rfl (Or.inl rfl) (by decide +kernel) rfl rfl (show (6 : Nat) < 8 from by decide) (fun _ _ _ => rfl) (cz_nb rfl) (cS_upd (hM.sp m_9 k_9) (by decide) (by decide)) (Or.inr (Or.inr rfl)) dX4_readStart_67 (fun H locs I_47 eI_47 hM => ?_)
        refine lv_aload_n hx hb dX4_readStart_70 rfl (lv_at hl 1 rfl) ?_
        have b_49 : 0 ≤ (I_47 x0 8).toInt ∧ (I_47 x0 8).toInt ≤ 1000 := hM.ib m_8 k_8 8 rfl
        have e_50 : (I_47 x0 8).toInt = (I_7 x0 8).toInt := congrArg Int32.toInt (cu_k eI_47 (by decide))
        refine cc_Vv (vs := []) (rest := []) (b := x0) (κ := 4) E hV rfl hA hml hM m_8 k_8 rfl rfl (h5_X4_step l D cA ad av L_7 K_7 I_47 O_7 _ x0 hM.2.2.2.1 m_8 k_8 kz nz (zty kz nz (zty kz nz xz)) (zTx_fr htx hI mx0 kx0 hM.2.2.2.2 rfl rfl rfl) (show (I_47 x0 8).toInt = ((zty kz nz (zty kz nz xz)) : Int) from by omega)) (cwV 0 hts gz_X4_readStart_X4_step_48 rfl rfl rfl (by decide +kernel) ⟨Nat.le_of_ble_eq_true rfl, Nat.le_of_ble_eq_true rfl⟩) rfl hl.1 rfl (Nat.le_of_ble_eq_true rfl) dX4_readStart_71 ⟨show (0 + 0 : Nat) ≤ 0 from by omega, show (0 + 0 : Nat) ≤ 0 from by omega⟩ (fun _ h => by cases h) (by decide) (by decide) (fun L_53 K_53 I_53 O_53 H locs fr_53 p_52 hM => ?_)
        have m_54 := (fr_53 x0 m_8 (fun z => by cases z)).1
        have k_54 : K_53 x0 = 4 := (fr_53 x0 m_8 (fun z => by cases z)).2.1.trans k_8
        have m_55 := (fr_53 p0 m_9 (fun z => by cases z)).1
        have k_55 : K_53 p0 = 2 := (fr_53 p0 m_9 (fun z => by cases z)).2.1.trans k_9
        replace p_52 : ((I_53 x0 6).toInt = 0 ∨ (I_53 x0 7).toInt ≤ 999) ∧ (I_53 x0 7).toInt = (ztp kz (zty kz nz (zty kz nz xz)) : Int) ∧ (I_53 x0 8).toInt = (zty kz nz (zty kz nz (zty kz nz xz)) : Int) ∧ (I_53 x0 6).toInt = zso kz nz (ztp kz (zty kz nz (zty kz nz xz))) := p_52
        rcases p_52 with ⟨hrp_56, a1_56, a2_56, a3_56⟩
        refine lv_aload_n hx hb dX4_readStart_74 rfl (lv_at hl 1 rfl) ?_
        refine lv_iload_n hx hb dX4_readStart_75 rfl (lv_at hl 0 rfl) ?_
        refine mm_if_eq (X := r_41.toInt) (tgt := 83) hx hb dX4_readStart_76 (by decide) rfl (fun c_57 => False.elim (by omega)) (fun c_57 => ?_)
        refine lv_iconst (v := 0) hx hb dX4_readStart_79 (by decide) ?_
        refine lv_goto (tgt := 84) hx hb dX4_readStart_80 (by decide) ?_
        refine lv_iload_n hx hb dX4_readStart_84 rfl (lv_at hl 0 rfl) ?_
        refine mm_if_eq (X := r_41.toInt) (tgt := 94) hx hb dX4_readStart_85 (by decide) rfl (fun c_58 => False.elim (by omega)) (fun c_58 => ?_)
        refine lv_sipush (v := 3600) hx hb dX4_readStart_88 (by decide) ?_
        refine lv_goto (tgt := 97) hx hb dX4_readStart_91 (by decide) ?_
        have b_60 : 0 ≤ (I_53 x0 7).toInt ∧ (I_53 x0 7).toInt ≤ 1000 := hM.ib m_54 k_54 7 rfl
        have b_61 : 0 ≤ (I_53 x0 8).toInt ∧ (I_53 x0 8).toInt ≤ 1000 := hM.ib m_54 k_54 8 rfl
        have b_62 : 0 ≤ (I_53 x0 6).toInt ∧ (I_53 x0 6).toInt ≤ 4 := hM.ib m_54 k_54 6 rfl
        refine cc_Vi (vs := [.int 0, .int 3600]) (rest := []) (b := x0) (κ := 4) E hV rfl hA hml hM m_54 k_54 rfl rfl (h5_X4_readNumber l D cA ad av L_53 K_53 I_53 O_53 _ x0 0 3600 hM.2.2.2.1 m_54 k_54 kz nz (zty kz nz (zty kz nz xz)) (zTx_fr htx hI mx0 kx0 hM.2.2.2.2 rfl rfl rfl) (show (I_53 x0 7).toInt = (ztp kz (zty kz nz (zty kz nz xz)) : Int) ∧ (I_53 x0 8).toInt = (zty kz nz (zty kz nz (zty kz nz xz)) : Int) ∧ (I_53 x0 6).toInt = zso kz nz (ztp kz (zty kz nz (zty kz nz xz))) from ⟨by omega, by omega, by omega⟩) (show (I_53 x0 6).toInt = 0 ∨ (I_53 x0 7).toInt ≤ 999 from by have n_0 := num_0; have n_1 := num_3600; omega) (show 0 ≤ (0 : Int32).toInt ∧ (0 : Int32).toInt ≤ 100000 from by have n_0 := num_0; have n_1 := num_3600; omega) (show (3600 : Int32).toInt ≤ 99999 from by have n_0 := num_0; have n_1 := num_3600; omega)) (cwV 2 hts gz_X4_readStart_X4_readNumber_59 rfl rfl rfl (by decide +kernel) ⟨Nat.le_of_ble_eq_true rfl, Nat.le_of_ble_eq_true rfl⟩) rfl hl.1 rfl (Nat.le_of_ble_eq_true rfl) dX4_readStart_97 ⟨show (0 + 0 : Nat) ≤ 0 from by omega, show (0 + 0 : Nat) ≤ 0 from by omega⟩ (fun _ h => by cases h) (by decide) (by decide) (fun r_63 L_65 K_65 I_65 O_65 H locs fr_65 p_64 hM => ?_)
        have m_66 := (fr_65 x0 m_54 (fun z => by cases z)).1
        have k_66 : K_65 x0 = 4 := (fr_65 x0 m_54 (fun z => by cases z)).2.1.trans k_54
        have m_67 := (fr_65 p0 m_55 (fun z => by cases z)).1
        have k_67 : K_65 p0 = 2 := (fr_65 p0 m_55 (fun z => by cases z)).2.1.trans k_55
        replace p_64 : ((I_65 x0 6).toInt = 0 ∨ (I_65 x0 7).toInt ≤ 999) ∧ ((r_63.toInt = 1 ∧ zN kz nz (zty kz nz (zty kz nz xz)) (0 : Int32).toInt (3600 : Int32).toInt (I_65 x0 9).toInt ∧ (I_65 x0 7).toInt = (ztp kz (zty kz nz (zty kz nz (zty kz nz xz))) : Int) ∧ (I_65 x0 8).toInt = (zty kz nz (zty kz nz (zty kz nz (zty kz nz xz))) : Int) ∧ (I_65 x0 6).toInt = zso kz nz (ztp kz (zty kz nz (zty kz nz (zty kz nz xz))))) ∨ (r_63.toInt = 0 ∧ ∀ v : Int, ¬ zN kz nz (zty kz nz (zty kz nz xz)) (0 : Int32).toInt (3600 : Int32).toInt v)) := p_64
        have nn_68 := num_0
        have nn_69 := num_3600
        rcases p_64 with ⟨hrp_70, ⟨hr_70, w_70, a1_70, a2_70, a3_70⟩ | ⟨hr_70, w_70⟩⟩
        · rw [num_0, num_3600] at w_70
          have hn1_70 := w_70.2.1
          have hn2_70 := w_70.2.2.1
          refine mm_if_ne (X := r_63.toInt) (tgt := 105) hx hb dX4_readStart_100 (by decide) rfl (fun c_71 => ?_) (fun c_71 => False.elim (by omega))
          refine lv_aload_n hx hb dX4_readStart_105 rfl (lv_at hl 2 rfl) ?_
          refine lv_aload_n hx hb dX4_readStart_106 rfl (lv_at hl 1 rfl) ?_
          refine cr_get (κ := 4) (ci := 4) (k := 9) (C := RX4) (T := TX4) (N := 10) (fs := cfs 4) (v := .int (I_65 x0 9)) E hM m_66 k_66 (fun _ _ => rfl) rfl hin4 (by decide) (index := 89) (mm_at 70 rfl) rfl rfl dX4_readStart_107 ?_
          refine cr_puti (κ := 2) (ci := 2) (k := 7) (C := RX2) (T := TX2) (N := 8) (fs := cfs 2) (ty := .int) (v := (I_65 x0 9)) E hM m_67 k_67 (fun _ _ => rfl) rfl hin2 tyX2 tyX2_ok nmX2 (by decide) (index := 130) (mm_at 72 rfl) rfl (Or.inl rfl) (by decide +kernel) rfl rfl (show (7 : Nat) < 8 from by decide) (fun _ _ _ => rfl) (cz_nb rfl) (cS_upd (hM.sp m_67 k_67) (by decide) (by decide)) (Or.inr (Or.inr rfl)) dX4_readStart_110 (fun H locs I_72 eI_72 hM => ?_)
          refine lv_iconst (v := 1) hx hb dX4_readStart_113 (by decide) ?_
          have b_73 : 0 ≤ (I_72 x0 6).toInt ∧ (I_72 x0 6).toInt ≤ 4 := hM.ib m_66 k_66 6 rfl
          have e_74 : (I_72 x0 6).toInt = (I_65 x0 6).toInt := congrArg Int32.toInt (cu_k eI_72 (by decide))
          have b_75 : 0 ≤ (I_72 x0 7).toInt ∧ (I_72 x0 7).toInt ≤ 1000 := hM.ib m_66 k_66 7 rfl
          have e_76 : (I_72 x0 7).toInt = (I_65 x0 7).toInt := congrArg (fun z => Int32.toInt (z 7)) (cu_a eI_72 (c_ne k_66 k_67 (by decide)))
          have e_77 : (I_47 p0 6).toInt = 2 := (congrArg Int32.toInt (cu_s eI_47)).trans num_2
          have e_78 : (I_53 p0 6).toInt = (I_47 p0 6).toInt := congrArg Int32.toInt ((fr_53 p0 m_9 (fun z => by cases z)).2.2.1 6 (by rw [k_9]; rfl))
          have e_79 : (I_65 p0 6).toInt = (I_53 p0 6).toInt := congrArg Int32.toInt ((fr_65 p0 m_55 (fun z => by cases z)).2.2.1 6 (by rw [k_55]; rfl))
          have e_80 : (I_72 p0 6).toInt = (I_65 p0 6).toInt := congrArg Int32.toInt (cu_k eI_72 (by decide))
          have e_81 : (I_72 p0 7).toInt = (I_65 x0 9).toInt := (congrArg Int32.toInt (cu_s eI_72)).trans rfl
          have b_82 : 0 ≤ (I_72 x0 8).toInt ∧ (I_72 x0 8).toInt ≤ 1000 := hM.ib m_66 k_66 8 rfl
          have e_83 : (I_72 x0 8).toInt = (I_65 x0 8).toInt := congrArg Int32.toInt (cu_k eI_72 (by decide))
          exact cr_rz (mc := 0) (ms := 0) (X := 1) E hr hlk hsz hM ⟨show (0 : Nat) ≤ 0 from by omega, show (0 : Nat) ≤ 0 from by omega⟩ num_1 (by omega) (show ((I_72 x0 6).toInt = 0 ∨ (I_72 x0 7).toInt ≤ 999) ∧ (((1 : Int32).toInt = 1 ∧ ∃ z : Nat, zstart kz nz xz (I_72 p0 6).toInt (I_72 p0 7).toInt z ∧ (I_72 x0 7).toInt = (ztp kz z : Int) ∧ (I_72 x0 8).toInt = (zty kz nz z : Int) ∧ (I_72 x0 6).toInt = zso kz nz (ztp kz z)) ∨ ((1 : Int32).toInt = 0 ∧ ∀ (h v : Int) (z : Nat), ¬ zstart kz nz xz h v z)) ∧ (∀ a : Nat, a ∈ L → K a = 2 → ¬ a = p0 → ∀ j : Nat, I_72 a j = I a j) from by have n9 := num_1; exact ⟨by omega, Or.inl ⟨by omega, (zty kz nz (zty kz nz (zty kz nz xz))), ⟨w_10, Or.inr (Or.inr ⟨w_44, by omega, by rw [show (I_72 p0 7).toInt = (I_65 x0 9).toInt from by omega]; exact w_70, rfl⟩)⟩, by omega, by omega, by omega⟩, fun a ha ka na j => (by have t1_ := fr_7 a ha (fun z => by cases z); have k1_ := t1_.2.1.trans ka; have m1_ := t1_.1; have t2_ := fr_53 a m1_ (fun z => by cases z); have k2_ := t2_.2.1.trans k1_; have m2_ := t2_.1; have t3_ := fr_65 a m2_ (fun z => by cases z); have k3_ := t3_.2.1.trans k2_; have m3_ := t3_.1; exact ((congrFun (cu_a eI_72 na) j).trans ((t3_.2.2.1 j (by rw [k2_]; rfl)).trans ((t2_.2.2.1 j (by rw [k1_]; rfl)).trans ((congrFun (cu_a eI_47 na) j).trans (t1_.2.2.1 j (by rw [ka]; rfl)))))))⟩) dX4_readStart_114
        · rw [num_0, num_3600] at w_70
          refine mm_if_ne (X := r_63.toInt) (tgt := 105) hx hb dX4_readStart_100 (by decide) rfl (fun c_84 => False.elim (by omega)) (fun c_84 => ?_)
          refine lv_iconst (v := 0) hx hb dX4_readStart_103 (by decide) ?_
          have b_85 : 0 ≤ (I_65 x0 6).toInt ∧ (I_65 x0 6).toInt ≤ 4 := hM.ib m_66 k_66 6 rfl
          have b_86 : 0 ≤ (I_65 x0 7).toInt ∧ (I_65 x0 7).toInt ≤ 1000 := hM.ib m_66 k_66 7 rfl
          have e_87 : (I_47 p0 6).toInt = 2 := (congrArg Int32.toInt (cu_s eI_47)).trans num_2
          have e_88 : (I_53 p0 6).toInt = (I_47 p0 6).toInt := congrArg Int32.toInt ((fr_53 p0 m_9 (fun z => by cases z)).2.2.1 6 (by rw [k_9]; rfl))
          have e_89 : (I_65 p0 6).toInt = (I_53 p0 6).toInt := congrArg Int32.toInt ((fr_65 p0 m_55 (fun z => by cases z)).2.2.1 6 (by rw [k_55]; rfl))
          have e_90 : (I_7 p0 7).toInt = (I p0 7).toInt := congrArg Int32.toInt ((fr_7 p0 mp0 (fun z => by cases z)).2.2.1 7 (by rw [kp0]; rfl))
          have e_91 : (I_47 p0 7).toInt = (I_7 p0 7).toInt := congrArg Int32.toInt (cu_k eI_47 (by decide))
          have e_92 : (I_53 p0 7).toInt = (I_47 p0 7).toInt := congrArg Int32.toInt ((fr_53 p0 m_9 (fun z => by cases z)).2.2.1 7 (by rw [k_9]; rfl))
          have e_93 : (I_65 p0 7).toInt = (I_53 p0 7).toInt := congrArg Int32.toInt ((fr_65 p0 m_55 (fun z => by cases z)).2.2.1 7 (by rw [k_55]; rfl))
          have b_94 : 0 ≤ (I_65 x0 8).toInt ∧ (I_65 x0 8).toInt ≤ 1000 := hM.ib m_66 k_66 8 rfl
          exact cr_rz (mc := 0) (ms := 0) (X := 0) E hr hlk hsz hM ⟨show (0 : Nat) ≤ 0 from by omega, show (0 : Nat) ≤ 0 from by omega⟩ num_0 (by omega) (show ((I_65 x0 6).toInt = 0 ∨ (I_65 x0 7).toInt ≤ 999) ∧ (((0 : Int32).toInt = 1 ∧ ∃ z : Nat, zstart kz nz xz (I_65 p0 6).toInt (I_65 p0 7).toInt z ∧ (I_65 x0 7).toInt = (ztp kz z : Int) ∧ (I_65 x0 8).toInt = (zty kz nz z : Int) ∧ (I_65 x0 6).toInt = zso kz nz (ztp kz z)) ∨ ((0 : Int32).toInt = 0 ∧ ∀ (h v : Int) (z : Nat), ¬ zstart kz nz xz h v z)) ∧ (∀ a : Nat, a ∈ L → K a = 2 → ¬ a = p0 → ∀ j : Nat, I_65 a j = I a j) from by have n9 := num_0; exact ⟨by omega, Or.inr ⟨by omega, fun h v z q => q.2.elim (fun a => w_19 a.1) (fun a => a.elim (fun a => absurd (zW_uq (by decide) (by decide) a.1 w_44) (by decide)) (fun a => w_70 v a.2.2.1))⟩, fun a ha ka na j => (by have t1_ := fr_7 a ha (fun z => by cases z); have k1_ := t1_.2.1.trans ka; have m1_ := t1_.1; have t2_ := fr_53 a m1_ (fun z => by cases z); have k2_ := t2_.2.1.trans k1_; have m2_ := t2_.1; have t3_ := fr_65 a m2_ (fun z => by cases z); have k3_ := t3_.2.1.trans k2_; have m3_ := t3_.1; exact ((t3_.2.2.1 j (by rw [k2_]; rfl)).trans ((t2_.2.2.1 j (by rw [k1_]; rfl)).trans ((congrFun (cu_a eI_47 na) j).trans (t1_.2.2.1 j (by rw [ka]; rfl))))))⟩) dX4_readStart_104
      · refine lv_istore_n (lv' := [(2, .int r_41), (0, .ref x0), (1, .ref p0)]) hx hb dX4_readStart_37 rfl hl (by decide) rfl (fun ls hl => ?_)
        refine lv_iload_n hx hb dX4_readStart_38 rfl (lv_at hl 0 rfl) ?_
        refine mm_if_ne (X := r_41.toInt) (tgt := 57) hx hb dX4_readStart_39 (by decide) rfl (fun c_95 => False.elim (by omega)) (fun c_95 => ?_)
        refine lv_aload_n hx hb dX4_readStart_42 rfl (lv_at hl 1 rfl) ?_
        refine va_ldcS (own := RX4) (q := ad 10) hx hb hown (hV.2.2.1 10 (128, "every") rfl) dX4_readStart_43 ?_
        refine cc_Vip (vs := [.ref (ad 10)]) (rest := []) (b := x0) (κ := 4) E hV rfl hA hml hM m_8 k_8 rfl rfl (h5_X4_isWord l D cA ad av L_7 K_7 I_7 O_7 _ x0 10 hM.2.2.2.1 m_8 k_8 (by decide) kz nz (zty kz nz xz) (zTx_fr htx hI mx0 kx0 hM.2.2.2.2 rfl rfl rfl) (show (I_7 x0 7).toInt = (ztp kz (zty kz nz xz) : Int) ∧ (I_7 x0 8).toInt = (zty kz nz (zty kz nz xz) : Int) ∧ (I_7 x0 6).toInt = zso kz nz (ztp kz (zty kz nz xz)) from ⟨by omega, by omega, by omega⟩)) (cwV 1 hts gz_X4_readStart_X4_isWord_96 rfl rfl rfl (by decide +kernel) ⟨Nat.le_of_ble_eq_true rfl, Nat.le_of_ble_eq_true rfl⟩) rfl hl.1 rfl (Nat.le_of_ble_eq_true rfl) dX4_readStart_45 ⟨show (0 : Nat) ≤ 0 from by omega, show (0 : Nat) ≤ 0 from by omega⟩ (fun r_97 H locs p_98 hM => ?_)
        replace p_98 : (r_97.toInt = 1 ∧ zW kz nz (zty kz nz xz) (zwl 10)) ∨ (r_97.toInt = 0 ∧ ¬ zW kz nz (zty kz nz xz) (zwl 10)) := p_98
        rcases p_98 with ⟨hr_100, w_100⟩ | ⟨hr_100, w_100⟩
        · refine mm_if_ne (X := r_97.toInt) (tgt := 57) hx hb dX4_readStart_48 (by decide) rfl (fun c_101 => ?_) (fun c_101 => False.elim (by omega))
          refine lv_aload_n hx hb dX4_readStart_57 rfl (lv_at hl 2 rfl) ?_
          refine lv_iload_n hx hb dX4_readStart_58 rfl (lv_at hl 0 rfl) ?_
          refine mm_if_eq (X := r_41.toInt) (tgt := 66) hx hb dX4_readStart_59 (by decide) rfl (fun c_102 => ?_) (fun c_102 => False.elim (by omega))
          refine lv_iconst (v := 1) hx hb dX4_readStart_66 (by decide) ?_
          refine cr_puti (κ := 2) (ci := 2) (k := 6) (C := RX2) (T := TX2) (N := 8) (fs := cfs 2) (ty := .int) (v := 1) E hM m_9 k_9 (fun _ _ => rfl) rfl hin2 tyX2 tyX2_ok nmX2 (by decide) (index := 123) (mm_at 65 rfl) rfl (Or.inl rfl) (by decide +kernel) rfl rfl (show (6 : Nat) < 8 from by decide) (fun _ _ _ => rfl) (cz_nb rfl) (cS_upd (hM.sp m_9 k_9) (by decide) (by decide)) (Or.inr (Or.inr rfl)) dX4_readStart_67 (fun H locs I_103 eI_103 hM => ?_)
          refine lv_aload_n hx hb dX4_readStart_70 rfl (lv_at hl 1 rfl) ?_
          have b_105 : 0 ≤ (I_103 x0 8).toInt ∧ (I_103 x0 8).toInt ≤ 1000 := hM.ib m_8 k_8 8 rfl
          have e_106 : (I_103 x0 8).toInt = (I_7 x0 8).toInt := congrArg Int32.toInt (cu_k eI_103 (by decide))
          refine cc_Vv (vs := []) (rest := []) (b := x0) (κ := 4) E hV rfl hA hml hM m_8 k_8 rfl rfl (h5_X4_step l D cA ad av L_7 K_7 I_103 O_7 _ x0 hM.2.2.2.1 m_8 k_8 kz nz (zty kz nz (zty kz nz xz)) (zTx_fr htx hI mx0 kx0 hM.2.2.2.2 rfl rfl rfl) (show (I_103 x0 8).toInt = ((zty kz nz (zty kz nz xz)) : Int) from by omega)) (cwV 0 hts gz_X4_readStart_X4_step_104 rfl rfl rfl (by decide +kernel) ⟨Nat.le_of_ble_eq_true rfl, Nat.le_of_ble_eq_true rfl⟩) rfl hl.1 rfl (Nat.le_of_ble_eq_true rfl) dX4_readStart_71 ⟨show (0 + 0 : Nat) ≤ 0 from by omega, show (0 + 0 : Nat) ≤ 0 from by omega⟩ (fun _ h => by cases h) (by decide) (by decide) (fun L_109 K_109 I_109 O_109 H locs fr_109 p_108 hM => ?_)
          have m_110 := (fr_109 x0 m_8 (fun z => by cases z)).1
          have k_110 : K_109 x0 = 4 := (fr_109 x0 m_8 (fun z => by cases z)).2.1.trans k_8
          have m_111 := (fr_109 p0 m_9 (fun z => by cases z)).1
          have k_111 : K_109 p0 = 2 := (fr_109 p0 m_9 (fun z => by cases z)).2.1.trans k_9
          replace p_108 : ((I_109 x0 6).toInt = 0 ∨ (I_109 x0 7).toInt ≤ 999) ∧ (I_109 x0 7).toInt = (ztp kz (zty kz nz (zty kz nz xz)) : Int) ∧ (I_109 x0 8).toInt = (zty kz nz (zty kz nz (zty kz nz xz)) : Int) ∧ (I_109 x0 6).toInt = zso kz nz (ztp kz (zty kz nz (zty kz nz xz))) := p_108
          rcases p_108 with ⟨hrp_112, a1_112, a2_112, a3_112⟩
          refine lv_aload_n hx hb dX4_readStart_74 rfl (lv_at hl 1 rfl) ?_
          refine lv_iload_n hx hb dX4_readStart_75 rfl (lv_at hl 0 rfl) ?_
          refine mm_if_eq (X := r_41.toInt) (tgt := 83) hx hb dX4_readStart_76 (by decide) rfl (fun c_113 => ?_) (fun c_113 => False.elim (by omega))
          refine lv_iconst (v := 1) hx hb dX4_readStart_83 (by decide) ?_
          refine lv_iload_n hx hb dX4_readStart_84 rfl (lv_at hl 0 rfl) ?_
          refine mm_if_eq (X := r_41.toInt) (tgt := 94) hx hb dX4_readStart_85 (by decide) rfl (fun c_114 => ?_) (fun c_114 => False.elim (by omega))
          refine lv_sipush (v := 600) hx hb dX4_readStart_94 (by decide) ?_
          have b_116 : 0 ≤ (I_109 x0 7).toInt ∧ (I_109 x0 7).toInt ≤ 1000 := hM.ib m_110 k_110 7 rfl
          have b_117 : 0 ≤ (I_109 x0 8).toInt ∧ (I_109 x0 8).toInt ≤ 1000 := hM.ib m_110 k_110 8 rfl
          have b_118 : 0 ≤ (I_109 x0 6).toInt ∧ (I_109 x0 6).toInt ≤ 4 := hM.ib m_110 k_110 6 rfl
          refine cc_Vi (vs := [.int 1, .int 600]) (rest := []) (b := x0) (κ := 4) E hV rfl hA hml hM m_110 k_110 rfl rfl (h5_X4_readNumber l D cA ad av L_109 K_109 I_109 O_109 _ x0 1 600 hM.2.2.2.1 m_110 k_110 kz nz (zty kz nz (zty kz nz xz)) (zTx_fr htx hI mx0 kx0 hM.2.2.2.2 rfl rfl rfl) (show (I_109 x0 7).toInt = (ztp kz (zty kz nz (zty kz nz xz)) : Int) ∧ (I_109 x0 8).toInt = (zty kz nz (zty kz nz (zty kz nz xz)) : Int) ∧ (I_109 x0 6).toInt = zso kz nz (ztp kz (zty kz nz (zty kz nz xz))) from ⟨by omega, by omega, by omega⟩) (show (I_109 x0 6).toInt = 0 ∨ (I_109 x0 7).toInt ≤ 999 from by have n_0 := num_1; have n_1 := num_600; omega) (show 0 ≤ (1 : Int32).toInt ∧ (1 : Int32).toInt ≤ 100000 from by have n_0 := num_1; have n_1 := num_600; omega) (show (600 : Int32).toInt ≤ 99999 from by have n_0 := num_1; have n_1 := num_600; omega)) (cwV 2 hts gz_X4_readStart_X4_readNumber_115 rfl rfl rfl (by decide +kernel) ⟨Nat.le_of_ble_eq_true rfl, Nat.le_of_ble_eq_true rfl⟩) rfl hl.1 rfl (Nat.le_of_ble_eq_true rfl) dX4_readStart_97 ⟨show (0 + 0 : Nat) ≤ 0 from by omega, show (0 + 0 : Nat) ≤ 0 from by omega⟩ (fun _ h => by cases h) (by decide) (by decide) (fun r_119 L_121 K_121 I_121 O_121 H locs fr_121 p_120 hM => ?_)
          have m_122 := (fr_121 x0 m_110 (fun z => by cases z)).1
          have k_122 : K_121 x0 = 4 := (fr_121 x0 m_110 (fun z => by cases z)).2.1.trans k_110
          have m_123 := (fr_121 p0 m_111 (fun z => by cases z)).1
          have k_123 : K_121 p0 = 2 := (fr_121 p0 m_111 (fun z => by cases z)).2.1.trans k_111
          replace p_120 : ((I_121 x0 6).toInt = 0 ∨ (I_121 x0 7).toInt ≤ 999) ∧ ((r_119.toInt = 1 ∧ zN kz nz (zty kz nz (zty kz nz xz)) (1 : Int32).toInt (600 : Int32).toInt (I_121 x0 9).toInt ∧ (I_121 x0 7).toInt = (ztp kz (zty kz nz (zty kz nz (zty kz nz xz))) : Int) ∧ (I_121 x0 8).toInt = (zty kz nz (zty kz nz (zty kz nz (zty kz nz xz))) : Int) ∧ (I_121 x0 6).toInt = zso kz nz (ztp kz (zty kz nz (zty kz nz (zty kz nz xz))))) ∨ (r_119.toInt = 0 ∧ ∀ v : Int, ¬ zN kz nz (zty kz nz (zty kz nz xz)) (1 : Int32).toInt (600 : Int32).toInt v)) := p_120
          have nn_124 := num_1
          have nn_125 := num_600
          rcases p_120 with ⟨hrp_126, ⟨hr_126, w_126, a1_126, a2_126, a3_126⟩ | ⟨hr_126, w_126⟩⟩
          · rw [num_1, num_600] at w_126
            have hn1_126 := w_126.2.1
            have hn2_126 := w_126.2.2.1
            refine mm_if_ne (X := r_119.toInt) (tgt := 105) hx hb dX4_readStart_100 (by decide) rfl (fun c_127 => ?_) (fun c_127 => False.elim (by omega))
            refine lv_aload_n hx hb dX4_readStart_105 rfl (lv_at hl 2 rfl) ?_
            refine lv_aload_n hx hb dX4_readStart_106 rfl (lv_at hl 1 rfl) ?_
            refine cr_get (κ := 4) (ci := 4) (k := 9) (C := RX4) (T := TX4) (N := 10) (fs := cfs 4) (v := .int (I_121 x0 9)) E hM m_122 k_122 (fun _ _ => rfl) rfl hin4 (by decide) (index := 89) (mm_at 70 rfl) rfl rfl dX4_readStart_107 ?_
            refine cr_puti (κ := 2) (ci := 2) (k := 7) (C := RX2) (T := TX2) (N := 8) (fs := cfs 2) (ty := .int) (v := (I_121 x0 9)) E hM m_123 k_123 (fun _ _ => rfl) rfl hin2 tyX2 tyX2_ok nmX2 (by decide) (index := 130) (mm_at 72 rfl) rfl (Or.inl rfl) (by decide +kernel) rfl rfl (show (7 : Nat) < 8 from by decide) (fun _ _ _ => rfl) (cz_nb rfl) (cS_upd (hM.sp m_123 k_123) (by decide) (by decide)) (Or.inr (Or.inr rfl)) dX4_readStart_110 (fun H locs I_128 eI_128 hM => ?_)
            refine lv_iconst (v := 1) hx hb dX4_readStart_113 (by decide) ?_
            have b_129 : 0 ≤ (I_128 x0 6).toInt ∧ (I_128 x0 6).toInt ≤ 4 := hM.ib m_122 k_122 6 rfl
            have e_130 : (I_128 x0 6).toInt = (I_121 x0 6).toInt := congrArg Int32.toInt (cu_k eI_128 (by decide))
            have b_131 : 0 ≤ (I_128 x0 7).toInt ∧ (I_128 x0 7).toInt ≤ 1000 := hM.ib m_122 k_122 7 rfl
            have e_132 : (I_128 x0 7).toInt = (I_121 x0 7).toInt := congrArg (fun z => Int32.toInt (z 7)) (cu_a eI_128 (c_ne k_122 k_123 (by decide)))
            have e_133 : (I_103 p0 6).toInt = 1 := (congrArg Int32.toInt (cu_s eI_103)).trans num_1
            have e_134 : (I_109 p0 6).toInt = (I_103 p0 6).toInt := congrArg Int32.toInt ((fr_109 p0 m_9 (fun z => by cases z)).2.2.1 6 (by rw [k_9]; rfl))
            have e_135 : (I_121 p0 6).toInt = (I_109 p0 6).toInt := congrArg Int32.toInt ((fr_121 p0 m_111 (fun z => by cases z)).2.2.1 6 (by rw [k_111]; rfl))
            have e_136 : (I_128 p0 6).toInt = (I_121 p0 6).toInt := congrArg Int32.toInt (cu_k eI_128 (by decide))
            have e_137 : (I_128 p0 7).toInt = (I_121 x0 9).toInt := (congrArg Int32.toInt (cu_s eI_128)).trans rfl
            have b_138 : 0 ≤ (I_128 x0 8).toInt ∧ (I_128 x0 8).toInt ≤ 1000 := hM.ib m_122 k_122 8 rfl
            have e_139 : (I_128 x0 8).toInt = (I_121 x0 8).toInt := congrArg Int32.toInt (cu_k eI_128 (by decide))
            exact cr_rz (mc := 0) (ms := 0) (X := 1) E hr hlk hsz hM ⟨show (0 : Nat) ≤ 0 from by omega, show (0 : Nat) ≤ 0 from by omega⟩ num_1 (by omega) (show ((I_128 x0 6).toInt = 0 ∨ (I_128 x0 7).toInt ≤ 999) ∧ (((1 : Int32).toInt = 1 ∧ ∃ z : Nat, zstart kz nz xz (I_128 p0 6).toInt (I_128 p0 7).toInt z ∧ (I_128 x0 7).toInt = (ztp kz z : Int) ∧ (I_128 x0 8).toInt = (zty kz nz z : Int) ∧ (I_128 x0 6).toInt = zso kz nz (ztp kz z)) ∨ ((1 : Int32).toInt = 0 ∧ ∀ (h v : Int) (z : Nat), ¬ zstart kz nz xz h v z)) ∧ (∀ a : Nat, a ∈ L → K a = 2 → ¬ a = p0 → ∀ j : Nat, I_128 a j = I a j) from by have n9 := num_1; exact ⟨by omega, Or.inl ⟨by omega, (zty kz nz (zty kz nz (zty kz nz xz))), ⟨w_10, Or.inr (Or.inl ⟨w_100, by omega, by rw [show (I_128 p0 7).toInt = (I_121 x0 9).toInt from by omega]; exact w_126, rfl⟩)⟩, by omega, by omega, by omega⟩, fun a ha ka na j => (by have t1_ := fr_7 a ha (fun z => by cases z); have k1_ := t1_.2.1.trans ka; have m1_ := t1_.1; have t2_ := fr_109 a m1_ (fun z => by cases z); have k2_ := t2_.2.1.trans k1_; have m2_ := t2_.1; have t3_ := fr_121 a m2_ (fun z => by cases z); have k3_ := t3_.2.1.trans k2_; have m3_ := t3_.1; exact ((congrFun (cu_a eI_128 na) j).trans ((t3_.2.2.1 j (by rw [k2_]; rfl)).trans ((t2_.2.2.1 j (by rw [k1_]; rfl)).trans ((congrFun (cu_a eI_103 na) j).trans (t1_.2.2.1 j (by rw [ka]; rfl)))))))⟩) dX4_readStart_114
          · rw [num_1, num_600] at w_126
            refine mm_if_ne (X := r_119.toInt) (tgt := 105) hx hb dX4_readStart_100 (by decide) rfl (fun c_140 => False.elim (by omega)) (fun c_140 => ?_)
            refine lv_iconst (v := 0) hx hb dX4_readStart_103 (by decide) ?_
            have b_141 : 0 ≤ (I_121 x0 6).toInt ∧ (I_121 x0 6).toInt ≤ 4 := hM.ib m_122 k_122 6 rfl
            have b_142 : 0 ≤ (I_121 x0 7).toInt ∧ (I_121 x0 7).toInt ≤ 1000 := hM.ib m_122 k_122 7 rfl
            have e_143 : (I_103 p0 6).toInt = 1 := (congrArg Int32.toInt (cu_s eI_103)).trans num_1
            have e_144 : (I_109 p0 6).toInt = (I_103 p0 6).toInt := congrArg Int32.toInt ((fr_109 p0 m_9 (fun z => by cases z)).2.2.1 6 (by rw [k_9]; rfl))
            have e_145 : (I_121 p0 6).toInt = (I_109 p0 6).toInt := congrArg Int32.toInt ((fr_121 p0 m_111 (fun z => by cases z)).2.2.1 6 (by rw [k_111]; rfl))
            have e_146 : (I_7 p0 7).toInt = (I p0 7).toInt := congrArg Int32.toInt ((fr_7 p0 mp0 (fun z => by cases z)).2.2.1 7 (by rw [kp0]; rfl))
            have e_147 : (I_103 p0 7).toInt = (I_7 p0 7).toInt := congrArg Int32.toInt (cu_k eI_103 (by decide))
            have e_148 : (I_109 p0 7).toInt = (I_103 p0 7).toInt := congrArg Int32.toInt ((fr_109 p0 m_9 (fun z => by cases z)).2.2.1 7 (by rw [k_9]; rfl))
            have e_149 : (I_121 p0 7).toInt = (I_109 p0 7).toInt := congrArg Int32.toInt ((fr_121 p0 m_111 (fun z => by cases z)).2.2.1 7 (by rw [k_111]; rfl))
            have b_150 : 0 ≤ (I_121 x0 8).toInt ∧ (I_121 x0 8).toInt ≤ 1000 := hM.ib m_122 k_122 8 rfl
            exact cr_rz (mc := 0) (ms := 0) (X := 0) E hr hlk hsz hM ⟨show (0 : Nat) ≤ 0 from by omega, show (0 : Nat) ≤ 0 from by omega⟩ num_0 (by omega) (show ((I_121 x0 6).toInt = 0 ∨ (I_121 x0 7).toInt ≤ 999) ∧ (((0 : Int32).toInt = 1 ∧ ∃ z : Nat, zstart kz nz xz (I_121 p0 6).toInt (I_121 p0 7).toInt z ∧ (I_121 x0 7).toInt = (ztp kz z : Int) ∧ (I_121 x0 8).toInt = (zty kz nz z : Int) ∧ (I_121 x0 6).toInt = zso kz nz (ztp kz z)) ∨ ((0 : Int32).toInt = 0 ∧ ∀ (h v : Int) (z : Nat), ¬ zstart kz nz xz h v z)) ∧ (∀ a : Nat, a ∈ L → K a = 2 → ¬ a = p0 → ∀ j : Nat, I_121 a j = I a j) from by have n9 := num_0; exact ⟨by omega, Or.inr ⟨by omega, fun h v z q => q.2.elim (fun a => w_19 a.1) (fun a => a.elim (fun a => w_126 v a.2.2.1) (fun a => w_44 a.1))⟩, fun a ha ka na j => (by have t1_ := fr_7 a ha (fun z => by cases z); have k1_ := t1_.2.1.trans ka; have m1_ := t1_.1; have t2_ := fr_109 a m1_ (fun z => by cases z); have k2_ := t2_.2.1.trans k1_; have m2_ := t2_.1; have t3_ := fr_121 a m2_ (fun z => by cases z); have k3_ := t3_.2.1.trans k2_; have m3_ := t3_.1; exact ((t3_.2.2.1 j (by rw [k2_]; rfl)).trans ((t2_.2.2.1 j (by rw [k1_]; rfl)).trans ((congrFun (cu_a eI_103 na) j).trans (t1_.2.2.1 j (by rw [ka]; rfl))))))⟩) dX4_readStart_104
        · refine mm_if_ne (X := r_97.toInt) (tgt := 57) hx hb dX4_readStart_48 (by decide) rfl (fun c_151 => False.elim (by omega)) (fun c_151 => ?_)
          refine lv_aload_n hx hb dX4_readStart_51 rfl (lv_at hl 1 rfl) ?_
          refine lv_iconst (v := 1) hx hb dX4_readStart_52 (by decide) ?_
          refine cc_Vi (vs := [.int 1]) (rest := []) (b := x0) (κ := 4) E hV rfl hA hml hM m_8 k_8 rfl rfl (h4_X4_fail l D cA ad av L_7 K_7 I_7 O_7 _ x0 1 hM.2.2.2.1 m_8 k_8) (cwV 1 hts gz_X4_readStart_X4_fail_152 rfl rfl rfl (by decide +kernel) ⟨Nat.le_of_ble_eq_true rfl, Nat.le_of_ble_eq_true rfl⟩) rfl hl.1 rfl (Nat.le_of_ble_eq_true rfl) dX4_readStart_53 ⟨show (0 + 0 : Nat) ≤ 0 from by omega, show (0 + 0 : Nat) ≤ 0 from by omega⟩ (fun _ h => by cases h) (by decide) (by decide) (fun r_153 L_155 K_155 I_155 O_155 H locs fr_155 p_154 hM => ?_)
          have m_156 := (fr_155 x0 m_8 (fun z => by cases z)).1
          have k_156 : K_155 x0 = 4 := (fr_155 x0 m_8 (fun z => by cases z)).2.1.trans k_8
          have m_157 := (fr_155 p0 m_9 (fun z => by cases z)).1
          have k_157 : K_155 p0 = 2 := (fr_155 p0 m_9 (fun z => by cases z)).2.1.trans k_9
          replace p_154 : r_153.toInt = 0 := p_154
          have b_158 : 0 ≤ (I_155 x0 6).toInt ∧ (I_155 x0 6).toInt ≤ 4 := hM.ib m_156 k_156 6 rfl
          have e_159 : (I_155 x0 6).toInt = (I_7 x0 6).toInt := congrArg Int32.toInt ((fr_155 x0 m_8 (fun z => by cases z)).2.2.1 6 (by rw [k_8]; rfl))
          have b_160 : 0 ≤ (I_155 x0 7).toInt ∧ (I_155 x0 7).toInt ≤ 1000 := hM.ib m_156 k_156 7 rfl
          have e_161 : (I_155 x0 7).toInt = (I_7 x0 7).toInt := congrArg Int32.toInt ((fr_155 x0 m_8 (fun z => by cases z)).2.2.1 7 (by rw [k_8]; rfl))
          have e_162 : (I_7 p0 6).toInt = (I p0 6).toInt := congrArg Int32.toInt ((fr_7 p0 mp0 (fun z => by cases z)).2.2.1 6 (by rw [kp0]; rfl))
          have e_163 : (I_155 p0 6).toInt = (I_7 p0 6).toInt := congrArg Int32.toInt ((fr_155 p0 m_9 (fun z => by cases z)).2.2.1 6 (by rw [k_9]; rfl))
          have e_164 : (I_7 p0 7).toInt = (I p0 7).toInt := congrArg Int32.toInt ((fr_7 p0 mp0 (fun z => by cases z)).2.2.1 7 (by rw [kp0]; rfl))
          have e_165 : (I_155 p0 7).toInt = (I_7 p0 7).toInt := congrArg Int32.toInt ((fr_155 p0 m_9 (fun z => by cases z)).2.2.1 7 (by rw [k_9]; rfl))
          have b_166 : 0 ≤ (I_155 x0 8).toInt ∧ (I_155 x0 8).toInt ≤ 1000 := hM.ib m_156 k_156 8 rfl
          have e_167 : (I_155 x0 8).toInt = (I_7 x0 8).toInt := congrArg Int32.toInt ((fr_155 x0 m_8 (fun z => by cases z)).2.2.1 8 (by rw [k_8]; rfl))
          exact cr_rz (mc := 0) (ms := 0) (X := r_153.toInt) E hr hlk hsz hM ⟨show (0 : Nat) ≤ 0 from by omega, show (0 : Nat) ≤ 0 from by omega⟩ rfl (by omega) (show ((I_155 x0 6).toInt = 0 ∨ (I_155 x0 7).toInt ≤ 999) ∧ ((r_153.toInt = 1 ∧ ∃ z : Nat, zstart kz nz xz (I_155 p0 6).toInt (I_155 p0 7).toInt z ∧ (I_155 x0 7).toInt = (ztp kz z : Int) ∧ (I_155 x0 8).toInt = (zty kz nz z : Int) ∧ (I_155 x0 6).toInt = zso kz nz (ztp kz z)) ∨ (r_153.toInt = 0 ∧ ∀ (h v : Int) (z : Nat), ¬ zstart kz nz xz h v z)) ∧ (∀ a : Nat, a ∈ L → K a = 2 → ¬ a = p0 → ∀ j : Nat, I_155 a j = I a j) from by exact ⟨by omega, Or.inr ⟨by omega, fun h v z q => q.2.elim (fun a => w_19 a.1) (fun a => a.elim (fun a => w_100 a.1) (fun a => w_44 a.1))⟩, fun a ha ka na j => (by have t1_ := fr_7 a ha (fun z => by cases z); have k1_ := t1_.2.1.trans ka; have m1_ := t1_.1; have t2_ := fr_155 a m1_ (fun z => by cases z); have k2_ := t2_.2.1.trans k1_; have m2_ := t2_.1; exact ((t2_.2.2.1 j (by rw [k1_]; rfl)).trans (t1_.2.2.1 j (by rw [ka]; rfl))))⟩) dX4_readStart_56
  · refine mm_if_ne (X := r_5.toInt) (tgt := 11) hx hb dX4_readStart_6 (by decide) rfl (fun c_168 => False.elim (by omega)) (fun c_168 => ?_)
    refine lv_iconst (v := 0) hx hb dX4_readStart_9 (by decide) ?_
    have b_169 : 0 ≤ (I_7 x0 6).toInt ∧ (I_7 x0 6).toInt ≤ 4 := hM.ib m_8 k_8 6 rfl
    have b_170 : 0 ≤ (I_7 x0 7).toInt ∧ (I_7 x0 7).toInt ≤ 1000 := hM.ib m_8 k_8 7 rfl
    have e_171 : (I_7 p0 6).toInt = (I p0 6).toInt := congrArg Int32.toInt ((fr_7 p0 mp0 (fun z => by cases z)).2.2.1 6 (by rw [kp0]; rfl))
    have e_172 : (I_7 p0 7).toInt = (I p0 7).toInt := congrArg Int32.toInt ((fr_7 p0 mp0 (fun z => by cases z)).2.2.1 7 (by rw [kp0]; rfl))
    have b_173 : 0 ≤ (I_7 x0 8).toInt ∧ (I_7 x0 8).toInt ≤ 1000 := hM.ib m_8 k_8 8 rfl
    exact cr_rz (mc := 0) (ms := 0) (X := 0) E hr hlk hsz hM ⟨show (0 : Nat) ≤ 0 from by omega, show (0 : Nat) ≤ 0 from by omega⟩ num_0 (by omega) (show ((I_7 x0 6).toInt = 0 ∨ (I_7 x0 7).toInt ≤ 999) ∧ (((0 : Int32).toInt = 1 ∧ ∃ z : Nat, zstart kz nz xz (I_7 p0 6).toInt (I_7 p0 7).toInt z ∧ (I_7 x0 7).toInt = (ztp kz z : Int) ∧ (I_7 x0 8).toInt = (zty kz nz z : Int) ∧ (I_7 x0 6).toInt = zso kz nz (ztp kz z)) ∨ ((0 : Int32).toInt = 0 ∧ ∀ (h v : Int) (z : Nat), ¬ zstart kz nz xz h v z)) ∧ (∀ a : Nat, a ∈ L → K a = 2 → ¬ a = p0 → ∀ j : Nat, I_7 a j = I a j) from by have n9 := num_0; exact ⟨by omega, Or.inr ⟨by omega, fun h v z q => w_10 q.1⟩, fun a ha ka na j => (by have t1_ := fr_7 a ha (fun z => by cases z); have k1_ := t1_.2.1.trans ka; have m1_ := t1_.1; exact (t1_.2.2.1 j (by rw [ka]; rfl)))⟩) dX4_readStart_10
def w5X4_readShootings : List Cond := .code yX4_readShootings cX4_readShootings 4 (some .boolean) :: ([.fieldLink RX4 37 "SkiShots$Reader" "sort" "I", .methodLink RX4 44 yX4_fail, .instanceMethod yX4_fail, .selects RX4 yX4_fail yX4_fail, .initialized RX4, .code yX4_fail cX4_fail 2 (some .boolean), .fieldLink RX4 137 "SkiShots$Reader" "fault" "I", .fieldLink RX4 54 "SkiShots$Reader" "place" "I", .fieldLink RX4 31 "SkiShots$Reader" "faultPlace" "I", .fieldLink RX4 92 "SkiShots$Format" "laps" "I", .methodLink RX4 85 yX4_readNumber, .instanceMethod yX4_readNumber, .selects RX4 yX4_readNumber yX4_readNumber, .code yX4_readNumber cX4_readNumber 4 (some .boolean), .fieldLink RX4 133 "SkiShots$Reader" "behind" "I", .fieldLink RX4 89 "SkiShots$Reader" "number" "I", .methodLink RX4 34 yX4_step, .instanceMethod yX4_step, .selects RX4 yX4_step yX4_step, .code yX4_step cX4_step 1 none, .fieldLink RX4 21 "SkiShots$Reader" "length" "I", .methodLink RX4 149 yX4_sortAt, .instanceMethod yX4_sortAt, .selects RX4 yX4_sortAt yX4_sortAt, .code yX4_sortAt cX4_sortAt 3 (some .int), .fieldLink RX4 9 "SkiShots$Reader" "text" "[B", .methodLink RX4 15 Lib.Math.min.name, .static Lib.Math.min.name, .initialized "java/lang/Math", .code Lib.Math.min.name Lib.Math.min.code 2 (some .int), .constant RX4 136 (100000), .fieldLink RX4 96 "SkiShots$Format" "shootings" "I", .methodLink RX4 50 yX4_readWord, .instanceMethod yX4_readWord, .selects RX4 yX4_readWord yX4_readWord, .code yX4_readWord cX4_readWord 2 (some .boolean), .methodLink RX4 107 yX4_isWord, .instanceMethod yX4_isWord, .selects RX4 yX4_isWord yX4_isWord, .code yX4_isWord cX4_isWord 3 (some .boolean), .methodLink RX4 140 yJ0_length_8abf5, .instanceMethod yJ0_length_8abf5, .selects RJ0 yJ0_length_8abf5 yJ0_length_8abf5, .initialized RJ0, .code yJ0_length_8abf5 cJ0_length_8abf5 1 (some .int), .fieldLink RJ0 9 "java/lang/String" "value" "[B", .methodLink RJ0 335 yJ0_coder_7d493, .instanceMethod yJ0_coder_7d493, .selects RJ0 yJ0_coder_7d493 yJ0_coder_7d493, .code yJ0_coder_7d493 cJ0_coder_7d493 1 (some .byte), .fieldLink RJ0 38 "java/lang/String" "COMPACT_STRINGS" "Z", .fieldLink RJ0 15 "java/lang/String" "coder" "B", .methodLink RX4 145 yJ0_charAt_5068e, .instanceMethod yJ0_charAt_5068e, .selects RJ0 yJ0_charAt_5068e yJ0_charAt_5068e, .code yJ0_charAt_5068e cJ0_charAt_5068e 2 (some .char), .methodLink RJ0 492 yJ0_isLatin1_aae02, .instanceMethod yJ0_isLatin1_aae02, .selects RJ0 yJ0_isLatin1_aae02 yJ0_isLatin1_aae02, .code yJ0_isLatin1_aae02 cJ0_isLatin1_aae02 1 (some .boolean), .methodLink RJ0 495 yJ1_charAt_3b067, .static yJ1_charAt_3b067, .initialized RJ1, .code yJ1_charAt_3b067 cJ1_charAt_3b067 2 (some .char), .methodLink RJ1 9 yJ0_checkIndex_df160, .static yJ0_checkIndex_df160, .code yJ0_checkIndex_df160 cJ0_checkIndex_df160 2 none, .fieldLink RJ0 1053 "jdk/internal/util/Preconditions" "SIOOBE_FORMATTER" "Ljava/util/function/BiFunction;", .methodLink RJ0 1059 yJ3_checkIndex_8e157, .static yJ3_checkIndex_8e157, .initialized RJ3, .code yJ3_checkIndex_8e157 cJ3_checkIndex_8e157 3 (some .int)] ++ wsX20 ++ wsX40)
set_option maxRecDepth 20000 in
theorem gz_X4_readShootings_X4_fail_8 : GoodIn w5X4_readShootings (wsV RX4 44 RX4 yX4_fail w4X4_fail) := goodIn_p _ [6] rfl (by decide +kernel)
set_option maxRecDepth 20000 in
theorem gz_X4_readShootings_X4_readNumber_25 : GoodIn w5X4_readShootings (wsV RX4 85 RX4 yX4_readNumber w5X4_readNumber) := goodIn_p _ [14, 6, 20, 25, 30] rfl (by decide +kernel)
set_option maxRecDepth 20000 in
theorem gz_X4_readShootings_X4_fail_58 : GoodIn w5X4_readShootings (wsV RX4 44 RX4 yX4_fail w4X4_fail) := goodIn_p _ [6] rfl (by decide +kernel)
set_option maxRecDepth 20000 in
theorem gz_X4_readShootings_X4_readNumber_74 : GoodIn w5X4_readShootings (wsV RX4 85 RX4 yX4_readNumber w5X4_readNumber) := goodIn_p _ [14, 6, 20, 25, 30] rfl (by decide +kernel)
set_option maxRecDepth 20000 in
theorem gz_X4_readShootings_X4_readWord_101 : GoodIn w5X4_readShootings (wsV RX4 50 RX4 yX4_readWord w5X4_readWord) := goodIn_p _ [36, 40, 45, 50, 56, 60, 64, 67, 72, 20, 25, 30, 6] rfl (by decide +kernel)
set_option maxHeartbeats 4000000 in
set_option maxRecDepth 100000 in
theorem h5_X4_readShootings (l : Launch) (D : va_G) (cA : Nat → ClassId) (ad av : Nat → Nat) (L : List Nat) (K : Nat → Nat) (I : Nat → Nat → Int32) (O : Nat → Nat → Option Nat) (sz : Nat) (x0 : Nat) (p0 : Nat) (hI : cI L K I O) (mx0 : x0 ∈ L) (kx0 : K x0 = 4) (mp0 : p0 ∈ L) (kp0 : K p0 = 2) (kz : Nat → Nat) (nz : Nat) (xz : Nat) (htx : zTx kz nz I O x0) (hat : (I x0 7).toInt = (ztp kz xz : Int) ∧ (I x0 8).toInt = (zty kz nz xz : Int) ∧ (I x0 6).toInt = zso kz nz (ztp kz xz)) (hrp : (I x0 6).toInt = 0 ∨ (I x0 7).toInt ≤ 999) (hla : 1 ≤ (I p0 1).toInt ∧ (I p0 1).toInt ≤ 6) (hs0 : (I p0 2).toInt = 0) : Met l yX4_readShootings w5X4_readShootings ({ frames := 6, cells := 0, slots := 0, locals := 128 }) (cPre D cA ad av L K I O sz [.ref x0, .ref p0]) (cQi D cA L K I O sz [] [(2, 2), (4, 4), (4, 5), (4, 6), (4, 7), (4, 8), (4, 9)] [] (fun r L' K' I' O' => ((I' x0 6).toInt = 0 ∨ (I' x0 7).toInt ≤ 999) ∧ ((r.toInt = 1 ∧ zW kz nz xz (zwl 2) ∧ ∃ c : Nat, zsh kz nz (zty kz nz xz) (I p0 1).toInt c ∧ (I' p0 2).toInt = (c : Int) ∧ (I' x0 7).toInt = (ztp kz (zit kz nz c (zty kz nz xz)) : Int) ∧ (I' x0 8).toInt = (zty kz nz (zit kz nz c (zty kz nz xz)) : Int) ∧ (I' x0 6).toInt = zso kz nz (ztp kz (zit kz nz c (zty kz nz xz)))) ∨ (r.toInt = 0 ∧ ∀ c : Nat, ¬ (zW kz nz xz (zwl 2) ∧ zsh kz nz (zty kz nz xz) (I p0 1).toInt c))) ∧ (∀ a : Nat, a ∈ L → K a = 2 → ¬ a = p0 → ∀ j : Nat, I' a j = I a j))) 0 0 (va_A (cW cA L K I O) sz) := by
  refine cr_met (own := RX4) (xs := []) (WI := [(2, 2), (4, 4), (4, 5), (4, 6), (4, 7), (4, 8), (4, 9)]) (WO := []) (cc := cX4_readShootings) (maxL := 4) (ret := (some .boolean)) (by decide) rfl rfl (Nat.le_of_ble_eq_true rfl) hI ?_
  intro p e s m args below meth c ls E hV hml hr hlk hname hsz hA hM hl
  have hx := E.1
  have hb := E.2.1
  have hts := E.2.2.1
  have hown := E.2.2.2.1
  have hl : lv_has ls 4 [(0, .ref x0), (1, .ref p0)] := hl
  have hin2 : ∀ w ∈ wsX20, w ∈ w5X4_readShootings := by decide +kernel
  have hin4 : ∀ w ∈ wsX40, w ∈ w5X4_readShootings := by decide +kernel
  have hlb := hla
  have B_15 : ∀ n_15 : Nat, ∀ (H : Heap) (locs : List Loc) (ls : Array Slot) (Lc_15 : List Nat) (Kc_15 : Nat → Nat) (Ic_15 : Nat → Nat → Int32) (Oc_15 : Nat → Nat → Option Nat) (le i : Int32), (0 ≤ i.toInt ∧ i.toInt ≤ 4) → (Ic_15 x0 6).toInt = 0 ∨ (Ic_15 x0 7).toInt ≤ 999 → (Ic_15 x0 7).toInt = (ztp kz (zit kz nz (Int32.toNatClampNeg i) (zty kz nz xz)) : Int) → (Ic_15 x0 8).toInt = (zty kz nz (zit kz nz (Int32.toNatClampNeg i) (zty kz nz xz)) : Int) → (Ic_15 x0 6).toInt = zso kz nz (ztp kz (zit kz nz (Int32.toNatClampNeg i) (zty kz nz xz))) → zshp kz nz (zty kz nz xz) (I p0 1).toInt (Int32.toNatClampNeg i) → (i.toInt = 0 ∧ le.toInt = 1) ∨ (1 ≤ i.toInt ∧ le.toInt = (zV kz nz (zit kz nz (i.toInt.toNat - 1) (zty kz nz xz)) : Int) + 1) → le.toInt ≤ (I p0 1).toInt → (Ic_15 p0 2).toInt = i.toInt → (∀ a : Nat, a ∈ L → K a = 2 → ¬ a = p0 → ∀ j : Nat, Ic_15 a j = I a j) → zW kz nz xz (zwl 2) → (4 - i.toInt) < (n_15 : Int) → cQ D cA (va_A (cW cA L K I O) sz) s.heap [] [(2, 2), (4, 4), (4, 5), (4, 6), (4, 7), (4, 8), (4, 9)] [] L K I O H locs Lc_15 Kc_15 Ic_15 Oc_15 → lv_has ls 4 [(0, .ref x0), (1, .ref p0), (2, .int le), (3, .int i)] → W p l e ({ frames := 6, cells := 0, slots := 0, locals := 128 }) s m args below meth c H locs 0 0 (MQ below (cQi D cA L K I O sz [] [(2, 2), (4, 4), (4, 5), (4, 6), (4, 7), (4, 8), (4, 9)] [] (fun r L' K' I' O' => ((I' x0 6).toInt = 0 ∨ (I' x0 7).toInt ≤ 999) ∧ ((r.toInt = 1 ∧ zW kz nz xz (zwl 2) ∧ ∃ c : Nat, zsh kz nz (zty kz nz xz) (I p0 1).toInt c ∧ (I' p0 2).toInt = (c : Int) ∧ (I' x0 7).toInt = (ztp kz (zit kz nz c (zty kz nz xz)) : Int) ∧ (I' x0 8).toInt = (zty kz nz (zit kz nz c (zty kz nz xz)) : Int) ∧ (I' x0 6).toInt = zso kz nz (ztp kz (zit kz nz c (zty kz nz xz)))) ∨ (r.toInt = 0 ∧ ∀ c : Nat, ¬ (zW kz nz xz (zwl 2) ∧ zsh kz nz (zty kz nz xz) (I p0 1).toInt c))) ∧ (∀ a : Nat, a ∈ L → K a = 2 → ¬ a = p0 → ∀ j : Nat, I' a j = I a j))) args s 0 0 (va_A (cW cA L K I O) sz)) (F0 m 15 ls []) := by
    intro n_15
    induction n_15 with
    | zero => intro H locs ls Lc_15 Kc_15 Ic_15 Oc_15 le i f15_0 f15_1 f15_2 f15_3 f15_4 f15_5 f15_6 f15_7 f15_8 f15_9 f15_10 hn hM hl; exact False.elim (by omega)
    | succ n_15 ih_15 =>
      intro H locs ls Lc_15 Kc_15 Ic_15 Oc_15 le i f15_0 f15_1 f15_2 f15_3 f15_4 f15_5 f15_6 f15_7 f15_8 f15_9 f15_10 hn hM hl
      have hfr_15 := hM.2.2.2.2
      have m_1 := (hfr_15 x0 mx0 (fun z => by cases z)).1
      have k_1 : Kc_15 x0 = 4 := (hfr_15 x0 mx0 (fun z => by cases z)).2.1.trans kx0
      have m_2 := (hfr_15 p0 mp0 (fun z => by cases z)).1
      have k_2 : Kc_15 p0 = 2 := (hfr_15 p0 mp0 (fun z => by cases z)).2.1.trans kp0
      refine lv_iload_n hx hb dX4_readShootings_15 rfl (lv_at hl 3 rfl) ?_
      refine lv_iconst (v := 4) hx hb dX4_readShootings_16 (by decide) ?_
      refine mm_icmp_ge (X := i.toInt) (Y := 4) (tgt := 71) hx hb dX4_readShootings_17 (by decide) rfl num_4 (fun c_3 => ?_) (fun c_3 => ?_)
      · refine lv_aload_n hx hb dX4_readShootings_71 rfl (lv_at hl 0 rfl) ?_
        have b_4 : 0 ≤ (Ic_15 x0 6).toInt ∧ (Ic_15 x0 6).toInt ≤ 4 := hM.ib m_1 k_1 6 rfl
        refine cr_get (κ := 4) (ci := 4) (k := 6) (C := RX4) (T := TX4) (N := 10) (fs := cfs 4) (v := .int (Ic_15 x0 6)) E hM m_1 k_1 (fun _ _ => rfl) rfl hin4 (by decide) (index := 37) (mm_at 1 rfl) rfl rfl dX4_readShootings_72 ?_
        refine lv_iconst (v := 2) hx hb dX4_readShootings_75 (by decide) ?_
        refine mm_icmp_ne (X := (Ic_15 x0 6).toInt) (Y := 2) (tgt := 87) hx hb dX4_readShootings_76 (by decide) rfl num_2 (fun c_5 => ?_) (fun c_5 => ?_)
        · refine lv_iconst (v := 1) hx hb dX4_readShootings_87 (by decide) ?_
          refine lv_goto (tgt := 92) hx hb dX4_readShootings_88 (by decide) ?_
          have b_6 : 0 ≤ (Ic_15 x0 7).toInt ∧ (Ic_15 x0 7).toInt ≤ 1000 := hM.ib m_1 k_1 7 rfl
          have b_7 : 0 ≤ (Ic_15 x0 8).toInt ∧ (Ic_15 x0 8).toInt ≤ 1000 := hM.ib m_1 k_1 8 rfl
          exact cr_rz (mc := 0) (ms := 0) (X := 1) E hr hlk hsz hM ⟨show (0 : Nat) ≤ 0 from by omega, show (0 : Nat) ≤ 0 from by omega⟩ num_1 (by omega) (show ((Ic_15 x0 6).toInt = 0 ∨ (Ic_15 x0 7).toInt ≤ 999) ∧ (((1 : Int32).toInt = 1 ∧ zW kz nz xz (zwl 2) ∧ ∃ c : Nat, zsh kz nz (zty kz nz xz) (I p0 1).toInt c ∧ (Ic_15 p0 2).toInt = (c : Int) ∧ (Ic_15 x0 7).toInt = (ztp kz (zit kz nz c (zty kz nz xz)) : Int) ∧ (Ic_15 x0 8).toInt = (zty kz nz (zit kz nz c (zty kz nz xz)) : Int) ∧ (Ic_15 x0 6).toInt = zso kz nz (ztp kz (zit kz nz c (zty kz nz xz)))) ∨ ((1 : Int32).toInt = 0 ∧ ∀ c : Nat, ¬ (zW kz nz xz (zwl 2) ∧ zsh kz nz (zty kz nz xz) (I p0 1).toInt c))) ∧ (∀ a : Nat, a ∈ L → K a = 2 → ¬ a = p0 → ∀ j : Nat, Ic_15 a j = I a j) from by have n9 := num_1; exact ⟨by omega, Or.inl ⟨by omega, f15_10, Int32.toNatClampNeg i, ⟨by rw [mm_nat]; omega, by rw [mm_nat]; omega, f15_5, by omega⟩, by rw [mm_nat]; omega, by omega, by omega, by omega⟩, fun a ha ka na j => (by have t1_ := hfr_15 a ha (fun z => by cases z); have k1_ := t1_.2.1.trans ka; have m1_ := t1_.1; exact (f15_9 a ha ka na j))⟩) dX4_readShootings_92
        · refine lv_aload_n hx hb dX4_readShootings_79 rfl (lv_at hl 0 rfl) ?_
          refine lv_iconst (v := 2) hx hb dX4_readShootings_80 (by decide) ?_
          refine cc_Vi (vs := [.int 2]) (rest := []) (b := x0) (κ := 4) E hV rfl hA hml hM m_1 k_1 rfl rfl (h4_X4_fail l D cA ad av Lc_15 Kc_15 Ic_15 Oc_15 _ x0 2 hM.2.2.2.1 m_1 k_1) (cwV 1 hts gz_X4_readShootings_X4_fail_8 rfl rfl rfl (by decide +kernel) ⟨Nat.le_of_ble_eq_true rfl, Nat.le_of_ble_eq_true rfl⟩) rfl hl.1 rfl (Nat.le_of_ble_eq_true rfl) dX4_readShootings_81 ⟨show (0 + 0 : Nat) ≤ 0 from by omega, show (0 + 0 : Nat) ≤ 0 from by omega⟩ (fun _ h => by cases h) (by decide) (by decide) (fun r_9 L_11 K_11 I_11 O_11 H locs fr_11 p_10 hM => ?_)
          have m_12 := (fr_11 x0 m_1 (fun z => by cases z)).1
          have k_12 : K_11 x0 = 4 := (fr_11 x0 m_1 (fun z => by cases z)).2.1.trans k_1
          have m_13 := (fr_11 p0 m_2 (fun z => by cases z)).1
          have k_13 : K_11 p0 = 2 := (fr_11 p0 m_2 (fun z => by cases z)).2.1.trans k_2
          replace p_10 : r_9.toInt = 0 := p_10
          refine mm_if_eq (X := r_9.toInt) (tgt := 91) hx hb dX4_readShootings_84 (by decide) rfl (fun c_14 => ?_) (fun c_14 => False.elim (by omega))
          refine lv_iconst (v := 0) hx hb dX4_readShootings_91 (by decide) ?_
          have b_15 : 0 ≤ (I_11 x0 6).toInt ∧ (I_11 x0 6).toInt ≤ 4 := hM.ib m_12 k_12 6 rfl
          have e_16 : (I_11 x0 6).toInt = (Ic_15 x0 6).toInt := congrArg Int32.toInt ((fr_11 x0 m_1 (fun z => by cases z)).2.2.1 6 (by rw [k_1]; rfl))
          have b_17 : 0 ≤ (I_11 x0 7).toInt ∧ (I_11 x0 7).toInt ≤ 1000 := hM.ib m_12 k_12 7 rfl
          have e_18 : (I_11 x0 7).toInt = (Ic_15 x0 7).toInt := congrArg Int32.toInt ((fr_11 x0 m_1 (fun z => by cases z)).2.2.1 7 (by rw [k_1]; rfl))
          have e_19 : (I_11 p0 2).toInt = (Ic_15 p0 2).toInt := congrArg Int32.toInt ((fr_11 p0 m_2 (fun z => by cases z)).2.2.1 2 (by rw [k_2]; rfl))
          have b_20 : 0 ≤ (I_11 x0 8).toInt ∧ (I_11 x0 8).toInt ≤ 1000 := hM.ib m_12 k_12 8 rfl
          have e_21 : (I_11 x0 8).toInt = (Ic_15 x0 8).toInt := congrArg Int32.toInt ((fr_11 x0 m_1 (fun z => by cases z)).2.2.1 8 (by rw [k_1]; rfl))
          exact cr_rz (mc := 0) (ms := 0) (X := 0) E hr hlk hsz hM ⟨show (0 : Nat) ≤ 0 from by omega, show (0 : Nat) ≤ 0 from by omega⟩ num_0 (by omega) (show ((I_11 x0 6).toInt = 0 ∨ (I_11 x0 7).toInt ≤ 999) ∧ (((0 : Int32).toInt = 1 ∧ zW kz nz xz (zwl 2) ∧ ∃ c : Nat, zsh kz nz (zty kz nz xz) (I p0 1).toInt c ∧ (I_11 p0 2).toInt = (c : Int) ∧ (I_11 x0 7).toInt = (ztp kz (zit kz nz c (zty kz nz xz)) : Int) ∧ (I_11 x0 8).toInt = (zty kz nz (zit kz nz c (zty kz nz xz)) : Int) ∧ (I_11 x0 6).toInt = zso kz nz (ztp kz (zit kz nz c (zty kz nz xz)))) ∨ ((0 : Int32).toInt = 0 ∧ ∀ c : Nat, ¬ (zW kz nz xz (zwl 2) ∧ zsh kz nz (zty kz nz xz) (I p0 1).toInt c))) ∧ (∀ a : Nat, a ∈ L → K a = 2 → ¬ a = p0 → ∀ j : Nat, I_11 a j = I a j) from by have n9 := num_0; exact ⟨by omega, Or.inr ⟨by omega, fun c h => zsh_not4 (by rw [← (show Int32.toNatClampNeg i = 4 from by rw [mm_nat]; omega)]; exact f15_5) (by rw [← (show Int32.toNatClampNeg i = 4 from by rw [mm_nat]; omega)]; omega) c h.2⟩, fun a ha ka na j => (by have t1_ := hfr_15 a ha (fun z => by cases z); have k1_ := t1_.2.1.trans ka; have m1_ := t1_.1; have t2_ := fr_11 a m1_ (fun z => by cases z); have k2_ := t2_.2.1.trans k1_; have m2_ := t2_.1; exact ((t2_.2.2.1 j (by rw [k1_]; rfl)).trans (f15_9 a ha ka na j)))⟩) dX4_readShootings_92
      · refine lv_iload_n hx hb dX4_readShootings_20 rfl (lv_at hl 3 rfl) ?_
        refine mm_if_eq (X := i.toInt) (tgt := 32) hx hb dX4_readShootings_21 (by decide) rfl (fun c_22 => ?_) (fun c_22 => ?_)
        · refine lv_aload_n hx hb dX4_readShootings_32 rfl (lv_at hl 0 rfl) ?_
          refine lv_iload_n hx hb dX4_readShootings_33 rfl (lv_at hl 2 rfl) ?_
          refine lv_aload_n hx hb dX4_readShootings_34 rfl (lv_at hl 1 rfl) ?_
          have e_23 : (Ic_15 p0 1).toInt = (I p0 1).toInt := congrArg Int32.toInt ((hfr_15 p0 mp0 (fun z => by cases z)).2.2.1 1 (by rw [kp0]; rfl))
          refine cr_get (κ := 2) (ci := 2) (k := 1) (C := RX2) (T := TX2) (N := 8) (fs := cfs 2) (v := .int (Ic_15 p0 1)) E hM m_2 k_2 (fun _ _ => rfl) rfl hin2 (by decide) (index := 92) (mm_at 10 rfl) rfl rfl dX4_readShootings_35 ?_
          refine lv_iconst (v := 1) hx hb dX4_readShootings_38 (by decide) ?_
          refine mm_isub (X := (Ic_15 p0 1).toInt) (Y := 1) hx hb dX4_readShootings_39 rfl num_1 (by omega) (fun z_24 hz_24 => ?_)
          have b_26 : 0 ≤ (Ic_15 x0 7).toInt ∧ (Ic_15 x0 7).toInt ≤ 1000 := hM.ib m_1 k_1 7 rfl
          have b_27 : 0 ≤ (Ic_15 x0 8).toInt ∧ (Ic_15 x0 8).toInt ≤ 1000 := hM.ib m_1 k_1 8 rfl
          have b_28 : 0 ≤ (Ic_15 x0 6).toInt ∧ (Ic_15 x0 6).toInt ≤ 4 := hM.ib m_1 k_1 6 rfl
          refine cc_Vi (vs := [.int le, .int z_24]) (rest := []) (b := x0) (κ := 4) E hV rfl hA hml hM m_1 k_1 rfl rfl (h5_X4_readNumber l D cA ad av Lc_15 Kc_15 Ic_15 Oc_15 _ x0 le z_24 hM.2.2.2.1 m_1 k_1 kz nz (zit kz nz (Int32.toNatClampNeg i) (zty kz nz xz)) (zTx_fr htx hI mx0 kx0 hM.2.2.2.2 rfl rfl rfl) (show (Ic_15 x0 7).toInt = (ztp kz (zit kz nz (Int32.toNatClampNeg i) (zty kz nz xz)) : Int) ∧ (Ic_15 x0 8).toInt = (zty kz nz (zit kz nz (Int32.toNatClampNeg i) (zty kz nz xz)) : Int) ∧ (Ic_15 x0 6).toInt = zso kz nz (ztp kz (zit kz nz (Int32.toNatClampNeg i) (zty kz nz xz))) from ⟨by omega, by omega, by omega⟩) (show (Ic_15 x0 6).toInt = 0 ∨ (Ic_15 x0 7).toInt ≤ 999 from by omega) (show 0 ≤ le.toInt ∧ le.toInt ≤ 100000 from by omega) (show z_24.toInt ≤ 99999 from by omega)) (cwV 2 hts gz_X4_readShootings_X4_readNumber_25 rfl rfl rfl (by decide +kernel) ⟨Nat.le_of_ble_eq_true rfl, Nat.le_of_ble_eq_true rfl⟩) rfl hl.1 rfl (Nat.le_of_ble_eq_true rfl) dX4_readShootings_40 ⟨show (0 + 0 : Nat) ≤ 0 from by omega, show (0 + 0 : Nat) ≤ 0 from by omega⟩ (fun _ h => by cases h) (by decide) (by decide) (fun r_29 L_31 K_31 I_31 O_31 H locs fr_31 p_30 hM => ?_)
          have m_32 := (fr_31 x0 m_1 (fun z => by cases z)).1
          have k_32 : K_31 x0 = 4 := (fr_31 x0 m_1 (fun z => by cases z)).2.1.trans k_1
          have m_33 := (fr_31 p0 m_2 (fun z => by cases z)).1
          have k_33 : K_31 p0 = 2 := (fr_31 p0 m_2 (fun z => by cases z)).2.1.trans k_2
          replace p_30 : ((I_31 x0 6).toInt = 0 ∨ (I_31 x0 7).toInt ≤ 999) ∧ ((r_29.toInt = 1 ∧ zN kz nz (zit kz nz (Int32.toNatClampNeg i) (zty kz nz xz)) le.toInt z_24.toInt (I_31 x0 9).toInt ∧ (I_31 x0 7).toInt = (ztp kz (zty kz nz (zit kz nz (Int32.toNatClampNeg i) (zty kz nz xz))) : Int) ∧ (I_31 x0 8).toInt = (zty kz nz (zty kz nz (zit kz nz (Int32.toNatClampNeg i) (zty kz nz xz))) : Int) ∧ (I_31 x0 6).toInt = zso kz nz (ztp kz (zty kz nz (zit kz nz (Int32.toNatClampNeg i) (zty kz nz xz))))) ∨ (r_29.toInt = 0 ∧ ∀ v : Int, ¬ zN kz nz (zit kz nz (Int32.toNatClampNeg i) (zty kz nz xz)) le.toInt z_24.toInt v)) := p_30
          rcases p_30 with ⟨hrp_34, ⟨hr_34, w_34, a1_34, a2_34, a3_34⟩ | ⟨hr_34, w_34⟩⟩
          · have hn1_34 := w_34.2.1
            have hn2_34 := w_34.2.2.1
            refine mm_if_ne (X := r_29.toInt) (tgt := 48) hx hb dX4_readShootings_43 (by decide) rfl (fun c_35 => ?_) (fun c_35 => False.elim (by omega))
            refine lv_aload_n hx hb dX4_readShootings_48 rfl (lv_at hl 0 rfl) ?_
            refine cr_get (κ := 4) (ci := 4) (k := 9) (C := RX4) (T := TX4) (N := 10) (fs := cfs 4) (v := .int (I_31 x0 9)) E hM m_32 k_32 (fun _ _ => rfl) rfl hin4 (by decide) (index := 89) (mm_at 16 rfl) rfl rfl dX4_readShootings_49 ?_
            refine lv_iconst (v := 1) hx hb dX4_readShootings_52 (by decide) ?_
            refine mm_iadd (X := (I_31 x0 9).toInt) (Y := 1) hx hb dX4_readShootings_53 rfl num_1 (by omega) (fun z_36 hz_36 => ?_)
            refine lv_istore_n (lv' := [(2, .int z_36), (0, .ref x0), (1, .ref p0), (3, .int i)]) hx hb dX4_readShootings_54 rfl hl (by decide) rfl (fun ls hl => ?_)
            refine lv_aload_n hx hb dX4_readShootings_55 rfl (lv_at hl 2 rfl) ?_
            refine lv_dup hx hb dX4_readShootings_56 rfl ?_
            have e_37 : (I_31 p0 2).toInt = (Ic_15 p0 2).toInt := congrArg Int32.toInt ((fr_31 p0 m_2 (fun z => by cases z)).2.2.1 2 (by rw [k_2]; rfl))
            refine cr_get (κ := 2) (ci := 2) (k := 2) (C := RX2) (T := TX2) (N := 8) (fs := cfs 2) (v := .int (I_31 p0 2)) E hM m_33 k_33 (fun _ _ => rfl) rfl hin2 (by decide) (index := 96) (mm_at 32 rfl) rfl rfl dX4_readShootings_57 ?_
            refine lv_iconst (v := 1) hx hb dX4_readShootings_60 (by decide) ?_
            refine mm_iadd (X := (I_31 p0 2).toInt) (Y := 1) hx hb dX4_readShootings_61 rfl num_1 (by omega) (fun z_38 hz_38 => ?_)
            refine cr_puti (κ := 2) (ci := 2) (k := 2) (C := RX2) (T := TX2) (N := 8) (fs := cfs 2) (ty := .int) (v := z_38) E hM m_33 k_33 (fun _ _ => rfl) rfl hin2 tyX2 tyX2_ok nmX2 (by decide) (index := 96) (mm_at 32 rfl) rfl (Or.inl rfl) (by decide +kernel) rfl rfl (show (2 : Nat) < 8 from by decide) (fun _ _ _ => rfl) (cz_nb rfl) (cS_upd (hM.sp m_33 k_33) (by decide) (by decide)) (Or.inr (Or.inr rfl)) dX4_readShootings_62 (fun H locs I_39 eI_39 hM => ?_)
            refine mm_iinc (X := i.toInt) (v := 1) (lv2 := fun z => [(3, .int z), (2, .int z_36), (0, .ref x0), (1, .ref p0)]) hx hb dX4_readShootings_65 hl (k := 3) rfl rfl (by decide) num_1 (by omega) (by decide) (fun _ => rfl) (fun z_40 ls hz_40 hl => ?_)
            have hl : lv_has ls 4 [(3, .int z_40), (2, .int z_36), (0, .ref x0), (1, .ref p0)] := hl
            refine lv_goto (tgt := 15) hx hb dX4_readShootings_68 (by decide) ?_
            have b_41 : 0 ≤ (I_39 x0 6).toInt ∧ (I_39 x0 6).toInt ≤ 4 := hM.ib m_32 k_32 6 rfl
            have e_42 : (I_39 x0 6).toInt = (I_31 x0 6).toInt := congrArg Int32.toInt (cu_k eI_39 (by decide))
            have b_43 : 0 ≤ (I_39 x0 7).toInt ∧ (I_39 x0 7).toInt ≤ 1000 := hM.ib m_32 k_32 7 rfl
            have e_44 : (I_39 x0 7).toInt = (I_31 x0 7).toInt := congrArg Int32.toInt (cu_k eI_39 (by decide))
            have b_45 : 0 ≤ (I_39 x0 8).toInt ∧ (I_39 x0 8).toInt ≤ 1000 := hM.ib m_32 k_32 8 rfl
            have e_46 : (I_39 x0 8).toInt = (I_31 x0 8).toInt := congrArg Int32.toInt (cu_k eI_39 (by decide))
            have e_47 : (I_39 p0 2).toInt = z_38.toInt := (congrArg Int32.toInt (cu_s eI_39)).trans rfl
            exact ih_15 _ _ _ L_31 K_31 I_39 O_31 z_36 z_40    (show (0 ≤ z_40.toInt ∧ z_40.toInt ≤ 4) from by omega) (show (I_39 x0 6).toInt = 0 ∨ (I_39 x0 7).toInt ≤ 999 from by omega) (show (I_39 x0 7).toInt = (ztp kz (zit kz nz (Int32.toNatClampNeg z_40) (zty kz nz xz)) : Int) from by rw [show Int32.toNatClampNeg z_40 = Int32.toNatClampNeg i + 1 from by simp only [mm_nat]; omega]; simp only [zit]; omega) (show (I_39 x0 8).toInt = (zty kz nz (zit kz nz (Int32.toNatClampNeg z_40) (zty kz nz xz)) : Int) from by rw [show Int32.toNatClampNeg z_40 = Int32.toNatClampNeg i + 1 from by simp only [mm_nat]; omega]; simp only [zit]; omega) (show (I_39 x0 6).toInt = zso kz nz (ztp kz (zit kz nz (Int32.toNatClampNeg z_40) (zty kz nz xz))) from by rw [show Int32.toNatClampNeg z_40 = Int32.toNatClampNeg i + 1 from by simp only [mm_nat]; omega]; simp only [zit]; omega) (show zshp kz nz (zty kz nz xz) (I p0 1).toInt (Int32.toNatClampNeg z_40) from by rw [show Int32.toNatClampNeg z_40 = Int32.toNatClampNeg i + 1 from by simp only [mm_nat]; omega]; exact zshp_s f15_5 (zsh1_of w_34 (by rw [mm_nat]; omega) (by omega))) (show (z_40.toInt = 0 ∧ z_36.toInt = 1) ∨ (1 ≤ z_40.toInt ∧ z_36.toInt = (zV kz nz (zit kz nz (z_40.toInt.toNat - 1) (zty kz nz xz)) : Int) + 1) from by have hv := w_34.2.2.2; rw [show z_40.toInt.toNat - 1 = Int32.toNatClampNeg i from by rw [mm_nat]; omega]; omega) (show z_36.toInt ≤ (I p0 1).toInt from by omega) (show (I_39 p0 2).toInt = z_40.toInt from by omega) (show (∀ a : Nat, a ∈ L → K a = 2 → ¬ a = p0 → ∀ j : Nat, I_39 a j = I a j) from by exact fun a ha ka na j => (by have t1_ := hfr_15 a ha (fun z => by cases z); have k1_ := t1_.2.1.trans ka; have m1_ := t1_.1; have t2_ := fr_31 a m1_ (fun z => by cases z); have k2_ := t2_.2.1.trans k1_; have m2_ := t2_.1; exact ((congrFun (cu_a eI_39 na) j).trans ((t2_.2.2.1 j (by rw [k1_]; rfl)).trans (f15_9 a ha ka na j))))) (show zW kz nz xz (zwl 2) from by exact f15_10) (show (4 - z_40.toInt) < ((n_15 : Nat) : Int) from by omega) hM (lv_sub hl [2, 3, 1, 0] rfl)
          · refine mm_if_ne (X := r_29.toInt) (tgt := 48) hx hb dX4_readShootings_43 (by decide) rfl (fun c_48 => False.elim (by omega)) (fun c_48 => ?_)
            refine lv_iconst (v := 0) hx hb dX4_readShootings_46 (by decide) ?_
            have b_49 : 0 ≤ (I_31 x0 6).toInt ∧ (I_31 x0 6).toInt ≤ 4 := hM.ib m_32 k_32 6 rfl
            have b_50 : 0 ≤ (I_31 x0 7).toInt ∧ (I_31 x0 7).toInt ≤ 1000 := hM.ib m_32 k_32 7 rfl
            have e_51 : (I_31 p0 2).toInt = (Ic_15 p0 2).toInt := congrArg Int32.toInt ((fr_31 p0 m_2 (fun z => by cases z)).2.2.1 2 (by rw [k_2]; rfl))
            have b_52 : 0 ≤ (I_31 x0 8).toInt ∧ (I_31 x0 8).toInt ≤ 1000 := hM.ib m_32 k_32 8 rfl
            exact cr_rz (mc := 0) (ms := 0) (X := 0) E hr hlk hsz hM ⟨show (0 : Nat) ≤ 0 from by omega, show (0 : Nat) ≤ 0 from by omega⟩ num_0 (by omega) (show ((I_31 x0 6).toInt = 0 ∨ (I_31 x0 7).toInt ≤ 999) ∧ (((0 : Int32).toInt = 1 ∧ zW kz nz xz (zwl 2) ∧ ∃ c : Nat, zsh kz nz (zty kz nz xz) (I p0 1).toInt c ∧ (I_31 p0 2).toInt = (c : Int) ∧ (I_31 x0 7).toInt = (ztp kz (zit kz nz c (zty kz nz xz)) : Int) ∧ (I_31 x0 8).toInt = (zty kz nz (zit kz nz c (zty kz nz xz)) : Int) ∧ (I_31 x0 6).toInt = zso kz nz (ztp kz (zit kz nz c (zty kz nz xz)))) ∨ ((0 : Int32).toInt = 0 ∧ ∀ c : Nat, ¬ (zW kz nz xz (zwl 2) ∧ zsh kz nz (zty kz nz xz) (I p0 1).toInt c))) ∧ (∀ a : Nat, a ∈ L → K a = 2 → ¬ a = p0 → ∀ j : Nat, I_31 a j = I a j) from by have n9 := num_0; exact ⟨by omega, Or.inr ⟨by omega, fun c h => zsh_not f15_5 (fun q => w_34 _ (zsh1_to q (by rw [mm_nat]; omega) (by omega))) (by have hq9 : Int32.toNatClampNeg i = i.toInt.toNat := rfl; omega) c h.2⟩, fun a ha ka na j => (by have t1_ := hfr_15 a ha (fun z => by cases z); have k1_ := t1_.2.1.trans ka; have m1_ := t1_.1; have t2_ := fr_31 a m1_ (fun z => by cases z); have k2_ := t2_.2.1.trans k1_; have m2_ := t2_.1; exact ((t2_.2.2.1 j (by rw [k1_]; rfl)).trans (f15_9 a ha ka na j)))⟩) dX4_readShootings_47
        · refine lv_aload_n hx hb dX4_readShootings_24 rfl (lv_at hl 0 rfl) ?_
          have b_53 : 0 ≤ (Ic_15 x0 6).toInt ∧ (Ic_15 x0 6).toInt ≤ 4 := hM.ib m_1 k_1 6 rfl
          refine cr_get (κ := 4) (ci := 4) (k := 6) (C := RX4) (T := TX4) (N := 10) (fs := cfs 4) (v := .int (Ic_15 x0 6)) E hM m_1 k_1 (fun _ _ => rfl) rfl hin4 (by decide) (index := 37) (mm_at 1 rfl) rfl rfl dX4_readShootings_25 ?_
          refine lv_iconst (v := 2) hx hb dX4_readShootings_28 (by decide) ?_
          refine mm_icmp_ne (X := (Ic_15 x0 6).toInt) (Y := 2) (tgt := 71) hx hb dX4_readShootings_29 (by decide) rfl num_2 (fun c_54 => ?_) (fun c_54 => ?_)
          · refine lv_aload_n hx hb dX4_readShootings_71 rfl (lv_at hl 0 rfl) ?_
            refine cr_get (κ := 4) (ci := 4) (k := 6) (C := RX4) (T := TX4) (N := 10) (fs := cfs 4) (v := .int (Ic_15 x0 6)) E hM m_1 k_1 (fun _ _ => rfl) rfl hin4 (by decide) (index := 37) (mm_at 1 rfl) rfl rfl dX4_readShootings_72 ?_
            refine lv_iconst (v := 2) hx hb dX4_readShootings_75 (by decide) ?_
            refine mm_icmp_ne (X := (Ic_15 x0 6).toInt) (Y := 2) (tgt := 87) hx hb dX4_readShootings_76 (by decide) rfl num_2 (fun c_55 => ?_) (fun c_55 => ?_)
            · refine lv_iconst (v := 1) hx hb dX4_readShootings_87 (by decide) ?_
              refine lv_goto (tgt := 92) hx hb dX4_readShootings_88 (by decide) ?_
              have b_56 : 0 ≤ (Ic_15 x0 7).toInt ∧ (Ic_15 x0 7).toInt ≤ 1000 := hM.ib m_1 k_1 7 rfl
              have b_57 : 0 ≤ (Ic_15 x0 8).toInt ∧ (Ic_15 x0 8).toInt ≤ 1000 := hM.ib m_1 k_1 8 rfl
              exact cr_rz (mc := 0) (ms := 0) (X := 1) E hr hlk hsz hM ⟨show (0 : Nat) ≤ 0 from by omega, show (0 : Nat) ≤ 0 from by omega⟩ num_1 (by omega) (show ((Ic_15 x0 6).toInt = 0 ∨ (Ic_15 x0 7).toInt ≤ 999) ∧ (((1 : Int32).toInt = 1 ∧ zW kz nz xz (zwl 2) ∧ ∃ c : Nat, zsh kz nz (zty kz nz xz) (I p0 1).toInt c ∧ (Ic_15 p0 2).toInt = (c : Int) ∧ (Ic_15 x0 7).toInt = (ztp kz (zit kz nz c (zty kz nz xz)) : Int) ∧ (Ic_15 x0 8).toInt = (zty kz nz (zit kz nz c (zty kz nz xz)) : Int) ∧ (Ic_15 x0 6).toInt = zso kz nz (ztp kz (zit kz nz c (zty kz nz xz)))) ∨ ((1 : Int32).toInt = 0 ∧ ∀ c : Nat, ¬ (zW kz nz xz (zwl 2) ∧ zsh kz nz (zty kz nz xz) (I p0 1).toInt c))) ∧ (∀ a : Nat, a ∈ L → K a = 2 → ¬ a = p0 → ∀ j : Nat, Ic_15 a j = I a j) from by have n9 := num_1; exact ⟨by omega, Or.inl ⟨by omega, f15_10, Int32.toNatClampNeg i, ⟨by rw [mm_nat]; omega, by rw [mm_nat]; omega, f15_5, by omega⟩, by rw [mm_nat]; omega, by omega, by omega, by omega⟩, fun a ha ka na j => (by have t1_ := hfr_15 a ha (fun z => by cases z); have k1_ := t1_.2.1.trans ka; have m1_ := t1_.1; exact (f15_9 a ha ka na j))⟩) dX4_readShootings_92
            · refine lv_aload_n hx hb dX4_readShootings_79 rfl (lv_at hl 0 rfl) ?_
              refine lv_iconst (v := 2) hx hb dX4_readShootings_80 (by decide) ?_
              refine cc_Vi (vs := [.int 2]) (rest := []) (b := x0) (κ := 4) E hV rfl hA hml hM m_1 k_1 rfl rfl (h4_X4_fail l D cA ad av Lc_15 Kc_15 Ic_15 Oc_15 _ x0 2 hM.2.2.2.1 m_1 k_1) (cwV 1 hts gz_X4_readShootings_X4_fail_58 rfl rfl rfl (by decide +kernel) ⟨Nat.le_of_ble_eq_true rfl, Nat.le_of_ble_eq_true rfl⟩) rfl hl.1 rfl (Nat.le_of_ble_eq_true rfl) dX4_readShootings_81 ⟨show (0 + 0 : Nat) ≤ 0 from by omega, show (0 + 0 : Nat) ≤ 0 from by omega⟩ (fun _ h => by cases h) (by decide) (by decide) (fun r_59 L_61 K_61 I_61 O_61 H locs fr_61 p_60 hM => ?_)
              have m_62 := (fr_61 x0 m_1 (fun z => by cases z)).1
              have k_62 : K_61 x0 = 4 := (fr_61 x0 m_1 (fun z => by cases z)).2.1.trans k_1
              have m_63 := (fr_61 p0 m_2 (fun z => by cases z)).1
              have k_63 : K_61 p0 = 2 := (fr_61 p0 m_2 (fun z => by cases z)).2.1.trans k_2
              replace p_60 : r_59.toInt = 0 := p_60
              refine mm_if_eq (X := r_59.toInt) (tgt := 91) hx hb dX4_readShootings_84 (by decide) rfl (fun c_64 => ?_) (fun c_64 => False.elim (by omega))
              refine lv_iconst (v := 0) hx hb dX4_readShootings_91 (by decide) ?_
              have b_65 : 0 ≤ (I_61 x0 6).toInt ∧ (I_61 x0 6).toInt ≤ 4 := hM.ib m_62 k_62 6 rfl
              have e_66 : (I_61 x0 6).toInt = (Ic_15 x0 6).toInt := congrArg Int32.toInt ((fr_61 x0 m_1 (fun z => by cases z)).2.2.1 6 (by rw [k_1]; rfl))
              have b_67 : 0 ≤ (I_61 x0 7).toInt ∧ (I_61 x0 7).toInt ≤ 1000 := hM.ib m_62 k_62 7 rfl
              have e_68 : (I_61 x0 7).toInt = (Ic_15 x0 7).toInt := congrArg Int32.toInt ((fr_61 x0 m_1 (fun z => by cases z)).2.2.1 7 (by rw [k_1]; rfl))
              have e_69 : (I_61 p0 2).toInt = (Ic_15 p0 2).toInt := congrArg Int32.toInt ((fr_61 p0 m_2 (fun z => by cases z)).2.2.1 2 (by rw [k_2]; rfl))
              have b_70 : 0 ≤ (I_61 x0 8).toInt ∧ (I_61 x0 8).toInt ≤ 1000 := hM.ib m_62 k_62 8 rfl
              have e_71 : (I_61 x0 8).toInt = (Ic_15 x0 8).toInt := congrArg Int32.toInt ((fr_61 x0 m_1 (fun z => by cases z)).2.2.1 8 (by rw [k_1]; rfl))
              exact cr_rz (mc := 0) (ms := 0) (X := 0) E hr hlk hsz hM ⟨show (0 : Nat) ≤ 0 from by omega, show (0 : Nat) ≤ 0 from by omega⟩ num_0 (by omega) (show ((I_61 x0 6).toInt = 0 ∨ (I_61 x0 7).toInt ≤ 999) ∧ (((0 : Int32).toInt = 1 ∧ zW kz nz xz (zwl 2) ∧ ∃ c : Nat, zsh kz nz (zty kz nz xz) (I p0 1).toInt c ∧ (I_61 p0 2).toInt = (c : Int) ∧ (I_61 x0 7).toInt = (ztp kz (zit kz nz c (zty kz nz xz)) : Int) ∧ (I_61 x0 8).toInt = (zty kz nz (zit kz nz c (zty kz nz xz)) : Int) ∧ (I_61 x0 6).toInt = zso kz nz (ztp kz (zit kz nz c (zty kz nz xz)))) ∨ ((0 : Int32).toInt = 0 ∧ ∀ c : Nat, ¬ (zW kz nz xz (zwl 2) ∧ zsh kz nz (zty kz nz xz) (I p0 1).toInt c))) ∧ (∀ a : Nat, a ∈ L → K a = 2 → ¬ a = p0 → ∀ j : Nat, I_61 a j = I a j) from by have n9 := num_0; exact ⟨by omega, Or.inr ⟨by omega, fun c h => zsh_not4 (by rw [← (show Int32.toNatClampNeg i = 4 from by rw [mm_nat]; omega)]; exact f15_5) (by rw [← (show Int32.toNatClampNeg i = 4 from by rw [mm_nat]; omega)]; omega) c h.2⟩, fun a ha ka na j => (by have t1_ := hfr_15 a ha (fun z => by cases z); have k1_ := t1_.2.1.trans ka; have m1_ := t1_.1; have t2_ := fr_61 a m1_ (fun z => by cases z); have k2_ := t2_.2.1.trans k1_; have m2_ := t2_.1; exact ((t2_.2.2.1 j (by rw [k1_]; rfl)).trans (f15_9 a ha ka na j)))⟩) dX4_readShootings_92
          · refine lv_aload_n hx hb dX4_readShootings_32 rfl (lv_at hl 0 rfl) ?_
            refine lv_iload_n hx hb dX4_readShootings_33 rfl (lv_at hl 2 rfl) ?_
            refine lv_aload_n hx hb dX4_readShootings_34 rfl (lv_at hl 1 rfl) ?_
            have e_72 : (Ic_15 p0 1).toInt = (I p0 1).toInt := congrArg Int32.toInt ((hfr_15 p0 mp0 (fun z => by cases z)).2.2.1 1 (by rw [kp0]; rfl))
            refine cr_get (κ := 2) (ci := 2) (k := 1) (C := RX2) (T := TX2) (N := 8) (fs := cfs 2) (v := .int (Ic_15 p0 1)) E hM m_2 k_2 (fun _ _ => rfl) rfl hin2 (by decide) (index := 92) (mm_at 10 rfl) rfl rfl dX4_readShootings_35 ?_
            refine lv_iconst (v := 1) hx hb dX4_readShootings_38 (by decide) ?_
            refine mm_isub (X := (Ic_15 p0 1).toInt) (Y := 1) hx hb dX4_readShootings_39 rfl num_1 (by omega) (fun z_73 hz_73 => ?_)
            have b_75 : 0 ≤ (Ic_15 x0 7).toInt ∧ (Ic_15 x0 7).toInt ≤ 1000 := hM.ib m_1 k_1 7 rfl
            have b_76 : 0 ≤ (Ic_15 x0 8).toInt ∧ (Ic_15 x0 8).toInt ≤ 1000 := hM.ib m_1 k_1 8 rfl
            refine cc_Vi (vs := [.int le, .int z_73]) (rest := []) (b := x0) (κ := 4) E hV rfl hA hml hM m_1 k_1 rfl rfl (h5_X4_readNumber l D cA ad av Lc_15 Kc_15 Ic_15 Oc_15 _ x0 le z_73 hM.2.2.2.1 m_1 k_1 kz nz (zit kz nz (Int32.toNatClampNeg i) (zty kz nz xz)) (zTx_fr htx hI mx0 kx0 hM.2.2.2.2 rfl rfl rfl) (show (Ic_15 x0 7).toInt = (ztp kz (zit kz nz (Int32.toNatClampNeg i) (zty kz nz xz)) : Int) ∧ (Ic_15 x0 8).toInt = (zty kz nz (zit kz nz (Int32.toNatClampNeg i) (zty kz nz xz)) : Int) ∧ (Ic_15 x0 6).toInt = zso kz nz (ztp kz (zit kz nz (Int32.toNatClampNeg i) (zty kz nz xz))) from ⟨by omega, by omega, by omega⟩) (show (Ic_15 x0 6).toInt = 0 ∨ (Ic_15 x0 7).toInt ≤ 999 from by omega) (show 0 ≤ le.toInt ∧ le.toInt ≤ 100000 from by omega) (show z_73.toInt ≤ 99999 from by omega)) (cwV 2 hts gz_X4_readShootings_X4_readNumber_74 rfl rfl rfl (by decide +kernel) ⟨Nat.le_of_ble_eq_true rfl, Nat.le_of_ble_eq_true rfl⟩) rfl hl.1 rfl (Nat.le_of_ble_eq_true rfl) dX4_readShootings_40 ⟨show (0 + 0 : Nat) ≤ 0 from by omega, show (0 + 0 : Nat) ≤ 0 from by omega⟩ (fun _ h => by cases h) (by decide) (by decide) (fun r_77 L_79 K_79 I_79 O_79 H locs fr_79 p_78 hM => ?_)
            have m_80 := (fr_79 x0 m_1 (fun z => by cases z)).1
            have k_80 : K_79 x0 = 4 := (fr_79 x0 m_1 (fun z => by cases z)).2.1.trans k_1
            have m_81 := (fr_79 p0 m_2 (fun z => by cases z)).1
            have k_81 : K_79 p0 = 2 := (fr_79 p0 m_2 (fun z => by cases z)).2.1.trans k_2
            replace p_78 : ((I_79 x0 6).toInt = 0 ∨ (I_79 x0 7).toInt ≤ 999) ∧ ((r_77.toInt = 1 ∧ zN kz nz (zit kz nz (Int32.toNatClampNeg i) (zty kz nz xz)) le.toInt z_73.toInt (I_79 x0 9).toInt ∧ (I_79 x0 7).toInt = (ztp kz (zty kz nz (zit kz nz (Int32.toNatClampNeg i) (zty kz nz xz))) : Int) ∧ (I_79 x0 8).toInt = (zty kz nz (zty kz nz (zit kz nz (Int32.toNatClampNeg i) (zty kz nz xz))) : Int) ∧ (I_79 x0 6).toInt = zso kz nz (ztp kz (zty kz nz (zit kz nz (Int32.toNatClampNeg i) (zty kz nz xz))))) ∨ (r_77.toInt = 0 ∧ ∀ v : Int, ¬ zN kz nz (zit kz nz (Int32.toNatClampNeg i) (zty kz nz xz)) le.toInt z_73.toInt v)) := p_78
            rcases p_78 with ⟨hrp_82, ⟨hr_82, w_82, a1_82, a2_82, a3_82⟩ | ⟨hr_82, w_82⟩⟩
            · have hn1_82 := w_82.2.1
              have hn2_82 := w_82.2.2.1
              refine mm_if_ne (X := r_77.toInt) (tgt := 48) hx hb dX4_readShootings_43 (by decide) rfl (fun c_83 => ?_) (fun c_83 => False.elim (by omega))
              refine lv_aload_n hx hb dX4_readShootings_48 rfl (lv_at hl 0 rfl) ?_
              refine cr_get (κ := 4) (ci := 4) (k := 9) (C := RX4) (T := TX4) (N := 10) (fs := cfs 4) (v := .int (I_79 x0 9)) E hM m_80 k_80 (fun _ _ => rfl) rfl hin4 (by decide) (index := 89) (mm_at 16 rfl) rfl rfl dX4_readShootings_49 ?_
              refine lv_iconst (v := 1) hx hb dX4_readShootings_52 (by decide) ?_
              refine mm_iadd (X := (I_79 x0 9).toInt) (Y := 1) hx hb dX4_readShootings_53 rfl num_1 (by omega) (fun z_84 hz_84 => ?_)
              refine lv_istore_n (lv' := [(2, .int z_84), (0, .ref x0), (1, .ref p0), (3, .int i)]) hx hb dX4_readShootings_54 rfl hl (by decide) rfl (fun ls hl => ?_)
              refine lv_aload_n hx hb dX4_readShootings_55 rfl (lv_at hl 2 rfl) ?_
              refine lv_dup hx hb dX4_readShootings_56 rfl ?_
              have e_85 : (I_79 p0 2).toInt = (Ic_15 p0 2).toInt := congrArg Int32.toInt ((fr_79 p0 m_2 (fun z => by cases z)).2.2.1 2 (by rw [k_2]; rfl))
              refine cr_get (κ := 2) (ci := 2) (k := 2) (C := RX2) (T := TX2) (N := 8) (fs := cfs 2) (v := .int (I_79 p0 2)) E hM m_81 k_81 (fun _ _ => rfl) rfl hin2 (by decide) (index := 96) (mm_at 32 rfl) rfl rfl dX4_readShootings_57 ?_
              refine lv_iconst (v := 1) hx hb dX4_readShootings_60 (by decide) ?_
              refine mm_iadd (X := (I_79 p0 2).toInt) (Y := 1) hx hb dX4_readShootings_61 rfl num_1 (by omega) (fun z_86 hz_86 => ?_)
              refine cr_puti (κ := 2) (ci := 2) (k := 2) (C := RX2) (T := TX2) (N := 8) (fs := cfs 2) (ty := .int) (v := z_86) E hM m_81 k_81 (fun _ _ => rfl) rfl hin2 tyX2 tyX2_ok nmX2 (by decide) (index := 96) (mm_at 32 rfl) rfl (Or.inl rfl) (by decide +kernel) rfl rfl (show (2 : Nat) < 8 from by decide) (fun _ _ _ => rfl) (cz_nb rfl) (cS_upd (hM.sp m_81 k_81) (by decide) (by decide)) (Or.inr (Or.inr rfl)) dX4_readShootings_62 (fun H locs I_87 eI_87 hM => ?_)
              refine mm_iinc (X := i.toInt) (v := 1) (lv2 := fun z => [(3, .int z), (2, .int z_84), (0, .ref x0), (1, .ref p0)]) hx hb dX4_readShootings_65 hl (k := 3) rfl rfl (by decide) num_1 (by omega) (by decide) (fun _ => rfl) (fun z_88 ls hz_88 hl => ?_)
              have hl : lv_has ls 4 [(3, .int z_88), (2, .int z_84), (0, .ref x0), (1, .ref p0)] := hl
              refine lv_goto (tgt := 15) hx hb dX4_readShootings_68 (by decide) ?_
              have b_89 : 0 ≤ (I_87 x0 6).toInt ∧ (I_87 x0 6).toInt ≤ 4 := hM.ib m_80 k_80 6 rfl
              have e_90 : (I_87 x0 6).toInt = (I_79 x0 6).toInt := congrArg Int32.toInt (cu_k eI_87 (by decide))
              have b_91 : 0 ≤ (I_87 x0 7).toInt ∧ (I_87 x0 7).toInt ≤ 1000 := hM.ib m_80 k_80 7 rfl
              have e_92 : (I_87 x0 7).toInt = (I_79 x0 7).toInt := congrArg Int32.toInt (cu_k eI_87 (by decide))
              have b_93 : 0 ≤ (I_87 x0 8).toInt ∧ (I_87 x0 8).toInt ≤ 1000 := hM.ib m_80 k_80 8 rfl
              have e_94 : (I_87 x0 8).toInt = (I_79 x0 8).toInt := congrArg Int32.toInt (cu_k eI_87 (by decide))
              have e_95 : (I_87 p0 2).toInt = z_86.toInt := (congrArg Int32.toInt (cu_s eI_87)).trans rfl
              exact ih_15 _ _ _ L_79 K_79 I_87 O_79 z_84 z_88    (show (0 ≤ z_88.toInt ∧ z_88.toInt ≤ 4) from by omega) (show (I_87 x0 6).toInt = 0 ∨ (I_87 x0 7).toInt ≤ 999 from by omega) (show (I_87 x0 7).toInt = (ztp kz (zit kz nz (Int32.toNatClampNeg z_88) (zty kz nz xz)) : Int) from by rw [show Int32.toNatClampNeg z_88 = Int32.toNatClampNeg i + 1 from by simp only [mm_nat]; omega]; simp only [zit]; omega) (show (I_87 x0 8).toInt = (zty kz nz (zit kz nz (Int32.toNatClampNeg z_88) (zty kz nz xz)) : Int) from by rw [show Int32.toNatClampNeg z_88 = Int32.toNatClampNeg i + 1 from by simp only [mm_nat]; omega]; simp only [zit]; omega) (show (I_87 x0 6).toInt = zso kz nz (ztp kz (zit kz nz (Int32.toNatClampNeg z_88) (zty kz nz xz))) from by rw [show Int32.toNatClampNeg z_88 = Int32.toNatClampNeg i + 1 from by simp only [mm_nat]; omega]; simp only [zit]; omega) (show zshp kz nz (zty kz nz xz) (I p0 1).toInt (Int32.toNatClampNeg z_88) from by rw [show Int32.toNatClampNeg z_88 = Int32.toNatClampNeg i + 1 from by simp only [mm_nat]; omega]; exact zshp_s f15_5 (zsh1_of w_82 (by rw [mm_nat]; omega) (by omega))) (show (z_88.toInt = 0 ∧ z_84.toInt = 1) ∨ (1 ≤ z_88.toInt ∧ z_84.toInt = (zV kz nz (zit kz nz (z_88.toInt.toNat - 1) (zty kz nz xz)) : Int) + 1) from by have hv := w_82.2.2.2; rw [show z_88.toInt.toNat - 1 = Int32.toNatClampNeg i from by rw [mm_nat]; omega]; omega) (show z_84.toInt ≤ (I p0 1).toInt from by omega) (show (I_87 p0 2).toInt = z_88.toInt from by omega) (show (∀ a : Nat, a ∈ L → K a = 2 → ¬ a = p0 → ∀ j : Nat, I_87 a j = I a j) from by exact fun a ha ka na j => (by have t1_ := hfr_15 a ha (fun z => by cases z); have k1_ := t1_.2.1.trans ka; have m1_ := t1_.1; have t2_ := fr_79 a m1_ (fun z => by cases z); have k2_ := t2_.2.1.trans k1_; have m2_ := t2_.1; exact ((congrFun (cu_a eI_87 na) j).trans ((t2_.2.2.1 j (by rw [k1_]; rfl)).trans (f15_9 a ha ka na j))))) (show zW kz nz xz (zwl 2) from by exact f15_10) (show (4 - z_88.toInt) < ((n_15 : Nat) : Int) from by omega) hM (lv_sub hl [2, 3, 1, 0] rfl)
            · refine mm_if_ne (X := r_77.toInt) (tgt := 48) hx hb dX4_readShootings_43 (by decide) rfl (fun c_96 => False.elim (by omega)) (fun c_96 => ?_)
              refine lv_iconst (v := 0) hx hb dX4_readShootings_46 (by decide) ?_
              have b_97 : 0 ≤ (I_79 x0 6).toInt ∧ (I_79 x0 6).toInt ≤ 4 := hM.ib m_80 k_80 6 rfl
              have b_98 : 0 ≤ (I_79 x0 7).toInt ∧ (I_79 x0 7).toInt ≤ 1000 := hM.ib m_80 k_80 7 rfl
              have e_99 : (I_79 p0 2).toInt = (Ic_15 p0 2).toInt := congrArg Int32.toInt ((fr_79 p0 m_2 (fun z => by cases z)).2.2.1 2 (by rw [k_2]; rfl))
              have b_100 : 0 ≤ (I_79 x0 8).toInt ∧ (I_79 x0 8).toInt ≤ 1000 := hM.ib m_80 k_80 8 rfl
              exact cr_rz (mc := 0) (ms := 0) (X := 0) E hr hlk hsz hM ⟨show (0 : Nat) ≤ 0 from by omega, show (0 : Nat) ≤ 0 from by omega⟩ num_0 (by omega) (show ((I_79 x0 6).toInt = 0 ∨ (I_79 x0 7).toInt ≤ 999) ∧ (((0 : Int32).toInt = 1 ∧ zW kz nz xz (zwl 2) ∧ ∃ c : Nat, zsh kz nz (zty kz nz xz) (I p0 1).toInt c ∧ (I_79 p0 2).toInt = (c : Int) ∧ (I_79 x0 7).toInt = (ztp kz (zit kz nz c (zty kz nz xz)) : Int) ∧ (I_79 x0 8).toInt = (zty kz nz (zit kz nz c (zty kz nz xz)) : Int) ∧ (I_79 x0 6).toInt = zso kz nz (ztp kz (zit kz nz c (zty kz nz xz)))) ∨ ((0 : Int32).toInt = 0 ∧ ∀ c : Nat, ¬ (zW kz nz xz (zwl 2) ∧ zsh kz nz (zty kz nz xz) (I p0 1).toInt c))) ∧ (∀ a : Nat, a ∈ L → K a = 2 → ¬ a = p0 → ∀ j : Nat, I_79 a j = I a j) from by have n9 := num_0; exact ⟨by omega, Or.inr ⟨by omega, fun c h => zsh_not f15_5 (fun q => w_82 _ (zsh1_to q (by rw [mm_nat]; omega) (by omega))) (by have hq9 : Int32.toNatClampNeg i = i.toInt.toNat := rfl; omega) c h.2⟩, fun a ha ka na j => (by have t1_ := hfr_15 a ha (fun z => by cases z); have k1_ := t1_.2.1.trans ka; have m1_ := t1_.1; have t2_ := fr_79 a m1_ (fun z => by cases z); have k2_ := t2_.2.1.trans k1_; have m2_ := t2_.1; exact ((t2_.2.2.1 j (by rw [k1_]; rfl)).trans (f15_9 a ha ka na j)))⟩) dX4_readShootings_47
  refine lv_aload_n hx hb dX4_readShootings_0 rfl (lv_at hl 0 rfl) ?_
  refine va_ldcS (own := RX4) (q := ad 2) hx hb hown (hV.2.2.1 2 (94, "shoot") rfl) dX4_readShootings_1 ?_
  have b_102 : 0 ≤ (I x0 7).toInt ∧ (I x0 7).toInt ≤ 1000 := hM.ib mx0 kx0 7 rfl
  have b_103 : 0 ≤ (I x0 8).toInt ∧ (I x0 8).toInt ≤ 1000 := hM.ib mx0 kx0 8 rfl
  have b_104 : 0 ≤ (I x0 6).toInt ∧ (I x0 6).toInt ≤ 4 := hM.ib mx0 kx0 6 rfl
  refine cc_Vi (vs := [.ref (ad 2)]) (rest := []) (b := x0) (κ := 4) E hV rfl hA hml hM mx0 kx0 rfl rfl (h5_X4_readWord l D cA ad av L K I O _ x0 2 hM.2.2.2.1 mx0 kx0 (by decide) kz nz xz (zTx_fr htx hI mx0 kx0 hM.2.2.2.2 rfl rfl rfl) (show (I x0 7).toInt = (ztp kz xz : Int) ∧ (I x0 8).toInt = (zty kz nz xz : Int) ∧ (I x0 6).toInt = zso kz nz (ztp kz xz) from ⟨by omega, by omega, by omega⟩) (show (I x0 6).toInt = 0 ∨ (I x0 7).toInt ≤ 999 from by omega)) (cwV 1 hts gz_X4_readShootings_X4_readWord_101 rfl rfl rfl (by decide +kernel) ⟨Nat.le_of_ble_eq_true rfl, Nat.le_of_ble_eq_true rfl⟩) rfl hl.1 rfl (Nat.le_of_ble_eq_true rfl) dX4_readShootings_3 ⟨show (0 + 0 : Nat) ≤ 0 from by omega, show (0 + 0 : Nat) ≤ 0 from by omega⟩ (fun _ h => by cases h) (by decide) (by decide) (fun r_105 L_107 K_107 I_107 O_107 H locs fr_107 p_106 hM => ?_)
  have m_108 := (fr_107 x0 mx0 (fun z => by cases z)).1
  have k_108 : K_107 x0 = 4 := (fr_107 x0 mx0 (fun z => by cases z)).2.1.trans kx0
  have m_109 := (fr_107 p0 mp0 (fun z => by cases z)).1
  have k_109 : K_107 p0 = 2 := (fr_107 p0 mp0 (fun z => by cases z)).2.1.trans kp0
  replace p_106 : ((I_107 x0 6).toInt = 0 ∨ (I_107 x0 7).toInt ≤ 999) ∧ ((r_105.toInt = 1 ∧ zW kz nz xz (zwl 2) ∧ (I_107 x0 7).toInt = (ztp kz (zty kz nz xz) : Int) ∧ (I_107 x0 8).toInt = (zty kz nz (zty kz nz xz) : Int) ∧ (I_107 x0 6).toInt = zso kz nz (ztp kz (zty kz nz xz))) ∨ (r_105.toInt = 0 ∧ ¬ zW kz nz xz (zwl 2))) := p_106
  rcases p_106 with ⟨hrp_110, ⟨hr_110, w_110, a1_110, a2_110, a3_110⟩ | ⟨hr_110, w_110⟩⟩
  · refine mm_if_ne (X := r_105.toInt) (tgt := 11) hx hb dX4_readShootings_6 (by decide) rfl (fun c_111 => ?_) (fun c_111 => False.elim (by omega))
    refine lv_iconst (v := 1) hx hb dX4_readShootings_11 (by decide) ?_
    refine lv_istore_n (lv' := [(2, .int 1), (0, .ref x0), (1, .ref p0)]) hx hb dX4_readShootings_12 rfl hl (by decide) rfl (fun ls hl => ?_)
    refine lv_iconst (v := 0) hx hb dX4_readShootings_13 (by decide) ?_
    refine lv_istore_n (lv' := [(3, .int 0), (2, .int 1), (0, .ref x0), (1, .ref p0)]) hx hb dX4_readShootings_14 rfl hl (by decide) rfl (fun ls hl => ?_)
    have b_112 : 0 ≤ (I_107 x0 6).toInt ∧ (I_107 x0 6).toInt ≤ 4 := hM.ib m_108 k_108 6 rfl
    have b_113 : 0 ≤ (I_107 x0 7).toInt ∧ (I_107 x0 7).toInt ≤ 1000 := hM.ib m_108 k_108 7 rfl
    have b_114 : 0 ≤ (I_107 x0 8).toInt ∧ (I_107 x0 8).toInt ≤ 1000 := hM.ib m_108 k_108 8 rfl
    have e_115 : (I_107 p0 2).toInt = (I p0 2).toInt := congrArg Int32.toInt ((fr_107 p0 mp0 (fun z => by cases z)).2.2.1 2 (by rw [kp0]; rfl))
    exact B_15 4294967296 _ _ _ L_107 K_107 I_107 O_107 1 0    (show (0 ≤ (0 : Int32).toInt ∧ (0 : Int32).toInt ≤ 4) from by have n_0 := num_1; have n_1 := num_0; omega) (show (I_107 x0 6).toInt = 0 ∨ (I_107 x0 7).toInt ≤ 999 from by have n_0 := num_1; have n_1 := num_0; omega) (show (I_107 x0 7).toInt = (ztp kz (zit kz nz (Int32.toNatClampNeg (0 : Int32)) (zty kz nz xz)) : Int) from by have n_0 := num_1; have n_1 := num_0; rw [show Int32.toNatClampNeg (0 : Int32) = 0 from by decide]; simp only [zit]; omega) (show (I_107 x0 8).toInt = (zty kz nz (zit kz nz (Int32.toNatClampNeg (0 : Int32)) (zty kz nz xz)) : Int) from by have n_0 := num_1; have n_1 := num_0; rw [show Int32.toNatClampNeg (0 : Int32) = 0 from by decide]; simp only [zit]; omega) (show (I_107 x0 6).toInt = zso kz nz (ztp kz (zit kz nz (Int32.toNatClampNeg (0 : Int32)) (zty kz nz xz))) from by have n_0 := num_1; have n_1 := num_0; rw [show Int32.toNatClampNeg (0 : Int32) = 0 from by decide]; simp only [zit]; omega) (show zshp kz nz (zty kz nz xz) (I p0 1).toInt (Int32.toNatClampNeg (0 : Int32)) from by have n_0 := num_1; have n_1 := num_0; rw [show Int32.toNatClampNeg (0 : Int32) = 0 from by decide]; exact fun j hj => absurd hj (Nat.not_lt_zero _)) (show ((0 : Int32).toInt = 0 ∧ (1 : Int32).toInt = 1) ∨ (1 ≤ (0 : Int32).toInt ∧ (1 : Int32).toInt = (zV kz nz (zit kz nz ((0 : Int32).toInt.toNat - 1) (zty kz nz xz)) : Int) + 1) from by have n_0 := num_1; have n_1 := num_0; omega) (show (1 : Int32).toInt ≤ (I p0 1).toInt from by have n_0 := num_1; have n_1 := num_0; omega) (show (I_107 p0 2).toInt = (0 : Int32).toInt from by have n_0 := num_1; have n_1 := num_0; omega) (show (∀ a : Nat, a ∈ L → K a = 2 → ¬ a = p0 → ∀ j : Nat, I_107 a j = I a j) from by have n_0 := num_1; have n_1 := num_0; exact fun a ha ka na j => (by have t1_ := fr_107 a ha (fun z => by cases z); have k1_ := t1_.2.1.trans ka; have m1_ := t1_.1; exact (t1_.2.2.1 j (by rw [ka]; rfl)))) (show zW kz nz xz (zwl 2) from by have n_0 := num_1; have n_1 := num_0; exact w_110) (show (4 - (0 : Int32).toInt) < ((4294967296 : Nat) : Int) from by have n_0 := num_1; have n_1 := num_0; omega) hM (lv_sub hl [2, 3, 1, 0] rfl)
  · refine mm_if_ne (X := r_105.toInt) (tgt := 11) hx hb dX4_readShootings_6 (by decide) rfl (fun c_116 => False.elim (by omega)) (fun c_116 => ?_)
    refine lv_iconst (v := 0) hx hb dX4_readShootings_9 (by decide) ?_
    have b_117 : 0 ≤ (I_107 x0 6).toInt ∧ (I_107 x0 6).toInt ≤ 4 := hM.ib m_108 k_108 6 rfl
    have b_118 : 0 ≤ (I_107 x0 7).toInt ∧ (I_107 x0 7).toInt ≤ 1000 := hM.ib m_108 k_108 7 rfl
    have e_119 : (I_107 p0 2).toInt = (I p0 2).toInt := congrArg Int32.toInt ((fr_107 p0 mp0 (fun z => by cases z)).2.2.1 2 (by rw [kp0]; rfl))
    have b_120 : 0 ≤ (I_107 x0 8).toInt ∧ (I_107 x0 8).toInt ≤ 1000 := hM.ib m_108 k_108 8 rfl
    exact cr_rz (mc := 0) (ms := 0) (X := 0) E hr hlk hsz hM ⟨show (0 : Nat) ≤ 0 from by omega, show (0 : Nat) ≤ 0 from by omega⟩ num_0 (by omega) (show ((I_107 x0 6).toInt = 0 ∨ (I_107 x0 7).toInt ≤ 999) ∧ (((0 : Int32).toInt = 1 ∧ zW kz nz xz (zwl 2) ∧ ∃ c : Nat, zsh kz nz (zty kz nz xz) (I p0 1).toInt c ∧ (I_107 p0 2).toInt = (c : Int) ∧ (I_107 x0 7).toInt = (ztp kz (zit kz nz c (zty kz nz xz)) : Int) ∧ (I_107 x0 8).toInt = (zty kz nz (zit kz nz c (zty kz nz xz)) : Int) ∧ (I_107 x0 6).toInt = zso kz nz (ztp kz (zit kz nz c (zty kz nz xz)))) ∨ ((0 : Int32).toInt = 0 ∧ ∀ c : Nat, ¬ (zW kz nz xz (zwl 2) ∧ zsh kz nz (zty kz nz xz) (I p0 1).toInt c))) ∧ (∀ a : Nat, a ∈ L → K a = 2 → ¬ a = p0 → ∀ j : Nat, I_107 a j = I a j) from by have n9 := num_0; exact ⟨by omega, Or.inr ⟨by omega, fun c h => w_110 h.1⟩, fun a ha ka na j => (by have t1_ := fr_107 a ha (fun z => by cases z); have k1_ := t1_.2.1.trans ka; have m1_ := t1_.1; exact (t1_.2.2.1 j (by rw [ka]; rfl)))⟩) dX4_readShootings_10
