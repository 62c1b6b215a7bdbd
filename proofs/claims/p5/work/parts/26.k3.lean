def w4X4_isWord : List Cond := .code yX4_isWord cX4_isWord 3 (some .boolean) :: ([.methodLink RX4 140 yJ0_length_8abf5, .instanceMethod yJ0_length_8abf5, .selects RJ0 yJ0_length_8abf5 yJ0_length_8abf5, .initialized RJ0, .code yJ0_length_8abf5 cJ0_length_8abf5 1 (some .int), .fieldLink RJ0 9 "java/lang/String" "value" "[B", .methodLink RJ0 335 yJ0_coder_7d493, .instanceMethod yJ0_coder_7d493, .selects RJ0 yJ0_coder_7d493 yJ0_coder_7d493, .code yJ0_coder_7d493 cJ0_coder_7d493 1 (some .byte), .fieldLink RJ0 38 "java/lang/String" "COMPACT_STRINGS" "Z", .fieldLink RJ0 15 "java/lang/String" "coder" "B", .fieldLink RX4 9 "SkiShots$Reader" "text" "[B", .fieldLink RX4 54 "SkiShots$Reader" "place" "I", .methodLink RX4 145 yJ0_charAt_5068e, .instanceMethod yJ0_charAt_5068e, .selects RJ0 yJ0_charAt_5068e yJ0_charAt_5068e, .code yJ0_charAt_5068e cJ0_charAt_5068e 2 (some .char), .methodLink RJ0 492 yJ0_isLatin1_aae02, .instanceMethod yJ0_isLatin1_aae02, .selects RJ0 yJ0_isLatin1_aae02 yJ0_isLatin1_aae02, .code yJ0_isLatin1_aae02 cJ0_isLatin1_aae02 1 (some .boolean), .methodLink RJ0 495 yJ1_charAt_3b067, .static yJ1_charAt_3b067, .initialized RJ1, .code yJ1_charAt_3b067 cJ1_charAt_3b067 2 (some .char), .methodLink RJ1 9 yJ0_checkIndex_df160, .static yJ0_checkIndex_df160, .code yJ0_checkIndex_df160 cJ0_checkIndex_df160 2 none, .fieldLink RJ0 1053 "jdk/internal/util/Preconditions" "SIOOBE_FORMATTER" "Ljava/util/function/BiFunction;", .methodLink RJ0 1059 yJ3_checkIndex_8e157, .static yJ3_checkIndex_8e157, .initialized RJ3, .code yJ3_checkIndex_8e157 cJ3_checkIndex_8e157 3 (some .int), .fieldLink RX4 37 "SkiShots$Reader" "sort" "I", .fieldLink RX4 133 "SkiShots$Reader" "behind" "I"] ++ wsX40)
set_option maxRecDepth 20000 in
theorem gk_X4_isWord_J0_length_8abf5_1 : GoodIn w4X4_isWord (wsV RX4 140 RJ0 yJ0_length_8abf5 w4J0_length_8abf5) := goodIn_p _ [5, 10] rfl (by decide +kernel)
set_option maxRecDepth 20000 in
theorem gk_X4_isWord_J0_charAt_5068e_9 : GoodIn w4X4_isWord (wsV RX4 145 RJ0 yJ0_charAt_5068e w4J0_charAt_5068e) := goodIn_p _ [18, 22, 26, 29, 34] rfl (by decide +kernel)
set_option maxRecDepth 20000 in
theorem gk_X4_isWord_J0_length_8abf5_20 : GoodIn w4X4_isWord (wsV RX4 140 RJ0 yJ0_length_8abf5 w4J0_length_8abf5) := goodIn_p _ [5, 10] rfl (by decide +kernel)
set_option maxHeartbeats 4000000 in
set_option maxRecDepth 100000 in
theorem h4_X4_isWord (l : Launch) (D : va_G) (cA : Nat → ClassId) (ad av : Nat → Nat) (L : List Nat) (K : Nat → Nat) (I : Nat → Nat → Int32) (O : Nat → Nat → Option Nat) (sz : Nat) (x0 : Nat) (si : Nat) (hI : cI L K I O) (mx0 : x0 ∈ L) (kx0 : K x0 = 4) (hsi : si < 11)  : Met l yX4_isWord w4X4_isWord ({ frames := 4, cells := 0, slots := 0, locals := 85 }) (cPre D cA ad av L K I O sz [.ref x0, .ref (ad si)]) (cQi D cA L K I O sz [] [] [] (fun r L' K' I' O' => (L' = L ∧ K' = K ∧ I' = I ∧ O' = O) ∧ (True))) 0 0 (va_A (cW cA L K I O) sz) := by
  refine cr_met (own := RX4) (xs := []) (WI := []) (WO := []) (cc := cX4_isWord) (maxL := 3) (ret := (some .boolean)) (by decide) rfl rfl (Nat.le_of_ble_eq_true rfl) hI ?_
  intro p e s m args below meth c ls E hV hml hr hlk hname hsz hA hM hl
  have hx := E.1
  have hb := E.2.1
  have hts := E.2.2.1
  have hown := E.2.2.2.1
  have hl : lv_has ls 3 [(0, .ref x0), (1, .ref (ad si))] := hl
  have hin4 : ∀ w ∈ wsX40, w ∈ w4X4_isWord := by decide +kernel
  have hln := (c_len hsi).2
  have B_28 : ∀ n_28 : Nat, ∀ (H : Heap) (locs : List Loc) (ls : Array Slot) (i : Int32), (0 ≤ i.toInt ∧ i.toInt ≤ 6) → i.toInt ≤ (cln.getD si 0 : Int) → (I x0 8).toInt - (I x0 7).toInt = (cln.getD si 0 : Int) → ((cln.getD si 0 : Int) - i.toInt) < (n_28 : Int) → cQ D cA (va_A (cW cA L K I O) sz) s.heap [] [] [] L K I O H locs L K I O → lv_has ls 3 [(0, .ref x0), (1, .ref (ad si)), (2, .int i)] → W p l e ({ frames := 4, cells := 0, slots := 0, locals := 85 }) s m args below meth c H locs 0 0 (MQ below (cQi D cA L K I O sz [] [] [] (fun r L' K' I' O' => (L' = L ∧ K' = K ∧ I' = I ∧ O' = O) ∧ (True))) args s 0 0 (va_A (cW cA L K I O) sz)) (F0 m 28 ls []) := by
    intro n_28
    induction n_28 with
    | zero => intro H locs ls i f28_0 f28_1 f28_2 hn hM hl; exact False.elim (by omega)
    | succ n_28 ih_28 =>
      intro H locs ls i f28_0 f28_1 f28_2 hn hM hl
      refine lv_iload_n hx hb dX4_isWord_28 rfl (lv_at hl 2 rfl) ?_
      refine lv_aload_n hx hb dX4_isWord_29 rfl (lv_at hl 1 rfl) ?_
      refine cc_Jip (vs := []) (rest := [.int i]) (b := (ad si)) E hV rfl hA hml hM (vk_recv hV.2.1 hsi hM.2.2.1) (h4_J0_length_8abf5 l D cA ad av L K I O _ si hM.2.2.2.1 (by omega)) (cwV 0 hts gk_X4_isWord_J0_length_8abf5_1 rfl rfl rfl (by decide +kernel) ⟨Nat.le_of_ble_eq_true rfl, Nat.le_of_ble_eq_true rfl⟩) rfl hl.1 rfl (Nat.le_of_ble_eq_true rfl) dX4_isWord_30 ⟨show (0 : Nat) ≤ 0 from by omega, show (0 : Nat) ≤ 0 from by omega⟩ (fun r_2 H locs p_3 hM => ?_)
      replace p_3 : r_2.toInt = (cln.getD si 0 : Int) := p_3
      refine mm_icmp_ge (X := i.toInt) (Y := r_2.toInt) (tgt := 63) hx hb dX4_isWord_33 (by decide) rfl rfl (fun c_5 => ?_) (fun c_5 => ?_)
      · refine lv_iconst (v := 1) hx hb dX4_isWord_63 (by decide) ?_
        exact cr_rz (mc := 0) (ms := 0) (X := 1) E hr hlk hsz hM ⟨show (0 : Nat) ≤ 0 from by omega, show (0 : Nat) ≤ 0 from by omega⟩ num_1 (by omega) ⟨⟨rfl, rfl, rfl, rfl⟩, trivial⟩ dX4_isWord_64
      · refine lv_aload_n hx hb dX4_isWord_36 rfl (lv_at hl 0 rfl) ?_
        obtain ⟨x_6, o_6, m_6, k_6⟩ := hM.nn mx0 kx0 0 (κ' := 10) rfl rfl
        refine cr_get (κ := 4) (ci := 4) (k := 0) (C := RX4) (T := TX4) (N := 10) (fs := cfs 4) (v := .ref x_6) E hM mx0 kx0 (fun _ _ => rfl) rfl hin4 (by decide) (index := 9) (mm_at 13 rfl) rfl (by show some (va_rf (O x0 0)) = some (.ref x_6); rw [o_6]; rfl) dX4_isWord_37 ?_
        refine lv_aload_n hx hb dX4_isWord_40 rfl (lv_at hl 0 rfl) ?_
        have b_7 : 0 ≤ (I x0 7).toInt ∧ (I x0 7).toInt ≤ 1000 := hM.ib mx0 kx0 7 rfl
        refine cr_get (κ := 4) (ci := 4) (k := 7) (C := RX4) (T := TX4) (N := 10) (fs := cfs 4) (v := .int (I x0 7)) E hM mx0 kx0 (fun _ _ => rfl) rfl hin4 (by decide) (index := 54) (mm_at 14 rfl) rfl rfl dX4_isWord_41 ?_
        refine lv_iload_n hx hb dX4_isWord_44 rfl (lv_at hl 2 rfl) ?_
        refine mm_iadd (X := (I x0 7).toInt) (Y := i.toInt) hx hb dX4_isWord_45 rfl rfl (by omega) (fun z_8 hz_8 => ?_)
        refine cr_bald (κ := 10) (t0 := 0) (X := z_8.toInt) E hM m_6 k_6 (fun _ _ => rfl) rfl rfl (by omega) dX4_isWord_46 ?_
        refine lv_aload_n hx hb dX4_isWord_47 rfl (lv_at hl 1 rfl) ?_
        refine lv_iload_n hx hb dX4_isWord_48 rfl (lv_at hl 2 rfl) ?_
        refine cc_Jip (vs := [.int i]) (rest := [.int (I x_6 (Int32.toNatClampNeg z_8))]) (b := (ad si)) E hV rfl hA hml hM (vk_recv hV.2.1 hsi hM.2.2.1) (h4_J0_charAt_5068e l D cA ad av L K I O _ si i hM.2.2.2.1 (by omega) (show 0 ≤ i.toInt ∧ i.toInt < (cln.getD si 0 : Int) from by omega)) (cwV 1 hts gk_X4_isWord_J0_charAt_5068e_9 rfl rfl rfl (by decide +kernel) ⟨Nat.le_of_ble_eq_true rfl, Nat.le_of_ble_eq_true rfl⟩) rfl hl.1 rfl (Nat.le_of_ble_eq_true rfl) dX4_isWord_49 ⟨show (0 : Nat) ≤ 0 from by omega, show (0 : Nat) ≤ 0 from by omega⟩ (fun r_10 H locs p_11 hM => ?_)
        refine mm_icmp_eq (X := (I x_6 (Int32.toNatClampNeg z_8)).toInt) (Y := r_10.toInt) (tgt := 57) hx hb dX4_isWord_52 (by decide) rfl rfl (fun c_13 => ?_) (fun c_13 => ?_)
        · refine mm_iinc (X := i.toInt) (v := 1) (lv2 := fun z => [(2, .int z), (0, .ref x0), (1, .ref (ad si))]) hx hb dX4_isWord_57 hl (k := 2) rfl rfl (by decide) num_1 (by omega) (by decide) (fun _ => rfl) (fun z_14 ls hz_14 hl => ?_)
          have hl : lv_has ls 3 [(2, .int z_14), (0, .ref x0), (1, .ref (ad si))] := hl
          refine lv_goto (tgt := 28) hx hb dX4_isWord_60 (by decide) ?_
          exact ih_28 _ _ _  z_14    (show (0 ≤ z_14.toInt ∧ z_14.toInt ≤ 6) from by omega) (show z_14.toInt ≤ (cln.getD si 0 : Int) from by omega) (show (I x0 8).toInt - (I x0 7).toInt = (cln.getD si 0 : Int) from by omega) (show ((cln.getD si 0 : Int) - z_14.toInt) < ((n_28 : Nat) : Int) from by omega) hM (lv_sub hl [1, 2, 0] rfl)
        · refine lv_iconst (v := 0) hx hb dX4_isWord_55 (by decide) ?_
          exact cr_rz (mc := 0) (ms := 0) (X := 0) E hr hlk hsz hM ⟨show (0 : Nat) ≤ 0 from by omega, show (0 : Nat) ≤ 0 from by omega⟩ num_0 (by omega) ⟨⟨rfl, rfl, rfl, rfl⟩, trivial⟩ dX4_isWord_56
  refine lv_aload_n hx hb dX4_isWord_0 rfl (lv_at hl 0 rfl) ?_
  have b_15 : 0 ≤ (I x0 6).toInt ∧ (I x0 6).toInt ≤ 4 := hM.ib mx0 kx0 6 rfl
  refine cr_get (κ := 4) (ci := 4) (k := 6) (C := RX4) (T := TX4) (N := 10) (fs := cfs 4) (v := .int (I x0 6)) E hM mx0 kx0 (fun _ _ => rfl) rfl hin4 (by decide) (index := 37) (mm_at 35 rfl) rfl rfl dX4_isWord_1 ?_
  refine lv_iconst (v := 1) hx hb dX4_isWord_4 (by decide) ?_
  refine mm_icmp_ne (X := (I x0 6).toInt) (Y := 1) (tgt := 24) hx hb dX4_isWord_5 (by decide) rfl num_1 (fun c_16 => ?_) (fun c_16 => ?_)
  · refine lv_iconst (v := 0) hx hb dX4_isWord_24 (by decide) ?_
    exact cr_rz (mc := 0) (ms := 0) (X := 0) E hr hlk hsz hM ⟨show (0 : Nat) ≤ 0 from by omega, show (0 : Nat) ≤ 0 from by omega⟩ num_0 (by omega) ⟨⟨rfl, rfl, rfl, rfl⟩, trivial⟩ dX4_isWord_25
  · refine lv_aload_n hx hb dX4_isWord_8 rfl (lv_at hl 0 rfl) ?_
    have b_17 : 0 ≤ (I x0 8).toInt ∧ (I x0 8).toInt ≤ 1000 := hM.ib mx0 kx0 8 rfl
    refine cr_get (κ := 4) (ci := 4) (k := 8) (C := RX4) (T := TX4) (N := 10) (fs := cfs 4) (v := .int (I x0 8)) E hM mx0 kx0 (fun _ _ => rfl) rfl hin4 (by decide) (index := 133) (mm_at 36 rfl) rfl rfl dX4_isWord_9 ?_
    refine lv_aload_n hx hb dX4_isWord_12 rfl (lv_at hl 0 rfl) ?_
    have b_18 : 0 ≤ (I x0 7).toInt ∧ (I x0 7).toInt ≤ 1000 := hM.ib mx0 kx0 7 rfl
    refine cr_get (κ := 4) (ci := 4) (k := 7) (C := RX4) (T := TX4) (N := 10) (fs := cfs 4) (v := .int (I x0 7)) E hM mx0 kx0 (fun _ _ => rfl) rfl hin4 (by decide) (index := 54) (mm_at 14 rfl) rfl rfl dX4_isWord_13 ?_
    refine mm_isub (X := (I x0 8).toInt) (Y := (I x0 7).toInt) hx hb dX4_isWord_16 rfl rfl (by omega) (fun z_19 hz_19 => ?_)
    refine lv_aload_n hx hb dX4_isWord_17 rfl (lv_at hl 1 rfl) ?_
    refine cc_Jip (vs := []) (rest := [.int z_19]) (b := (ad si)) E hV rfl hA hml hM (vk_recv hV.2.1 hsi hM.2.2.1) (h4_J0_length_8abf5 l D cA ad av L K I O _ si hM.2.2.2.1 (by omega)) (cwV 0 hts gk_X4_isWord_J0_length_8abf5_20 rfl rfl rfl (by decide +kernel) ⟨Nat.le_of_ble_eq_true rfl, Nat.le_of_ble_eq_true rfl⟩) rfl hl.1 rfl (Nat.le_of_ble_eq_true rfl) dX4_isWord_18 ⟨show (0 : Nat) ≤ 0 from by omega, show (0 : Nat) ≤ 0 from by omega⟩ (fun r_21 H locs p_22 hM => ?_)
    replace p_22 : r_21.toInt = (cln.getD si 0 : Int) := p_22
    refine mm_icmp_eq (X := z_19.toInt) (Y := r_21.toInt) (tgt := 26) hx hb dX4_isWord_21 (by decide) rfl rfl (fun c_24 => ?_) (fun c_24 => ?_)
    · refine lv_iconst (v := 0) hx hb dX4_isWord_26 (by decide) ?_
      refine lv_istore_n (lv' := [(2, .int 0), (0, .ref x0), (1, .ref (ad si))]) hx hb dX4_isWord_27 rfl hl (by decide) rfl (fun ls hl => ?_)
      exact B_28 4294967296 _ _ _  0    (show (0 ≤ (0 : Int32).toInt ∧ (0 : Int32).toInt ≤ 6) from by have n_0 := num_0; omega) (show (0 : Int32).toInt ≤ (cln.getD si 0 : Int) from by have n_0 := num_0; omega) (show (I x0 8).toInt - (I x0 7).toInt = (cln.getD si 0 : Int) from by have n_0 := num_0; omega) (show ((cln.getD si 0 : Int) - (0 : Int32).toInt) < ((4294967296 : Nat) : Int) from by have n_0 := num_0; omega) hM (lv_sub hl [1, 2, 0] rfl)
    · refine lv_iconst (v := 0) hx hb dX4_isWord_24 (by decide) ?_
      exact cr_rz (mc := 0) (ms := 0) (X := 0) E hr hlk hsz hM ⟨show (0 : Nat) ≤ 0 from by omega, show (0 : Nat) ≤ 0 from by omega⟩ num_0 (by omega) ⟨⟨rfl, rfl, rfl, rfl⟩, trivial⟩ dX4_isWord_25
def w4X4_sortAt : List Cond := .code yX4_sortAt cX4_sortAt 3 (some .int) :: ([.fieldLink RX4 21 "SkiShots$Reader" "length" "I", .fieldLink RX4 9 "SkiShots$Reader" "text" "[B"] ++ wsX40)
set_option maxHeartbeats 4000000 in
set_option maxRecDepth 100000 in
theorem h4_X4_sortAt (l : Launch) (D : va_G) (cA : Nat → ClassId) (ad av : Nat → Nat) (L : List Nat) (K : Nat → Nat) (I : Nat → Nat → Int32) (O : Nat → Nat → Option Nat) (sz : Nat) (x0 : Nat) (p0 : Int32) (hI : cI L K I O) (mx0 : x0 ∈ L) (kx0 : K x0 = 4)  : Met l yX4_sortAt w4X4_sortAt ({ frames := 0, cells := 0, slots := 0, locals := 0 }) (cPre D cA ad av L K I O sz [.ref x0, .int p0]) (cQi D cA L K I O sz [] [] [] (fun r L' K' I' O' => (L' = L ∧ K' = K ∧ I' = I ∧ O' = O) ∧ (0 ≤ r.toInt ∧ r.toInt ≤ 4 ∧ (r.toInt = 0 ∨ p0.toInt ≤ 999)))) 0 0 (va_A (cW cA L K I O) sz) := by
  refine cr_met (own := RX4) (xs := []) (WI := []) (WO := []) (cc := cX4_sortAt) (maxL := 3) (ret := (some .int)) (by decide) rfl rfl (Nat.le_of_ble_eq_true rfl) hI ?_
  intro p e s m args below meth c ls E hV hml hr hlk hname hsz hA hM hl
  have hx := E.1
  have hb := E.2.1
  have hts := E.2.2.1
  have hown := E.2.2.2.1
  have hl : lv_has ls 3 [(0, .ref x0), (1, .int p0)] := hl
  have hin4 : ∀ w ∈ wsX40, w ∈ w4X4_sortAt := by decide +kernel
  refine lv_iload_n hx hb dX4_sortAt_0 rfl (lv_at hl 1 rfl) ?_
  refine mm_if_lt (X := p0.toInt) (tgt := 12) hx hb dX4_sortAt_1 (by decide) rfl (fun c_1 => ?_) (fun c_1 => ?_)
  · refine lv_iconst (v := 0) hx hb dX4_sortAt_12 (by decide) ?_
    exact cr_ri (mc := 0) (ms := 0) E hr hlk hsz hM ⟨show (0 : Nat) ≤ 0 from by omega, show (0 : Nat) ≤ 0 from by omega⟩ ⟨⟨rfl, rfl, rfl, rfl⟩, (show 0 ≤ (0 : Int32).toInt ∧ (0 : Int32).toInt ≤ 4 ∧ ((0 : Int32).toInt = 0 ∨ p0.toInt ≤ 999) from by have n9 := num_0; omega)⟩ dX4_sortAt_13
  · refine lv_iload_n hx hb dX4_sortAt_4 rfl (lv_at hl 1 rfl) ?_
    refine lv_aload_n hx hb dX4_sortAt_5 rfl (lv_at hl 0 rfl) ?_
    have b_2 : 0 ≤ (I x0 1).toInt ∧ (I x0 1).toInt ≤ 1000 := hM.ib mx0 kx0 1 rfl
    refine cr_get (κ := 4) (ci := 4) (k := 1) (C := RX4) (T := TX4) (N := 10) (fs := cfs 4) (v := .int (I x0 1)) E hM mx0 kx0 (fun _ _ => rfl) rfl hin4 (by decide) (index := 21) (mm_at 1 rfl) rfl rfl dX4_sortAt_6 ?_
    refine mm_icmp_lt (X := p0.toInt) (Y := (I x0 1).toInt) (tgt := 14) hx hb dX4_sortAt_9 (by decide) rfl rfl (fun c_3 => ?_) (fun c_3 => ?_)
    · refine lv_aload_n hx hb dX4_sortAt_14 rfl (lv_at hl 0 rfl) ?_
      obtain ⟨x_4, o_4, m_4, k_4⟩ := hM.nn mx0 kx0 0 (κ' := 10) rfl rfl
      refine cr_get (κ := 4) (ci := 4) (k := 0) (C := RX4) (T := TX4) (N := 10) (fs := cfs 4) (v := .ref x_4) E hM mx0 kx0 (fun _ _ => rfl) rfl hin4 (by decide) (index := 9) (mm_at 2 rfl) rfl (by show some (va_rf (O x0 0)) = some (.ref x_4); rw [o_4]; rfl) dX4_sortAt_15 ?_
      refine lv_iload_n hx hb dX4_sortAt_18 rfl (lv_at hl 1 rfl) ?_
      refine cr_bald (κ := 10) (t0 := 0) (X := p0.toInt) E hM m_4 k_4 (fun _ _ => rfl) rfl rfl (by omega) dX4_sortAt_19 ?_
      refine lv_istore_n (lv' := [(2, .int (I x_4 (Int32.toNatClampNeg p0))), (0, .ref x0), (1, .int p0)]) hx hb dX4_sortAt_20 rfl hl (by decide) rfl (fun ls hl => ?_)
      refine lv_iload_n hx hb dX4_sortAt_21 rfl (lv_at hl 0 rfl) ?_
      refine lv_bipush (v := 10) hx hb dX4_sortAt_22 (by decide) ?_
      refine mm_icmp_eq (X := (I x_4 (Int32.toNatClampNeg p0)).toInt) (Y := 10) (tgt := 33) hx hb dX4_sortAt_24 (by decide) rfl num_10 (fun c_5 => ?_) (fun c_5 => ?_)
      · refine lv_iconst (v := 4) hx hb dX4_sortAt_33 (by decide) ?_
        exact cr_ri (mc := 0) (ms := 0) E hr hlk hsz hM ⟨show (0 : Nat) ≤ 0 from by omega, show (0 : Nat) ≤ 0 from by omega⟩ ⟨⟨rfl, rfl, rfl, rfl⟩, (show 0 ≤ (4 : Int32).toInt ∧ (4 : Int32).toInt ≤ 4 ∧ ((4 : Int32).toInt = 0 ∨ p0.toInt ≤ 999) from by have n9 := num_4; omega)⟩ dX4_sortAt_34
      · refine lv_iload_n hx hb dX4_sortAt_27 rfl (lv_at hl 0 rfl) ?_
        refine lv_bipush (v := 32) hx hb dX4_sortAt_28 (by decide) ?_
        refine mm_icmp_ne (X := (I x_4 (Int32.toNatClampNeg p0)).toInt) (Y := 32) (tgt := 35) hx hb dX4_sortAt_30 (by decide) rfl num_32 (fun c_6 => ?_) (fun c_6 => ?_)
        · refine lv_iload_n hx hb dX4_sortAt_35 rfl (lv_at hl 0 rfl) ?_
          refine lv_bipush (v := 97) hx hb dX4_sortAt_36 (by decide) ?_
          refine mm_icmp_lt (X := (I x_4 (Int32.toNatClampNeg p0)).toInt) (Y := 97) (tgt := 49) hx hb dX4_sortAt_38 (by decide) rfl num_97 (fun c_7 => ?_) (fun c_7 => ?_)
          · refine lv_iload_n hx hb dX4_sortAt_49 rfl (lv_at hl 0 rfl) ?_
            refine lv_bipush (v := 48) hx hb dX4_sortAt_50 (by decide) ?_
            refine mm_icmp_lt (X := (I x_4 (Int32.toNatClampNeg p0)).toInt) (Y := 48) (tgt := 65) hx hb dX4_sortAt_52 (by decide) rfl num_48 (fun c_8 => ?_) (fun c_8 => ?_)
            · refine lv_iconst (v := 3) hx hb dX4_sortAt_65 (by decide) ?_
              exact cr_ri (mc := 0) (ms := 0) E hr hlk hsz hM ⟨show (0 : Nat) ≤ 0 from by omega, show (0 : Nat) ≤ 0 from by omega⟩ ⟨⟨rfl, rfl, rfl, rfl⟩, (show 0 ≤ (3 : Int32).toInt ∧ (3 : Int32).toInt ≤ 4 ∧ ((3 : Int32).toInt = 0 ∨ p0.toInt ≤ 999) from by have n9 := num_3; omega)⟩ dX4_sortAt_66
            · refine lv_iload_n hx hb dX4_sortAt_55 rfl (lv_at hl 0 rfl) ?_
              refine lv_bipush (v := 57) hx hb dX4_sortAt_56 (by decide) ?_
              refine mm_icmp_gt (X := (I x_4 (Int32.toNatClampNeg p0)).toInt) (Y := 57) (tgt := 65) hx hb dX4_sortAt_58 (by decide) rfl num_57 (fun c_9 => ?_) (fun c_9 => ?_)
              · refine lv_iconst (v := 3) hx hb dX4_sortAt_65 (by decide) ?_
                exact cr_ri (mc := 0) (ms := 0) E hr hlk hsz hM ⟨show (0 : Nat) ≤ 0 from by omega, show (0 : Nat) ≤ 0 from by omega⟩ ⟨⟨rfl, rfl, rfl, rfl⟩, (show 0 ≤ (3 : Int32).toInt ∧ (3 : Int32).toInt ≤ 4 ∧ ((3 : Int32).toInt = 0 ∨ p0.toInt ≤ 999) from by have n9 := num_3; omega)⟩ dX4_sortAt_66
              · refine lv_iconst (v := 2) hx hb dX4_sortAt_61 (by decide) ?_
                refine lv_goto (tgt := 66) hx hb dX4_sortAt_62 (by decide) ?_
                exact cr_ri (mc := 0) (ms := 0) E hr hlk hsz hM ⟨show (0 : Nat) ≤ 0 from by omega, show (0 : Nat) ≤ 0 from by omega⟩ ⟨⟨rfl, rfl, rfl, rfl⟩, (show 0 ≤ (2 : Int32).toInt ∧ (2 : Int32).toInt ≤ 4 ∧ ((2 : Int32).toInt = 0 ∨ p0.toInt ≤ 999) from by have n9 := num_2; omega)⟩ dX4_sortAt_66
          · refine lv_iload_n hx hb dX4_sortAt_41 rfl (lv_at hl 0 rfl) ?_
            refine lv_bipush (v := 122) hx hb dX4_sortAt_42 (by decide) ?_
            refine mm_icmp_gt (X := (I x_4 (Int32.toNatClampNeg p0)).toInt) (Y := 122) (tgt := 49) hx hb dX4_sortAt_44 (by decide) rfl num_122 (fun c_10 => ?_) (fun c_10 => ?_)
            · refine lv_iload_n hx hb dX4_sortAt_49 rfl (lv_at hl 0 rfl) ?_
              refine lv_bipush (v := 48) hx hb dX4_sortAt_50 (by decide) ?_
              refine mm_icmp_lt (X := (I x_4 (Int32.toNatClampNeg p0)).toInt) (Y := 48) (tgt := 65) hx hb dX4_sortAt_52 (by decide) rfl num_48 (fun c_11 => False.elim (by omega)) (fun c_11 => ?_)
              refine lv_iload_n hx hb dX4_sortAt_55 rfl (lv_at hl 0 rfl) ?_
              refine lv_bipush (v := 57) hx hb dX4_sortAt_56 (by decide) ?_
              refine mm_icmp_gt (X := (I x_4 (Int32.toNatClampNeg p0)).toInt) (Y := 57) (tgt := 65) hx hb dX4_sortAt_58 (by decide) rfl num_57 (fun c_12 => ?_) (fun c_12 => False.elim (by omega))
              refine lv_iconst (v := 3) hx hb dX4_sortAt_65 (by decide) ?_
              exact cr_ri (mc := 0) (ms := 0) E hr hlk hsz hM ⟨show (0 : Nat) ≤ 0 from by omega, show (0 : Nat) ≤ 0 from by omega⟩ ⟨⟨rfl, rfl, rfl, rfl⟩, (show 0 ≤ (3 : Int32).toInt ∧ (3 : Int32).toInt ≤ 4 ∧ ((3 : Int32).toInt = 0 ∨ p0.toInt ≤ 999) from by have n9 := num_3; omega)⟩ dX4_sortAt_66
            · refine lv_iconst (v := 1) hx hb dX4_sortAt_47 (by decide) ?_
              exact cr_ri (mc := 0) (ms := 0) E hr hlk hsz hM ⟨show (0 : Nat) ≤ 0 from by omega, show (0 : Nat) ≤ 0 from by omega⟩ ⟨⟨rfl, rfl, rfl, rfl⟩, (show 0 ≤ (1 : Int32).toInt ∧ (1 : Int32).toInt ≤ 4 ∧ ((1 : Int32).toInt = 0 ∨ p0.toInt ≤ 999) from by have n9 := num_1; omega)⟩ dX4_sortAt_48
        · refine lv_iconst (v := 4) hx hb dX4_sortAt_33 (by decide) ?_
          exact cr_ri (mc := 0) (ms := 0) E hr hlk hsz hM ⟨show (0 : Nat) ≤ 0 from by omega, show (0 : Nat) ≤ 0 from by omega⟩ ⟨⟨rfl, rfl, rfl, rfl⟩, (show 0 ≤ (4 : Int32).toInt ∧ (4 : Int32).toInt ≤ 4 ∧ ((4 : Int32).toInt = 0 ∨ p0.toInt ≤ 999) from by have n9 := num_4; omega)⟩ dX4_sortAt_34
    · refine lv_iconst (v := 0) hx hb dX4_sortAt_12 (by decide) ?_
      exact cr_ri (mc := 0) (ms := 0) E hr hlk hsz hM ⟨show (0 : Nat) ≤ 0 from by omega, show (0 : Nat) ≤ 0 from by omega⟩ ⟨⟨rfl, rfl, rfl, rfl⟩, (show 0 ≤ (0 : Int32).toInt ∧ (0 : Int32).toInt ≤ 4 ∧ ((0 : Int32).toInt = 0 ∨ p0.toInt ≤ 999) from by have n9 := num_0; omega)⟩ dX4_sortAt_13
def w4X4_fail : List Cond := .code yX4_fail cX4_fail 2 (some .boolean) :: ([.fieldLink RX4 137 "SkiShots$Reader" "fault" "I", .fieldLink RX4 54 "SkiShots$Reader" "place" "I", .fieldLink RX4 31 "SkiShots$Reader" "faultPlace" "I"] ++ wsX40)
set_option maxHeartbeats 4000000 in
set_option maxRecDepth 100000 in
theorem h4_X4_fail (l : Launch) (D : va_G) (cA : Nat → ClassId) (ad av : Nat → Nat) (L : List Nat) (K : Nat → Nat) (I : Nat → Nat → Int32) (O : Nat → Nat → Option Nat) (sz : Nat) (x0 : Nat) (p0 : Int32) (hI : cI L K I O) (mx0 : x0 ∈ L) (kx0 : K x0 = 4)  : Met l yX4_fail w4X4_fail ({ frames := 0, cells := 0, slots := 0, locals := 0 }) (cPre D cA ad av L K I O sz [.ref x0, .int p0]) (cQi D cA L K I O sz [] [(4, 4), (4, 5)] [] (fun r L' K' I' O' => r.toInt = 0)) 0 0 (va_A (cW cA L K I O) sz) := by
  refine cr_met (own := RX4) (xs := []) (WI := [(4, 4), (4, 5)]) (WO := []) (cc := cX4_fail) (maxL := 2) (ret := (some .boolean)) (by decide) rfl rfl (Nat.le_of_ble_eq_true rfl) hI ?_
  intro p e s m args below meth c ls E hV hml hr hlk hname hsz hA hM hl
  have hx := E.1
  have hb := E.2.1
  have hts := E.2.2.1
  have hown := E.2.2.2.1
  have hl : lv_has ls 2 [(0, .ref x0), (1, .int p0)] := hl
  have hin4 : ∀ w ∈ wsX40, w ∈ w4X4_fail := by decide +kernel
  refine lv_aload_n hx hb dX4_fail_0 rfl (lv_at hl 0 rfl) ?_
  refine lv_iload_n hx hb dX4_fail_1 rfl (lv_at hl 1 rfl) ?_
  refine cr_puti (κ := 4) (ci := 4) (k := 4) (C := RX4) (T := TX4) (N := 10) (fs := cfs 4) (ty := .int) (v := p0) E hM mx0 kx0 (fun _ _ => rfl) rfl hin4 tyX4 tyX4_ok nmX4 (by decide) (index := 137) (mm_at 1 rfl) rfl (Or.inl rfl) (by decide +kernel) rfl rfl (show (4 : Nat) < 10 from by decide) (fun _ _ _ => rfl) (cz_nb rfl) (cS_upd (hM.sp mx0 kx0) (by decide) (by decide)) (Or.inr (Or.inr rfl)) dX4_fail_2 (fun H locs I_1 eI_1 hM => ?_)
  refine lv_aload_n hx hb dX4_fail_5 rfl (lv_at hl 0 rfl) ?_
  refine lv_aload_n hx hb dX4_fail_6 rfl (lv_at hl 0 rfl) ?_
  have b_2 : 0 ≤ (I_1 x0 7).toInt ∧ (I_1 x0 7).toInt ≤ 1000 := hM.ib mx0 kx0 7 rfl
  have e_3 : (I_1 x0 7).toInt = (I x0 7).toInt := congrArg Int32.toInt (cu_k eI_1 (by decide))
  refine cr_get (κ := 4) (ci := 4) (k := 7) (C := RX4) (T := TX4) (N := 10) (fs := cfs 4) (v := .int (I_1 x0 7)) E hM mx0 kx0 (fun _ _ => rfl) rfl hin4 (by decide) (index := 54) (mm_at 2 rfl) rfl rfl dX4_fail_7 ?_
  refine cr_puti (κ := 4) (ci := 4) (k := 5) (C := RX4) (T := TX4) (N := 10) (fs := cfs 4) (ty := .int) (v := (I_1 x0 7)) E hM mx0 kx0 (fun _ _ => rfl) rfl hin4 tyX4 tyX4_ok nmX4 (by decide) (index := 31) (mm_at 3 rfl) rfl (Or.inl rfl) (by decide +kernel) rfl rfl (show (5 : Nat) < 10 from by decide) (fun _ _ _ => rfl) (cz_nb rfl) (cS_upd (hM.sp mx0 kx0) (by decide) (by decide)) (Or.inr (Or.inr rfl)) dX4_fail_10 (fun H locs I_4 eI_4 hM => ?_)
  refine lv_iconst (v := 0) hx hb dX4_fail_13 (by decide) ?_
  exact cr_rz (mc := 0) (ms := 0) (X := 0) E hr hlk hsz hM ⟨show (0 : Nat) ≤ 0 from by omega, show (0 : Nat) ≤ 0 from by omega⟩ num_0 (by omega) (show (0 : Int32).toInt = 0 from by have n9 := num_0; omega) dX4_fail_14
