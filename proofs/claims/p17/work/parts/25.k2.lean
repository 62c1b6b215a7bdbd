def w4J6_bitCount_0f7a4 : List Cond := .code yJ6_bitCount_0f7a4 cJ6_bitCount_0f7a4 1 (some .int) :: ([.constant RJ6 265 (1431655765), .constant RJ6 266 (858993459), .constant RJ6 267 (252645135)])
set_option maxHeartbeats 4000000 in
set_option maxRecDepth 100000 in
theorem h4_J6_bitCount_0f7a4 (l : Launch) (D : va_G) (cA : Nat → ClassId) (ad av : Nat → Nat) (L : List Nat) (K : Nat → Nat) (I : Nat → Nat → Int32) (O : Nat → Nat → Option Nat) (sz : Nat) (p0 : Int32) (hI : cI L K I O)  : Met l yJ6_bitCount_0f7a4 w4J6_bitCount_0f7a4 ({ frames := 0, cells := 0, slots := 0, locals := 0 }) (cPre D cA ad av L K I O sz [.int p0]) (cQi D cA L K I O sz [] [] [] (fun r L' K' I' O' => (L' = L ∧ K' = K ∧ I' = I ∧ O' = O) ∧ (True))) 0 0 (va_A (cW cA L K I O) sz) := by
  refine cr_met (own := RJ6) (xs := []) (WI := []) (WO := []) (cc := cJ6_bitCount_0f7a4) (maxL := 1) (ret := (some .int)) (by decide) rfl rfl (Nat.le_of_ble_eq_true rfl) hI ?_
  intro p e s m args below meth c ls E hV hml hr hlk hname hsz hA hM hl
  have hx := E.1
  have hb := E.2.1
  have hts := E.2.2.1
  have hown := E.2.2.2.1
  have hl : lv_has ls 1 [(0, .int p0)] := hl
  refine lv_iload_n hx hb dJ6_bitCount_0f7a4_0 rfl (lv_at hl 0 rfl) ?_
  refine lv_iload_n hx hb dJ6_bitCount_0f7a4_1 rfl (lv_at hl 0 rfl) ?_
  refine lv_iconst (v := 1) hx hb dJ6_bitCount_0f7a4_2 (by decide) ?_
  refine lv_iushr hx hb dJ6_bitCount_0f7a4_3 rfl ?_
  refine lv_topi (fun z_1 _ => ?_)
  refine lv_ldcw (v := 1431655765) hx hb hown (hts _ (mm_at 1 rfl)) dJ6_bitCount_0f7a4_4 ?_
  refine mm_iandU hx hb dJ6_bitCount_0f7a4_7 (fun z_2 => ?_)
  refine mm_isubU hx hb dJ6_bitCount_0f7a4_8 (fun z_3 => ?_)
  refine lv_istore_n (lv' := [(0, .int z_3)]) hx hb dJ6_bitCount_0f7a4_9 rfl hl (by decide) rfl (fun ls hl => ?_)
  refine lv_iload_n hx hb dJ6_bitCount_0f7a4_10 rfl (lv_at hl 0 rfl) ?_
  refine lv_ldcw (v := 858993459) hx hb hown (hts _ (mm_at 2 rfl)) dJ6_bitCount_0f7a4_11 ?_
  refine mm_iandU hx hb dJ6_bitCount_0f7a4_14 (fun z_4 => ?_)
  refine lv_iload_n hx hb dJ6_bitCount_0f7a4_15 rfl (lv_at hl 0 rfl) ?_
  refine lv_iconst (v := 2) hx hb dJ6_bitCount_0f7a4_16 (by decide) ?_
  refine lv_iushr hx hb dJ6_bitCount_0f7a4_17 rfl ?_
  refine lv_topi (fun z_5 _ => ?_)
  refine lv_ldcw (v := 858993459) hx hb hown (hts _ (mm_at 2 rfl)) dJ6_bitCount_0f7a4_18 ?_
  refine mm_iandU hx hb dJ6_bitCount_0f7a4_21 (fun z_6 => ?_)
  refine mm_iaddU hx hb dJ6_bitCount_0f7a4_22 (fun z_7 => ?_)
  refine lv_istore_n (lv' := [(0, .int z_7)]) hx hb dJ6_bitCount_0f7a4_23 rfl hl (by decide) rfl (fun ls hl => ?_)
  refine lv_iload_n hx hb dJ6_bitCount_0f7a4_24 rfl (lv_at hl 0 rfl) ?_
  refine lv_iload_n hx hb dJ6_bitCount_0f7a4_25 rfl (lv_at hl 0 rfl) ?_
  refine lv_iconst (v := 4) hx hb dJ6_bitCount_0f7a4_26 (by decide) ?_
  refine lv_iushr hx hb dJ6_bitCount_0f7a4_27 rfl ?_
  refine lv_topi (fun z_8 _ => ?_)
  refine mm_iaddU hx hb dJ6_bitCount_0f7a4_28 (fun z_9 => ?_)
  refine lv_ldcw (v := 252645135) hx hb hown (hts _ (mm_at 3 rfl)) dJ6_bitCount_0f7a4_29 ?_
  refine mm_iandU hx hb dJ6_bitCount_0f7a4_32 (fun z_10 => ?_)
  refine lv_istore_n (lv' := [(0, .int z_10)]) hx hb dJ6_bitCount_0f7a4_33 rfl hl (by decide) rfl (fun ls hl => ?_)
  refine lv_iload_n hx hb dJ6_bitCount_0f7a4_34 rfl (lv_at hl 0 rfl) ?_
  refine lv_iload_n hx hb dJ6_bitCount_0f7a4_35 rfl (lv_at hl 0 rfl) ?_
  refine lv_bipush (v := 8) hx hb dJ6_bitCount_0f7a4_36 (by decide) ?_
  refine lv_iushr hx hb dJ6_bitCount_0f7a4_38 rfl ?_
  refine lv_topi (fun z_11 _ => ?_)
  refine mm_iaddU hx hb dJ6_bitCount_0f7a4_39 (fun z_12 => ?_)
  refine lv_istore_n (lv' := [(0, .int z_12)]) hx hb dJ6_bitCount_0f7a4_40 rfl hl (by decide) rfl (fun ls hl => ?_)
  refine lv_iload_n hx hb dJ6_bitCount_0f7a4_41 rfl (lv_at hl 0 rfl) ?_
  refine lv_iload_n hx hb dJ6_bitCount_0f7a4_42 rfl (lv_at hl 0 rfl) ?_
  refine lv_bipush (v := 16) hx hb dJ6_bitCount_0f7a4_43 (by decide) ?_
  refine lv_iushr hx hb dJ6_bitCount_0f7a4_45 rfl ?_
  refine lv_topi (fun z_13 _ => ?_)
  refine mm_iaddU hx hb dJ6_bitCount_0f7a4_46 (fun z_14 => ?_)
  refine lv_istore_n (lv' := [(0, .int z_14)]) hx hb dJ6_bitCount_0f7a4_47 rfl hl (by decide) rfl (fun ls hl => ?_)
  refine lv_iload_n hx hb dJ6_bitCount_0f7a4_48 rfl (lv_at hl 0 rfl) ?_
  refine lv_bipush (v := 63) hx hb dJ6_bitCount_0f7a4_49 (by decide) ?_
  refine mm_iandU hx hb dJ6_bitCount_0f7a4_51 (fun z_15 => ?_)
  exact cr_ri (mc := 0) (ms := 0) E hr hlk hsz hM ⟨show (0 : Nat) ≤ 0 from by omega, show (0 : Nat) ≤ 0 from by omega⟩ ⟨⟨rfl, rfl, rfl, rfl⟩, trivial⟩ dJ6_bitCount_0f7a4_52
def w4X0_known : List Cond := .code yX0_known cX0_known 5 (some .int) :: ([.fieldLink RX0 19 "SkiShots$Event" "day" "I", .fieldLink RX0 33 "SkiShots$Event" "before" "LSkiShots$Event;", .fieldLink RX0 24 "SkiShots$Event" "sort" "I", .fieldLink RX0 27 "SkiShots$Event" "k" "I", .fieldLink RX0 30 "SkiShots$Event" "v" "I", .fieldLink RX0 15 "SkiShots$Entry" "latest" "LSkiShots$Event;"] ++ wsX00 ++ wsX10)
set_option maxHeartbeats 4000000 in
set_option maxRecDepth 100000 in
theorem h4_X0_known (l : Launch) (D : va_G) (cA : Nat → ClassId) (ad av : Nat → Nat) (L : List Nat) (K : Nat → Nat) (I : Nat → Nat → Int32) (O : Nat → Nat → Option Nat) (sz : Nat) (x0 : Nat) (p0 : Int32) (p1 : Int32) (p2 : Int32) (hI : cI L K I O) (mx0 : x0 ∈ L) (kx0 : K x0 = 0)  : Met l yX0_known w4X0_known ({ frames := 0, cells := 0, slots := 0, locals := 0 }) (cPre D cA ad av L K I O sz [.ref x0, .int p0, .int p1, .int p2]) (cQi D cA L K I O sz [] [] [] (fun r L' K' I' O' => (L' = L ∧ K' = K ∧ I' = I ∧ O' = O) ∧ (True))) 0 0 (va_A (cW cA L K I O) sz) := by
  refine cr_met (own := RX0) (xs := []) (WI := []) (WO := []) (cc := cX0_known) (maxL := 5) (ret := (some .int)) (by decide) rfl rfl (Nat.le_of_ble_eq_true rfl) hI ?_
  intro p e s m args below meth c ls E hV hml hr hlk hname hsz hA hM hl
  have hx := E.1
  have hb := E.2.1
  have hts := E.2.2.1
  have hown := E.2.2.2.1
  have hl : lv_has ls 5 [(0, .ref x0), (1, .int p0), (2, .int p1), (3, .int p2)] := hl
  have hin0 : ∀ w ∈ wsX00, w ∈ w4X0_known := by decide +kernel
  have hin1 : ∀ w ∈ wsX10, w ∈ w4X0_known := by decide +kernel
  have B_6 : ∀ n_6 : Nat, ∀ (H : Heap) (locs : List Loc) (ls : Array Slot) (w : Option Nat), (∀ b : Nat, w = some b → b ∈ L ∧ K b = 1) → (cmw L w) < (n_6 : Int) → cQ D cA (va_A (cW cA L K I O) sz) s.heap [] [] [] L K I O H locs L K I O → lv_has ls 5 [(0, .ref x0), (1, .int p0), (2, .int p1), (3, .int p2), (4, va_rf w)] → W p l e ({ frames := 0, cells := 0, slots := 0, locals := 0 }) s m args below meth c H locs 0 0 (MQ below (cQi D cA L K I O sz [] [] [] (fun r L' K' I' O' => (L' = L ∧ K' = K ∧ I' = I ∧ O' = O) ∧ (True))) args s 0 0 (va_A (cW cA L K I O) sz)) (F0 m 6 ls []) := by
    intro n_6
    induction n_6 with
    | zero => intro H locs ls w y6_0 hn hM hl; exact False.elim (by have h0 := c_mw0 L w; omega)
    | succ n_6 ih_6 =>
      intro H locs ls w y6_0 hn hM hl
      rcases w with _ | xw_6
      · have hl : lv_has ls 5 [(0, .ref x0), (1, .int p0), (2, .int p1), (3, .int p2), (4, .null)] := hl
        refine lv_aloadN hx hb dX0_known_6 (lv_at hl 4 rfl) ?_
        refine lv_ifnullN (tgt := 54) hx hb dX0_known_8 (by decide) ?_
        refine lv_iconst (v := (-1)) hx hb dX0_known_54 (by decide) ?_
        exact cr_ri (mc := 0) (ms := 0) E hr hlk hsz hM ⟨show (0 : Nat) ≤ 0 from by omega, show (0 : Nat) ≤ 0 from by omega⟩ ⟨⟨rfl, rfl, rfl, rfl⟩, trivial⟩ dX0_known_55
      · obtain ⟨mw_6, kw_6⟩ := y6_0 _ rfl
        have hn2 : (crk L xw_6 : Int) + 1 < ((n_6 + 1 : Nat) : Int) := hn
        have hl : lv_has ls 5 [(0, .ref x0), (1, .int p0), (2, .int p1), (3, .int p2), (4, .ref xw_6)] := hl
        refine lv_aload hx hb dX0_known_6 (lv_at hl 4 rfl) ?_
        refine lv_ifnull hx hb dX0_known_8 ?_
        refine lv_aload hx hb dX0_known_11 (lv_at hl 4 rfl) ?_
        refine cr_get (κ := 1) (ci := 1) (k := 0) (C := RX1) (T := TX1) (N := 5) (fs := cfs 1) (v := .int (I xw_6 0)) E hM mw_6 kw_6 (fun _ _ => rfl) rfl hin1 (by decide) (index := 19) (mm_at 1 rfl) rfl rfl dX0_known_13 ?_
        refine lv_iload_n hx hb dX0_known_16 rfl (lv_at hl 3 rfl) ?_
        refine mm_icmp_gt (X := (I xw_6 0).toInt) (Y := p2.toInt) (tgt := 44) hx hb dX0_known_17 (by decide) rfl rfl (fun c_1 => ?_) (fun c_1 => ?_)
        · refine lv_aload hx hb dX0_known_44 (lv_at hl 4 rfl) ?_
          rcases o_2 : O xw_6 4 with _ | x_2
          · refine cr_get (κ := 1) (ci := 1) (k := 4) (C := RX1) (T := TX1) (N := 5) (fs := cfs 1) (v := .null) E hM mw_6 kw_6 (fun _ _ => rfl) rfl hin1 (by decide) (index := 33) (mm_at 2 rfl) rfl (by show some (va_rf (O xw_6 4)) = some (.null); rw [o_2]; rfl) dX0_known_46 ?_
            refine lv_astoreN (lv' := [(4, .null), (0, .ref x0), (1, .int p0), (2, .int p1), (3, .int p2)]) hx hb dX0_known_49 hl (by decide) rfl (fun ls hl => ?_)
            refine lv_goto (tgt := 6) hx hb dX0_known_51 (by decide) ?_
            exact ih_6 _ _ _    none (fun b h => by cases h) (show (cmw L none) < ((n_6 : Nat) : Int) from by show (0 : Int) < _; omega) hM (lv_sub hl [1, 2, 3, 4, 0] rfl)
          · obtain ⟨m_2, k_2⟩ := hM.rt mw_6 kw_6 4 (κ' := 1) rfl o_2
            refine cr_get (κ := 1) (ci := 1) (k := 4) (C := RX1) (T := TX1) (N := 5) (fs := cfs 1) (v := .ref x_2) E hM mw_6 kw_6 (fun _ _ => rfl) rfl hin1 (by decide) (index := 33) (mm_at 2 rfl) rfl (by show some (va_rf (O xw_6 4)) = some (.ref x_2); rw [o_2]; rfl) dX0_known_46 ?_
            refine lv_astore (lv' := [(4, .ref x_2), (0, .ref x0), (1, .int p0), (2, .int p1), (3, .int p2)]) hx hb dX0_known_49 hl (by decide) rfl (fun ls hl => ?_)
            refine lv_goto (tgt := 6) hx hb dX0_known_51 (by decide) ?_
            exact ih_6 _ _ _    (some x_2) (fun b h => by cases h; exact ⟨m_2, k_2⟩) (show (cmw L (some x_2)) < ((n_6 : Nat) : Int) from by show (crk L x_2 : Int) + 1 < _; have h9 := (hM.sp mw_6 kw_6).1 rfl x_2 o_2; omega) hM (lv_sub hl [1, 2, 3, 4, 0] rfl)
        · refine lv_aload hx hb dX0_known_20 (lv_at hl 4 rfl) ?_
          refine cr_get (κ := 1) (ci := 1) (k := 1) (C := RX1) (T := TX1) (N := 5) (fs := cfs 1) (v := .int (I xw_6 1)) E hM mw_6 kw_6 (fun _ _ => rfl) rfl hin1 (by decide) (index := 24) (mm_at 3 rfl) rfl rfl dX0_known_22 ?_
          refine lv_iload_n hx hb dX0_known_25 rfl (lv_at hl 1 rfl) ?_
          refine mm_icmp_ne (X := (I xw_6 1).toInt) (Y := p0.toInt) (tgt := 44) hx hb dX0_known_26 (by decide) rfl rfl (fun c_3 => ?_) (fun c_3 => ?_)
          · refine lv_aload hx hb dX0_known_44 (lv_at hl 4 rfl) ?_
            rcases o_4 : O xw_6 4 with _ | x_4
            · refine cr_get (κ := 1) (ci := 1) (k := 4) (C := RX1) (T := TX1) (N := 5) (fs := cfs 1) (v := .null) E hM mw_6 kw_6 (fun _ _ => rfl) rfl hin1 (by decide) (index := 33) (mm_at 2 rfl) rfl (by show some (va_rf (O xw_6 4)) = some (.null); rw [o_4]; rfl) dX0_known_46 ?_
              refine lv_astoreN (lv' := [(4, .null), (0, .ref x0), (1, .int p0), (2, .int p1), (3, .int p2)]) hx hb dX0_known_49 hl (by decide) rfl (fun ls hl => ?_)
              refine lv_goto (tgt := 6) hx hb dX0_known_51 (by decide) ?_
              exact ih_6 _ _ _    none (fun b h => by cases h) (show (cmw L none) < ((n_6 : Nat) : Int) from by show (0 : Int) < _; omega) hM (lv_sub hl [1, 2, 3, 4, 0] rfl)
            · obtain ⟨m_4, k_4⟩ := hM.rt mw_6 kw_6 4 (κ' := 1) rfl o_4
              refine cr_get (κ := 1) (ci := 1) (k := 4) (C := RX1) (T := TX1) (N := 5) (fs := cfs 1) (v := .ref x_4) E hM mw_6 kw_6 (fun _ _ => rfl) rfl hin1 (by decide) (index := 33) (mm_at 2 rfl) rfl (by show some (va_rf (O xw_6 4)) = some (.ref x_4); rw [o_4]; rfl) dX0_known_46 ?_
              refine lv_astore (lv' := [(4, .ref x_4), (0, .ref x0), (1, .int p0), (2, .int p1), (3, .int p2)]) hx hb dX0_known_49 hl (by decide) rfl (fun ls hl => ?_)
              refine lv_goto (tgt := 6) hx hb dX0_known_51 (by decide) ?_
              exact ih_6 _ _ _    (some x_4) (fun b h => by cases h; exact ⟨m_4, k_4⟩) (show (cmw L (some x_4)) < ((n_6 : Nat) : Int) from by show (crk L x_4 : Int) + 1 < _; have h9 := (hM.sp mw_6 kw_6).1 rfl x_4 o_4; omega) hM (lv_sub hl [1, 2, 3, 4, 0] rfl)
          · refine lv_aload hx hb dX0_known_29 (lv_at hl 4 rfl) ?_
            refine cr_get (κ := 1) (ci := 1) (k := 2) (C := RX1) (T := TX1) (N := 5) (fs := cfs 1) (v := .int (I xw_6 2)) E hM mw_6 kw_6 (fun _ _ => rfl) rfl hin1 (by decide) (index := 27) (mm_at 4 rfl) rfl rfl dX0_known_31 ?_
            refine lv_iload_n hx hb dX0_known_34 rfl (lv_at hl 2 rfl) ?_
            refine mm_icmp_ne (X := (I xw_6 2).toInt) (Y := p1.toInt) (tgt := 44) hx hb dX0_known_35 (by decide) rfl rfl (fun c_5 => ?_) (fun c_5 => ?_)
            · refine lv_aload hx hb dX0_known_44 (lv_at hl 4 rfl) ?_
              rcases o_6 : O xw_6 4 with _ | x_6
              · refine cr_get (κ := 1) (ci := 1) (k := 4) (C := RX1) (T := TX1) (N := 5) (fs := cfs 1) (v := .null) E hM mw_6 kw_6 (fun _ _ => rfl) rfl hin1 (by decide) (index := 33) (mm_at 2 rfl) rfl (by show some (va_rf (O xw_6 4)) = some (.null); rw [o_6]; rfl) dX0_known_46 ?_
                refine lv_astoreN (lv' := [(4, .null), (0, .ref x0), (1, .int p0), (2, .int p1), (3, .int p2)]) hx hb dX0_known_49 hl (by decide) rfl (fun ls hl => ?_)
                refine lv_goto (tgt := 6) hx hb dX0_known_51 (by decide) ?_
                exact ih_6 _ _ _    none (fun b h => by cases h) (show (cmw L none) < ((n_6 : Nat) : Int) from by show (0 : Int) < _; omega) hM (lv_sub hl [1, 2, 3, 4, 0] rfl)
              · obtain ⟨m_6, k_6⟩ := hM.rt mw_6 kw_6 4 (κ' := 1) rfl o_6
                refine cr_get (κ := 1) (ci := 1) (k := 4) (C := RX1) (T := TX1) (N := 5) (fs := cfs 1) (v := .ref x_6) E hM mw_6 kw_6 (fun _ _ => rfl) rfl hin1 (by decide) (index := 33) (mm_at 2 rfl) rfl (by show some (va_rf (O xw_6 4)) = some (.ref x_6); rw [o_6]; rfl) dX0_known_46 ?_
                refine lv_astore (lv' := [(4, .ref x_6), (0, .ref x0), (1, .int p0), (2, .int p1), (3, .int p2)]) hx hb dX0_known_49 hl (by decide) rfl (fun ls hl => ?_)
                refine lv_goto (tgt := 6) hx hb dX0_known_51 (by decide) ?_
                exact ih_6 _ _ _    (some x_6) (fun b h => by cases h; exact ⟨m_6, k_6⟩) (show (cmw L (some x_6)) < ((n_6 : Nat) : Int) from by show (crk L x_6 : Int) + 1 < _; have h9 := (hM.sp mw_6 kw_6).1 rfl x_6 o_6; omega) hM (lv_sub hl [1, 2, 3, 4, 0] rfl)
            · refine lv_aload hx hb dX0_known_38 (lv_at hl 4 rfl) ?_
              refine cr_get (κ := 1) (ci := 1) (k := 3) (C := RX1) (T := TX1) (N := 5) (fs := cfs 1) (v := .int (I xw_6 3)) E hM mw_6 kw_6 (fun _ _ => rfl) rfl hin1 (by decide) (index := 30) (mm_at 5 rfl) rfl rfl dX0_known_40 ?_
              exact cr_ri (mc := 0) (ms := 0) E hr hlk hsz hM ⟨show (0 : Nat) ≤ 0 from by omega, show (0 : Nat) ≤ 0 from by omega⟩ ⟨⟨rfl, rfl, rfl, rfl⟩, trivial⟩ dX0_known_43
  refine lv_aload_n hx hb dX0_known_0 rfl (lv_at hl 0 rfl) ?_
  rcases o_7 : O x0 1 with _ | x_7
  · refine cr_get (κ := 0) (ci := 0) (k := 1) (C := RX0) (T := TX0) (N := 10) (fs := cfs 0) (v := .null) E hM mx0 kx0 (fun _ _ => rfl) rfl hin0 (by decide) (index := 15) (mm_at 6 rfl) rfl (by show some (va_rf (O x0 1)) = some (.null); rw [o_7]; rfl) dX0_known_1 ?_
    refine lv_astoreN (lv' := [(4, .null), (0, .ref x0), (1, .int p0), (2, .int p1), (3, .int p2)]) hx hb dX0_known_4 hl (by decide) rfl (fun ls hl => ?_)
    exact B_6 (1) _ _ _    none (fun b h => by cases h) (show (cmw L none) < ((1 : Nat) : Int) from by show (0 : Int) < _; omega) hM (lv_sub hl [1, 2, 3, 4, 0] rfl)
  · obtain ⟨m_7, k_7⟩ := hM.rt mx0 kx0 1 (κ' := 1) rfl o_7
    refine cr_get (κ := 0) (ci := 0) (k := 1) (C := RX0) (T := TX0) (N := 10) (fs := cfs 0) (v := .ref x_7) E hM mx0 kx0 (fun _ _ => rfl) rfl hin0 (by decide) (index := 15) (mm_at 6 rfl) rfl (by show some (va_rf (O x0 1)) = some (.ref x_7); rw [o_7]; rfl) dX0_known_1 ?_
    refine lv_astore (lv' := [(4, .ref x_7), (0, .ref x0), (1, .int p0), (2, .int p1), (3, .int p2)]) hx hb dX0_known_4 hl (by decide) rfl (fun ls hl => ?_)
    exact B_6 (crk L x_7 + 2) _ _ _    (some x_7) (fun b h => by cases h; exact ⟨m_7, k_7⟩) (show (cmw L (some x_7)) < ((crk L x_7 + 2 : Nat) : Int) from by show (crk L x_7 : Int) + 1 < _; omega) hM (lv_sub hl [1, 2, 3, 4, 0] rfl)
def w4J0_coder_7d493 : List Cond := .code yJ0_coder_7d493 cJ0_coder_7d493 1 (some .byte) :: ([.fieldLink RJ0 38 "java/lang/String" "COMPACT_STRINGS" "Z", .fieldLink RJ0 15 "java/lang/String" "coder" "B"])
set_option maxHeartbeats 4000000 in
set_option maxRecDepth 100000 in
theorem h4_J0_coder_7d493 (l : Launch) (D : va_G) (cA : Nat → ClassId) (ad av : Nat → Nat) (L : List Nat) (K : Nat → Nat) (I : Nat → Nat → Int32) (O : Nat → Nat → Option Nat) (sz : Nat) (si : Nat) (hI : cI L K I O) (hsi : si < 11)  : Met l yJ0_coder_7d493 w4J0_coder_7d493 ({ frames := 0, cells := 0, slots := 0, locals := 0 }) (cPre D cA ad av L K I O sz [.ref (ad si)]) (cQi D cA L K I O sz [] [] [] (fun r L' K' I' O' => (L' = L ∧ K' = K ∧ I' = I ∧ O' = O) ∧ (r.toInt = 0))) 0 0 (va_A (cW cA L K I O) sz) := by
  refine cr_met (own := RJ0) (xs := []) (WI := []) (WO := []) (cc := cJ0_coder_7d493) (maxL := 1) (ret := (some .byte)) (by decide) rfl rfl (Nat.le_of_ble_eq_true rfl) hI ?_
  intro p e s m args below meth c ls E hV hml hr hlk hname hsz hA hM hl
  have hx := E.1
  have hb := E.2.1
  have hts := E.2.2.1
  have hown := E.2.2.2.1
  have hl : lv_has ls 1 [(0, .ref (ad si))] := hl
  refine va_gets (v := .int 1) hx hb hV.2.2.2.1 hM.2.2.1 hown (hts _ (mm_at 1 rfl)) (fun _ h => h) dJ0_coder_7d493_0 ?_
  refine mm_if_eq (X := 1) (tgt := 13) hx hb dJ0_coder_7d493_3 (by decide) num_1 (fun c_1 => False.elim (by omega)) (fun c_1 => ?_)
  refine lv_aload_n hx hb dJ0_coder_7d493_6 rfl (lv_at hl 0 rfl) ?_
  refine vk_getf (v := .int 0) hx hb (hV.2.1.1 si hsi).2.1 hM.2.2.1 hown (hts _ (mm_at 2 rfl)) (fun _ h => h) dJ0_coder_7d493_7 ?_
  refine lv_goto (tgt := 14) hx hb dJ0_coder_7d493_10 (by decide) ?_
  exact cr_rn (mc := 0) (ms := 0) E hr hlk hsz hM ⟨show (0 : Nat) ≤ 0 from by omega, show (0 : Nat) ≤ 0 from by omega⟩ rfl ⟨⟨rfl, rfl, rfl, rfl⟩, (show (0 : Int32).toInt = 0 from by have n9 := num_0; omega)⟩ dJ0_coder_7d493_14
def w4J0_isLatin1_aae02 : List Cond := .code yJ0_isLatin1_aae02 cJ0_isLatin1_aae02 1 (some .boolean) :: ([.fieldLink RJ0 38 "java/lang/String" "COMPACT_STRINGS" "Z", .fieldLink RJ0 15 "java/lang/String" "coder" "B"])
set_option maxHeartbeats 4000000 in
set_option maxRecDepth 100000 in
theorem h4_J0_isLatin1_aae02 (l : Launch) (D : va_G) (cA : Nat → ClassId) (ad av : Nat → Nat) (L : List Nat) (K : Nat → Nat) (I : Nat → Nat → Int32) (O : Nat → Nat → Option Nat) (sz : Nat) (si : Nat) (hI : cI L K I O) (hsi : si < 11)  : Met l yJ0_isLatin1_aae02 w4J0_isLatin1_aae02 ({ frames := 0, cells := 0, slots := 0, locals := 0 }) (cPre D cA ad av L K I O sz [.ref (ad si)]) (cQi D cA L K I O sz [] [] [] (fun r L' K' I' O' => (L' = L ∧ K' = K ∧ I' = I ∧ O' = O) ∧ (r.toInt = 1))) 0 0 (va_A (cW cA L K I O) sz) := by
  refine cr_met (own := RJ0) (xs := []) (WI := []) (WO := []) (cc := cJ0_isLatin1_aae02) (maxL := 1) (ret := (some .boolean)) (by decide) rfl rfl (Nat.le_of_ble_eq_true rfl) hI ?_
  intro p e s m args below meth c ls E hV hml hr hlk hname hsz hA hM hl
  have hx := E.1
  have hb := E.2.1
  have hts := E.2.2.1
  have hown := E.2.2.2.1
  have hl : lv_has ls 1 [(0, .ref (ad si))] := hl
  refine va_gets (v := .int 1) hx hb hV.2.2.2.1 hM.2.2.1 hown (hts _ (mm_at 1 rfl)) (fun _ h => h) dJ0_isLatin1_aae02_0 ?_
  refine mm_if_eq (X := 1) (tgt := 17) hx hb dJ0_isLatin1_aae02_3 (by decide) num_1 (fun c_1 => False.elim (by omega)) (fun c_1 => ?_)
  refine lv_aload_n hx hb dJ0_isLatin1_aae02_6 rfl (lv_at hl 0 rfl) ?_
  refine vk_getf (v := .int 0) hx hb (hV.2.1.1 si hsi).2.1 hM.2.2.1 hown (hts _ (mm_at 2 rfl)) (fun _ h => h) dJ0_isLatin1_aae02_7 ?_
  refine mm_if_ne (X := 0) (tgt := 17) hx hb dJ0_isLatin1_aae02_10 (by decide) num_0 (fun c_2 => False.elim (by omega)) (fun c_2 => ?_)
  refine lv_iconst (v := 1) hx hb dJ0_isLatin1_aae02_13 (by decide) ?_
  refine lv_goto (tgt := 18) hx hb dJ0_isLatin1_aae02_14 (by decide) ?_
  exact cr_rz (mc := 0) (ms := 0) (X := 1) E hr hlk hsz hM ⟨show (0 : Nat) ≤ 0 from by omega, show (0 : Nat) ≤ 0 from by omega⟩ num_1 (by omega) ⟨⟨rfl, rfl, rfl, rfl⟩, (show (1 : Int32).toInt = 1 from by have n9 := num_1; omega)⟩ dJ0_isLatin1_aae02_18
def w4J0_length_8abf5 : List Cond := .code yJ0_length_8abf5 cJ0_length_8abf5 1 (some .int) :: ([.fieldLink RJ0 9 "java/lang/String" "value" "[B", .methodLink RJ0 335 yJ0_coder_7d493, .instanceMethod yJ0_coder_7d493, .selects RJ0 yJ0_coder_7d493 yJ0_coder_7d493, .initialized RJ0, .code yJ0_coder_7d493 cJ0_coder_7d493 1 (some .byte), .fieldLink RJ0 38 "java/lang/String" "COMPACT_STRINGS" "Z", .fieldLink RJ0 15 "java/lang/String" "coder" "B"])
set_option maxRecDepth 20000 in
theorem gk_J0_length_8abf5_J0_coder_7d493_2 : GoodIn w4J0_length_8abf5 (wsV RJ0 335 RJ0 yJ0_coder_7d493 w4J0_coder_7d493) := goodIn_p _ [6] rfl (by decide +kernel)
set_option maxHeartbeats 4000000 in
set_option maxRecDepth 100000 in
theorem h4_J0_length_8abf5 (l : Launch) (D : va_G) (cA : Nat → ClassId) (ad av : Nat → Nat) (L : List Nat) (K : Nat → Nat) (I : Nat → Nat → Int32) (O : Nat → Nat → Option Nat) (sz : Nat) (si : Nat) (hI : cI L K I O) (hsi : si < 11)  : Met l yJ0_length_8abf5 w4J0_length_8abf5 ({ frames := 1, cells := 0, slots := 0, locals := 20 }) (cPre D cA ad av L K I O sz [.ref (ad si)]) (cQi D cA L K I O sz [] [] [] (fun r L' K' I' O' => (L' = L ∧ K' = K ∧ I' = I ∧ O' = O) ∧ (r.toInt = (cln.getD si 0 : Int)))) 0 0 (va_A (cW cA L K I O) sz) := by
  refine cr_met (own := RJ0) (xs := []) (WI := []) (WO := []) (cc := cJ0_length_8abf5) (maxL := 1) (ret := (some .int)) (by decide) rfl rfl (Nat.le_of_ble_eq_true rfl) hI ?_
  intro p e s m args below meth c ls E hV hml hr hlk hname hsz hA hM hl
  have hx := E.1
  have hb := E.2.1
  have hts := E.2.2.1
  have hown := E.2.2.2.1
  have hl : lv_has ls 1 [(0, .ref (ad si))] := hl
  refine lv_aload_n hx hb dJ0_length_8abf5_0 rfl (lv_at hl 0 rfl) ?_
  refine vk_getf (v := .ref (av si)) hx hb (hV.2.1.1 si hsi).2.2.1 hM.2.2.1 hown (hts _ (mm_at 1 rfl)) (fun _ h => h) dJ0_length_8abf5_1 ?_
  refine va_tlen (v := Int32.ofNat (cln.getD si 0)) hx hb (hV.2.1.1 si hsi).2.2.2 hM.2.2.1 rfl dJ0_length_8abf5_4 ?_
  obtain ⟨z_1, hz_1⟩ : ∃ z : Int32, z = Int32.ofNat (cln.getD si 0) := ⟨_, rfl⟩
  rw [← hz_1]
  have tz_1 : z_1.toInt = (cln.getD si 0 : Int) := by rw [hz_1]; exact (c_len hsi).1
  refine lv_aload_n hx hb dJ0_length_8abf5_5 rfl (lv_at hl 0 rfl) ?_
  refine cc_Jip (vs := []) (rest := [.int z_1]) (b := (ad si)) E hV rfl hA hml hM (vk_recv hV.2.1 hsi hM.2.2.1) (h4_J0_coder_7d493 l D cA ad av L K I O _ si hM.2.2.2.1 (by omega)) (cwV 0 hts gk_J0_length_8abf5_J0_coder_7d493_2 rfl rfl rfl (by decide +kernel) ⟨Nat.le_of_ble_eq_true rfl, Nat.le_of_ble_eq_true rfl⟩) rfl hl.1 rfl (Nat.le_of_ble_eq_true rfl) dJ0_length_8abf5_6 ⟨show (0 : Nat) ≤ 0 from by omega, show (0 : Nat) ≤ 0 from by omega⟩ (fun r_3 H locs p_4 hM => ?_)
  replace p_4 : r_3.toInt = 0 := p_4
  refine mm_ishr0 hx hb dJ0_length_8abf5_9 (show r_3.toInt = 0 from by omega) ?_
  exact cr_ri (mc := 0) (ms := 0) E hr hlk hsz hM ⟨show (0 : Nat) ≤ 0 from by omega, show (0 : Nat) ≤ 0 from by omega⟩ ⟨⟨rfl, rfl, rfl, rfl⟩, (show z_1.toInt = (cln.getD si 0 : Int) from by omega)⟩ dJ0_length_8abf5_10
def w4J3_checkIndex_8e157 : List Cond := .code yJ3_checkIndex_8e157 cJ3_checkIndex_8e157 3 (some .int) :: ([])
set_option maxHeartbeats 4000000 in
set_option maxRecDepth 100000 in
theorem h4_J3_checkIndex_8e157 (l : Launch) (D : va_G) (cA : Nat → ClassId) (ad av : Nat → Nat) (L : List Nat) (K : Nat → Nat) (I : Nat → Nat → Int32) (O : Nat → Nat → Option Nat) (sz : Nat) (p0 : Int32) (p1 : Int32) (w : Option Nat) (hI : cI L K I O) (k0 : 0 ≤ p0.toInt ∧ p0.toInt < p1.toInt) : Met l yJ3_checkIndex_8e157 w4J3_checkIndex_8e157 ({ frames := 0, cells := 0, slots := 0, locals := 0 }) (cPre D cA ad av L K I O sz [.int p0, .int p1, va_rf w]) (cQi D cA L K I O sz [] [] [] (fun r L' K' I' O' => (L' = L ∧ K' = K ∧ I' = I ∧ O' = O) ∧ (True))) 0 0 (va_A (cW cA L K I O) sz) := by
  rcases w with _ | xq
  · refine cr_met (own := RJ3) (xs := []) (WI := []) (WO := []) (cc := cJ3_checkIndex_8e157) (maxL := 3) (ret := (some .int)) (by decide) rfl rfl (Nat.le_of_ble_eq_true rfl) hI ?_
    intro p e s m args below meth c ls E hV hml hr hlk hname hsz hA hM hl
    have hx := E.1
    have hb := E.2.1
    have hts := E.2.2.1
    have hown := E.2.2.2.1
    have hl : lv_has ls 3 [(0, .int p0), (1, .int p1), (2, .null)] := hl
    refine lv_iload_n hx hb dJ3_checkIndex_8e157_0 rfl (lv_at hl 0 rfl) ?_
    refine mm_if_lt (X := p0.toInt) (tgt := 9) hx hb dJ3_checkIndex_8e157_1 (by decide) rfl (fun c_1 => ?_) (fun c_1 => ?_)
    · exact False.elim (by omega)
    · refine lv_iload_n hx hb dJ3_checkIndex_8e157_4 rfl (lv_at hl 0 rfl) ?_
      refine lv_iload_n hx hb dJ3_checkIndex_8e157_5 rfl (lv_at hl 1 rfl) ?_
      refine mm_icmp_lt (X := p0.toInt) (Y := p1.toInt) (tgt := 16) hx hb dJ3_checkIndex_8e157_6 (by decide) rfl rfl (fun c_2 => ?_) (fun c_2 => ?_)
      · refine lv_iload_n hx hb dJ3_checkIndex_8e157_16 rfl (lv_at hl 0 rfl) ?_
        exact cr_ri (mc := 0) (ms := 0) E hr hlk hsz hM ⟨show (0 : Nat) ≤ 0 from by omega, show (0 : Nat) ≤ 0 from by omega⟩ ⟨⟨rfl, rfl, rfl, rfl⟩, trivial⟩ dJ3_checkIndex_8e157_17
      · exact False.elim (by omega)
  · refine cr_met (own := RJ3) (xs := []) (WI := []) (WO := []) (cc := cJ3_checkIndex_8e157) (maxL := 3) (ret := (some .int)) (by decide) rfl rfl (Nat.le_of_ble_eq_true rfl) hI ?_
    intro p e s m args below meth c ls E hV hml hr hlk hname hsz hA hM hl
    have hx := E.1
    have hb := E.2.1
    have hts := E.2.2.1
    have hown := E.2.2.2.1
    have hl : lv_has ls 3 [(0, .int p0), (1, .int p1), (2, .ref xq)] := hl
    refine lv_iload_n hx hb dJ3_checkIndex_8e157_0 rfl (lv_at hl 0 rfl) ?_
    refine mm_if_lt (X := p0.toInt) (tgt := 9) hx hb dJ3_checkIndex_8e157_1 (by decide) rfl (fun c_3 => ?_) (fun c_3 => ?_)
    · exact False.elim (by omega)
    · refine lv_iload_n hx hb dJ3_checkIndex_8e157_4 rfl (lv_at hl 0 rfl) ?_
      refine lv_iload_n hx hb dJ3_checkIndex_8e157_5 rfl (lv_at hl 1 rfl) ?_
      refine mm_icmp_lt (X := p0.toInt) (Y := p1.toInt) (tgt := 16) hx hb dJ3_checkIndex_8e157_6 (by decide) rfl rfl (fun c_4 => ?_) (fun c_4 => ?_)
      · refine lv_iload_n hx hb dJ3_checkIndex_8e157_16 rfl (lv_at hl 0 rfl) ?_
        exact cr_ri (mc := 0) (ms := 0) E hr hlk hsz hM ⟨show (0 : Nat) ≤ 0 from by omega, show (0 : Nat) ≤ 0 from by omega⟩ ⟨⟨rfl, rfl, rfl, rfl⟩, trivial⟩ dJ3_checkIndex_8e157_17
      · exact False.elim (by omega)
def w4J0_checkIndex_df160 : List Cond := .code yJ0_checkIndex_df160 cJ0_checkIndex_df160 2 none :: ([.fieldLink RJ0 1053 "jdk/internal/util/Preconditions" "SIOOBE_FORMATTER" "Ljava/util/function/BiFunction;", .methodLink RJ0 1059 yJ3_checkIndex_8e157, .static yJ3_checkIndex_8e157, .initialized RJ3, .code yJ3_checkIndex_8e157 cJ3_checkIndex_8e157 3 (some .int)])
set_option maxRecDepth 20000 in
theorem gk_J0_checkIndex_df160_J3_checkIndex_8e157_1 : GoodIn w4J0_checkIndex_df160 (va_wsS RJ0 1059 yJ3_checkIndex_8e157 w4J3_checkIndex_8e157) := goodIn_p _ [5] rfl (by decide +kernel)
set_option maxRecDepth 20000 in
theorem gk_J0_checkIndex_df160_J3_checkIndex_8e157_5 : GoodIn w4J0_checkIndex_df160 (va_wsS RJ0 1059 yJ3_checkIndex_8e157 w4J3_checkIndex_8e157) := goodIn_p _ [5] rfl (by decide +kernel)
set_option maxHeartbeats 4000000 in
set_option maxRecDepth 100000 in
theorem h4_J0_checkIndex_df160 (l : Launch) (D : va_G) (cA : Nat → ClassId) (ad av : Nat → Nat) (L : List Nat) (K : Nat → Nat) (I : Nat → Nat → Int32) (O : Nat → Nat → Option Nat) (sz : Nat) (p0 : Int32) (p1 : Int32) (hI : cI L K I O) (k0 : 0 ≤ p0.toInt ∧ p0.toInt < p1.toInt) : Met l yJ0_checkIndex_df160 w4J0_checkIndex_df160 ({ frames := 1, cells := 0, slots := 0, locals := 22 }) (cPre D cA ad av L K I O sz [.int p0, .int p1]) (cQv D cA L K I O sz [] [] [] (fun L' K' I' O' => (L' = L ∧ K' = K ∧ I' = I ∧ O' = O) ∧ (True))) 0 0 (va_A (cW cA L K I O) sz) := by
  refine cr_met (own := RJ0) (xs := []) (WI := []) (WO := []) (cc := cJ0_checkIndex_df160) (maxL := 2) (ret := none) (by decide) rfl rfl (Nat.le_of_ble_eq_true rfl) hI ?_
  intro p e s m args below meth c ls E hV hml hr hlk hname hsz hA hM hl
  have hx := E.1
  have hb := E.2.1
  have hts := E.2.2.1
  have hown := E.2.2.2.1
  have hl : lv_has ls 2 [(0, .int p0), (1, .int p1)] := hl
  refine lv_iload_n hx hb dJ0_checkIndex_df160_0 rfl (lv_at hl 0 rfl) ?_
  refine lv_iload_n hx hb dJ0_checkIndex_df160_1 rfl (lv_at hl 1 rfl) ?_
  rcases hV.2.2.2.2 with hz | ⟨tz, hz⟩
  · refine va_gets (v := .null) hx hb hz hM.2.2.1 hown (hts _ (mm_at 1 rfl)) (fun _ h => h) dJ0_checkIndex_df160_2 ?_
    refine cc_Sip (vs := [.int p0, .int p1, .null]) (rest := []) E hV rfl hA hml hM (h4_J3_checkIndex_8e157 l D cA ad av L K I O _ p0 p1 none hM.2.2.2.1 (show 0 ≤ p0.toInt ∧ p0.toInt < p1.toInt from by omega)) (va_cwS 3 hts gk_J0_checkIndex_df160_J3_checkIndex_8e157_1 rfl rfl rfl (by decide +kernel) ⟨Nat.le_of_ble_eq_true rfl, Nat.le_of_ble_eq_true rfl⟩) rfl hl.1 rfl (Nat.le_of_ble_eq_true rfl) dJ0_checkIndex_df160_5 ⟨show (0 : Nat) ≤ 0 from by omega, show (0 : Nat) ≤ 0 from by omega⟩ (fun r_2 H locs p_3 hM => ?_)
    refine lv_pop hx hb dJ0_checkIndex_df160_8 rfl ?_
    exact cr_rv (mc := 0) (ms := 0) E hr hlk hsz hM ⟨show (0 : Nat) ≤ 0 from by omega, show (0 : Nat) ≤ 0 from by omega⟩ ⟨⟨rfl, rfl, rfl, rfl⟩, trivial⟩ dJ0_checkIndex_df160_9
  · refine va_gets (v := .ref tz) hx hb hz hM.2.2.1 hown (hts _ (mm_at 1 rfl)) (fun _ h => h) dJ0_checkIndex_df160_2 ?_
    refine cc_Sip (vs := [.int p0, .int p1, .ref tz]) (rest := []) E hV rfl hA hml hM (h4_J3_checkIndex_8e157 l D cA ad av L K I O _ p0 p1 (some tz) hM.2.2.2.1 (show 0 ≤ p0.toInt ∧ p0.toInt < p1.toInt from by omega)) (va_cwS 3 hts gk_J0_checkIndex_df160_J3_checkIndex_8e157_5 rfl rfl rfl (by decide +kernel) ⟨Nat.le_of_ble_eq_true rfl, Nat.le_of_ble_eq_true rfl⟩) rfl hl.1 rfl (Nat.le_of_ble_eq_true rfl) dJ0_checkIndex_df160_5 ⟨show (0 : Nat) ≤ 0 from by omega, show (0 : Nat) ≤ 0 from by omega⟩ (fun r_6 H locs p_7 hM => ?_)
    refine lv_pop hx hb dJ0_checkIndex_df160_8 rfl ?_
    exact cr_rv (mc := 0) (ms := 0) E hr hlk hsz hM ⟨show (0 : Nat) ≤ 0 from by omega, show (0 : Nat) ≤ 0 from by omega⟩ ⟨⟨rfl, rfl, rfl, rfl⟩, trivial⟩ dJ0_checkIndex_df160_9
