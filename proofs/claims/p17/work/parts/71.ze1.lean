theorem wk_bc {p0 : Int32} (k0 : 0 ≤ p0.toInt ∧ p0.toInt ≤ 31) : (((((((((p0 - (((p0.toUInt32 >>> ((1 : Int32).toUInt32 &&& Int32.toUInt32 31)).toInt32) &&& (1431655765 : Int32))) &&& (858993459 : Int32)) + ((((p0 - (((p0.toUInt32 >>> ((1 : Int32).toUInt32 &&& Int32.toUInt32 31)).toInt32) &&& (1431655765 : Int32))).toUInt32 >>> ((2 : Int32).toUInt32 &&& Int32.toUInt32 31)).toInt32) &&& (858993459 : Int32))) + (((((p0 - (((p0.toUInt32 >>> ((1 : Int32).toUInt32 &&& Int32.toUInt32 31)).toInt32) &&& (1431655765 : Int32))) &&& (858993459 : Int32)) + ((((p0 - (((p0.toUInt32 >>> ((1 : Int32).toUInt32 &&& Int32.toUInt32 31)).toInt32) &&& (1431655765 : Int32))).toUInt32 >>> ((2 : Int32).toUInt32 &&& Int32.toUInt32 31)).toInt32) &&& (858993459 : Int32))).toUInt32 >>> ((4 : Int32).toUInt32 &&& Int32.toUInt32 31)).toInt32)) &&& (252645135 : Int32)) + (((((((p0 - (((p0.toUInt32 >>> ((1 : Int32).toUInt32 &&& Int32.toUInt32 31)).toInt32) &&& (1431655765 : Int32))) &&& (858993459 : Int32)) + ((((p0 - (((p0.toUInt32 >>> ((1 : Int32).toUInt32 &&& Int32.toUInt32 31)).toInt32) &&& (1431655765 : Int32))).toUInt32 >>> ((2 : Int32).toUInt32 &&& Int32.toUInt32 31)).toInt32) &&& (858993459 : Int32))) + (((((p0 - (((p0.toUInt32 >>> ((1 : Int32).toUInt32 &&& Int32.toUInt32 31)).toInt32) &&& (1431655765 : Int32))) &&& (858993459 : Int32)) + ((((p0 - (((p0.toUInt32 >>> ((1 : Int32).toUInt32 &&& Int32.toUInt32 31)).toInt32) &&& (1431655765 : Int32))).toUInt32 >>> ((2 : Int32).toUInt32 &&& Int32.toUInt32 31)).toInt32) &&& (858993459 : Int32))).toUInt32 >>> ((4 : Int32).toUInt32 &&& Int32.toUInt32 31)).toInt32)) &&& (252645135 : Int32)).toUInt32 >>> ((8 : Int32).toUInt32 &&& Int32.toUInt32 31)).toInt32)) + ((((((((p0 - (((p0.toUInt32 >>> ((1 : Int32).toUInt32 &&& Int32.toUInt32 31)).toInt32) &&& (1431655765 : Int32))) &&& (858993459 : Int32)) + ((((p0 - (((p0.toUInt32 >>> ((1 : Int32).toUInt32 &&& Int32.toUInt32 31)).toInt32) &&& (1431655765 : Int32))).toUInt32 >>> ((2 : Int32).toUInt32 &&& Int32.toUInt32 31)).toInt32) &&& (858993459 : Int32))) + (((((p0 - (((p0.toUInt32 >>> ((1 : Int32).toUInt32 &&& Int32.toUInt32 31)).toInt32) &&& (1431655765 : Int32))) &&& (858993459 : Int32)) + ((((p0 - (((p0.toUInt32 >>> ((1 : Int32).toUInt32 &&& Int32.toUInt32 31)).toInt32) &&& (1431655765 : Int32))).toUInt32 >>> ((2 : Int32).toUInt32 &&& Int32.toUInt32 31)).toInt32) &&& (858993459 : Int32))).toUInt32 >>> ((4 : Int32).toUInt32 &&& Int32.toUInt32 31)).toInt32)) &&& (252645135 : Int32)) + (((((((p0 - (((p0.toUInt32 >>> ((1 : Int32).toUInt32 &&& Int32.toUInt32 31)).toInt32) &&& (1431655765 : Int32))) &&& (858993459 : Int32)) + ((((p0 - (((p0.toUInt32 >>> ((1 : Int32).toUInt32 &&& Int32.toUInt32 31)).toInt32) &&& (1431655765 : Int32))).toUInt32 >>> ((2 : Int32).toUInt32 &&& Int32.toUInt32 31)).toInt32) &&& (858993459 : Int32))) + (((((p0 - (((p0.toUInt32 >>> ((1 : Int32).toUInt32 &&& Int32.toUInt32 31)).toInt32) &&& (1431655765 : Int32))) &&& (858993459 : Int32)) + ((((p0 - (((p0.toUInt32 >>> ((1 : Int32).toUInt32 &&& Int32.toUInt32 31)).toInt32) &&& (1431655765 : Int32))).toUInt32 >>> ((2 : Int32).toUInt32 &&& Int32.toUInt32 31)).toInt32) &&& (858993459 : Int32))).toUInt32 >>> ((4 : Int32).toUInt32 &&& Int32.toUInt32 31)).toInt32)) &&& (252645135 : Int32)).toUInt32 >>> ((8 : Int32).toUInt32 &&& Int32.toUInt32 31)).toInt32)).toUInt32 >>> ((16 : Int32).toUInt32 &&& Int32.toUInt32 31)).toInt32)) &&& (63 : Int32))).toInt = hB p0.toInt := by
  obtain ⟨n, hn, e⟩ := wk_n32 k0
  subst e
  clear k0
  revert n
  decide +kernel
theorem wk_mul05 {a b : Int} (ha : 0 ≤ a ∧ a ≤ 5) (hb : 0 ≤ b ∧ b ≤ 6000) : 0 ≤ a * b ∧ a * b ≤ 30000 := by
  rcases (show a = 0 ∨ a = 1 ∨ a = 2 ∨ a = 3 ∨ a = 4 ∨ a = 5 by omega) with e | e | e | e | e | e <;> (rw [e]; omega)
theorem wk_pen {z d c e : Int} (h : (z = 0 ∨ z = d) ∧ 0 ≤ z ∧ d ≤ z) (he : e = c * 10) : z * e = if d > 0 then 10 * c * d else 0 := by
  by_cases q : d > 0
  · rw [if_pos q, show z = d from by omega, he, Int.mul_comm d, Int.mul_comm c 10]
  · rw [if_neg q, show z = 0 from by omega, Int.zero_mul]
def w5X0_known : List Cond := .code yX0_known cX0_known 5 (some .int) :: ([.fieldLink RX0 19 "SkiShots$Event" "day" "I", .fieldLink RX0 33 "SkiShots$Event" "before" "LSkiShots$Event;", .fieldLink RX0 24 "SkiShots$Event" "sort" "I", .fieldLink RX0 27 "SkiShots$Event" "k" "I", .fieldLink RX0 30 "SkiShots$Event" "v" "I", .fieldLink RX0 15 "SkiShots$Entry" "latest" "LSkiShots$Event;"] ++ wsX00 ++ wsX10)
set_option maxHeartbeats 4000000 in
set_option maxRecDepth 100000 in
theorem h5_X0_known (l : Launch) (D : va_G) (cA : Nat → ClassId) (ad av : Nat → Nat) (L : List Nat) (K : Nat → Nat) (I : Nat → Nat → Int32) (O : Nat → Nat → Option Nat) (sz : Nat) (x0 : Nat) (p0 : Int32) (p1 : Int32) (p2 : Int32) (hI : cI L K I O) (mx0 : x0 ∈ L) (kx0 : K x0 = 0) (Fe : Nat → Int32) (Ge : Nat → Nat → Int32) (re : Int) (ve : Int) (hev : lEv Ge re ve L K I O (Fe 31).toInt.toNat (O x0 1)) : Met l yX0_known w5X0_known ({ frames := 0, cells := 0, slots := 0, locals := 0 }) (cPre D cA ad av L K I O sz [.ref x0, .int p0, .int p1, .int p2]) (cQi D cA L K I O sz [] [] [] (fun r L' K' I' O' => (L' = L ∧ K' = K ∧ I' = I ∧ O' = O) ∧ (r.toInt = kN Ge re ve p0.toInt p1.toInt p2.toInt (Fe 31).toInt.toNat))) 0 0 (va_A (cW cA L K I O) sz) := by
  refine cr_met (own := RX0) (xs := []) (WI := []) (WO := []) (cc := cX0_known) (maxL := 5) (ret := (some .int)) (by decide) rfl rfl (Nat.le_of_ble_eq_true rfl) hI ?_
  intro p e s m args below meth c ls E hV hml hr hlk hname hsz hA hM hl
  have hx := E.1
  have hb := E.2.1
  have hts := E.2.2.1
  have hown := E.2.2.2.1
  have hl : lv_has ls 5 [(0, .ref x0), (1, .int p0), (2, .int p1), (3, .int p2)] := hl
  have hin0 : ∀ w ∈ wsX00, w ∈ w5X0_known := by decide +kernel
  have hin1 : ∀ w ∈ wsX10, w ∈ w5X0_known := by decide +kernel
  have B_6 : ∀ n_6 : Nat, ∀ (H : Heap) (locs : List Loc) (ls : Array Slot) (w : Option Nat), (∀ b : Nat, w = some b → b ∈ L ∧ K b = 1) → (∃ mm : Nat, lEv Ge re ve L K I O mm w ∧ kN Ge re ve p0.toInt p1.toInt p2.toInt (Fe 31).toInt.toNat = kN Ge re ve p0.toInt p1.toInt p2.toInt mm) → (cmw L w) < (n_6 : Int) → cQ D cA (va_A (cW cA L K I O) sz) s.heap [] [] [] L K I O H locs L K I O → lv_has ls 5 [(0, .ref x0), (1, .int p0), (2, .int p1), (3, .int p2), (4, va_rf w)] → W p l e ({ frames := 0, cells := 0, slots := 0, locals := 0 }) s m args below meth c H locs 0 0 (MQ below (cQi D cA L K I O sz [] [] [] (fun r L' K' I' O' => (L' = L ∧ K' = K ∧ I' = I ∧ O' = O) ∧ (r.toInt = kN Ge re ve p0.toInt p1.toInt p2.toInt (Fe 31).toInt.toNat))) args s 0 0 (va_A (cW cA L K I O) sz)) (F0 m 6 ls []) := by
    intro n_6
    induction n_6 with
    | zero => intro H locs ls w y6_0 f6_0 hn hM hl; exact False.elim (by have h0 := c_mw0 L w; omega)
    | succ n_6 ih_6 =>
      intro H locs ls w y6_0 f6_0 hn hM hl
      rcases w with _ | xw_6
      · have hl : lv_has ls 5 [(0, .ref x0), (1, .int p0), (2, .int p1), (3, .int p2), (4, .null)] := hl
        refine lv_aloadN hx hb dX0_known_6 (lv_at hl 4 rfl) ?_
        refine lv_ifnullN (tgt := 54) hx hb dX0_known_8 (by decide) ?_
        refine lv_iconst (v := (-1)) hx hb dX0_known_54 (by decide) ?_
        exact cr_ri (mc := 0) (ms := 0) E hr hlk hsz hM ⟨show (0 : Nat) ≤ 0 from by omega, show (0 : Nat) ≤ 0 from by omega⟩ ⟨⟨rfl, rfl, rfl, rfl⟩, (show ((-1) : Int32).toInt = kN Ge re ve p0.toInt p1.toInt p2.toInt (Fe 31).toInt.toNat from by have n9 := num_m1; obtain ⟨m9, h9, e9⟩ := f6_0; rw [e9, lEv_none h9]; exact n9)⟩ dX0_known_55
      · obtain ⟨mw_6, kw_6⟩ := y6_0 _ rfl
        have hn2 : (crk L xw_6 : Int) + 1 < ((n_6 + 1 : Nat) : Int) := hn
        obtain ⟨m9, h9, e9⟩ := f6_0
        obtain ⟨m8, -, -, -, h8, e8⟩ := lEv_some h9
        have hl : lv_has ls 5 [(0, .ref x0), (1, .int p0), (2, .int p1), (3, .int p2), (4, .ref xw_6)] := hl
        refine lv_aload hx hb dX0_known_6 (lv_at hl 4 rfl) ?_
        refine lv_ifnull hx hb dX0_known_8 ?_
        refine lv_aload hx hb dX0_known_11 (lv_at hl 4 rfl) ?_
        refine cr_get (κ := 1) (ci := 1) (k := 0) (C := RX1) (T := TX1) (N := 5) (fs := cfs 1) (v := .int (I xw_6 0)) E hM mw_6 kw_6 (fun _ _ => rfl) rfl hin1 (by decide) (index := 19) (mm_at 1 rfl) rfl rfl dX0_known_13 ?_
        refine lv_iload_n hx hb dX0_known_16 rfl (lv_at hl 3 rfl) ?_
        refine mm_icmp_gt (X := (I xw_6 0).toInt) (Y := p2.toInt) (tgt := 44) hx hb dX0_known_17 (by decide) rfl rfl (fun c_1 => ?_) (fun c_1 => ?_)
        · refine lv_aload hx hb dX0_known_44 (lv_at hl 4 rfl) ?_
          rcases o_2 : O xw_6 4 with _ | x_2
          · refine cr_get (κ := 1) (ci := 1) (k := 4) (C := RX1) (T := TX1) (N := 5) (fs := cfs 1) (v := .null) E hM mw_6 kw_6 (fun _ _ => rfl) rfl hin1 (by decide) (index := 33) (mm_at 2 rfl) rfl (by show some (va_rf (O xw_6 4)) = some (.null); rw [o_2]; rfl) dX0_known_46 ?_
            refine lv_astoreN (lv' := [(4, .null), (0, .ref x0), (1, .int p0), (2, .int p1), (3, .int p2)]) hx hb dX0_known_49 hl (by decide) rfl (fun ls hl => ?_)
            refine lv_goto (tgt := 6) hx hb dX0_known_51 (by decide) ?_
            exact ih_6 _ _ _    none (fun b h => by cases h) (show (∃ mm : Nat, lEv Ge re ve L K I O mm none ∧ kN Ge re ve p0.toInt p1.toInt p2.toInt (Fe 31).toInt.toNat = kN Ge re ve p0.toInt p1.toInt p2.toInt mm) from by exact ⟨m8, (by have h := h8; rw [o_2] at h; exact h), (by rw [e9, e8, if_neg (by omega)])⟩) (show (cmw L none) < ((n_6 : Nat) : Int) from by show (0 : Int) < _; omega) hM (lv_sub hl [1, 2, 3, 4, 0] rfl)
          · obtain ⟨m_2, k_2⟩ := hM.rt mw_6 kw_6 4 (κ' := 1) rfl o_2
            refine cr_get (κ := 1) (ci := 1) (k := 4) (C := RX1) (T := TX1) (N := 5) (fs := cfs 1) (v := .ref x_2) E hM mw_6 kw_6 (fun _ _ => rfl) rfl hin1 (by decide) (index := 33) (mm_at 2 rfl) rfl (by show some (va_rf (O xw_6 4)) = some (.ref x_2); rw [o_2]; rfl) dX0_known_46 ?_
            refine lv_astore (lv' := [(4, .ref x_2), (0, .ref x0), (1, .int p0), (2, .int p1), (3, .int p2)]) hx hb dX0_known_49 hl (by decide) rfl (fun ls hl => ?_)
            refine lv_goto (tgt := 6) hx hb dX0_known_51 (by decide) ?_
            exact ih_6 _ _ _    (some x_2) (fun b h => by cases h; exact ⟨m_2, k_2⟩) (show (∃ mm : Nat, lEv Ge re ve L K I O mm (some x_2) ∧ kN Ge re ve p0.toInt p1.toInt p2.toInt (Fe 31).toInt.toNat = kN Ge re ve p0.toInt p1.toInt p2.toInt mm) from by exact ⟨m8, (by have h := h8; rw [o_2] at h; exact h), (by rw [e9, e8, if_neg (by omega)])⟩) (show (cmw L (some x_2)) < ((n_6 : Nat) : Int) from by show (crk L x_2 : Int) + 1 < _; have h9 := (hM.sp mw_6 kw_6).1 rfl x_2 o_2; omega) hM (lv_sub hl [1, 2, 3, 4, 0] rfl)
        · refine lv_aload hx hb dX0_known_20 (lv_at hl 4 rfl) ?_
          refine cr_get (κ := 1) (ci := 1) (k := 1) (C := RX1) (T := TX1) (N := 5) (fs := cfs 1) (v := .int (I xw_6 1)) E hM mw_6 kw_6 (fun _ _ => rfl) rfl hin1 (by decide) (index := 24) (mm_at 3 rfl) rfl rfl dX0_known_22 ?_
          refine lv_iload_n hx hb dX0_known_25 rfl (lv_at hl 1 rfl) ?_
          refine mm_icmp_ne (X := (I xw_6 1).toInt) (Y := p0.toInt) (tgt := 44) hx hb dX0_known_26 (by decide) rfl rfl (fun c_3 => ?_) (fun c_3 => ?_)
          · refine lv_aload hx hb dX0_known_44 (lv_at hl 4 rfl) ?_
            rcases o_4 : O xw_6 4 with _ | x_4
            · refine cr_get (κ := 1) (ci := 1) (k := 4) (C := RX1) (T := TX1) (N := 5) (fs := cfs 1) (v := .null) E hM mw_6 kw_6 (fun _ _ => rfl) rfl hin1 (by decide) (index := 33) (mm_at 2 rfl) rfl (by show some (va_rf (O xw_6 4)) = some (.null); rw [o_4]; rfl) dX0_known_46 ?_
              refine lv_astoreN (lv' := [(4, .null), (0, .ref x0), (1, .int p0), (2, .int p1), (3, .int p2)]) hx hb dX0_known_49 hl (by decide) rfl (fun ls hl => ?_)
              refine lv_goto (tgt := 6) hx hb dX0_known_51 (by decide) ?_
              exact ih_6 _ _ _    none (fun b h => by cases h) (show (∃ mm : Nat, lEv Ge re ve L K I O mm none ∧ kN Ge re ve p0.toInt p1.toInt p2.toInt (Fe 31).toInt.toNat = kN Ge re ve p0.toInt p1.toInt p2.toInt mm) from by exact ⟨m8, (by have h := h8; rw [o_4] at h; exact h), (by rw [e9, e8, if_neg (by omega)])⟩) (show (cmw L none) < ((n_6 : Nat) : Int) from by show (0 : Int) < _; omega) hM (lv_sub hl [1, 2, 3, 4, 0] rfl)
            · obtain ⟨m_4, k_4⟩ := hM.rt mw_6 kw_6 4 (κ' := 1) rfl o_4
              refine cr_get (κ := 1) (ci := 1) (k := 4) (C := RX1) (T := TX1) (N := 5) (fs := cfs 1) (v := .ref x_4) E hM mw_6 kw_6 (fun _ _ => rfl) rfl hin1 (by decide) (index := 33) (mm_at 2 rfl) rfl (by show some (va_rf (O xw_6 4)) = some (.ref x_4); rw [o_4]; rfl) dX0_known_46 ?_
              refine lv_astore (lv' := [(4, .ref x_4), (0, .ref x0), (1, .int p0), (2, .int p1), (3, .int p2)]) hx hb dX0_known_49 hl (by decide) rfl (fun ls hl => ?_)
              refine lv_goto (tgt := 6) hx hb dX0_known_51 (by decide) ?_
              exact ih_6 _ _ _    (some x_4) (fun b h => by cases h; exact ⟨m_4, k_4⟩) (show (∃ mm : Nat, lEv Ge re ve L K I O mm (some x_4) ∧ kN Ge re ve p0.toInt p1.toInt p2.toInt (Fe 31).toInt.toNat = kN Ge re ve p0.toInt p1.toInt p2.toInt mm) from by exact ⟨m8, (by have h := h8; rw [o_4] at h; exact h), (by rw [e9, e8, if_neg (by omega)])⟩) (show (cmw L (some x_4)) < ((n_6 : Nat) : Int) from by show (crk L x_4 : Int) + 1 < _; have h9 := (hM.sp mw_6 kw_6).1 rfl x_4 o_4; omega) hM (lv_sub hl [1, 2, 3, 4, 0] rfl)
          · refine lv_aload hx hb dX0_known_29 (lv_at hl 4 rfl) ?_
            refine cr_get (κ := 1) (ci := 1) (k := 2) (C := RX1) (T := TX1) (N := 5) (fs := cfs 1) (v := .int (I xw_6 2)) E hM mw_6 kw_6 (fun _ _ => rfl) rfl hin1 (by decide) (index := 27) (mm_at 4 rfl) rfl rfl dX0_known_31 ?_
            refine lv_iload_n hx hb dX0_known_34 rfl (lv_at hl 2 rfl) ?_
            refine mm_icmp_ne (X := (I xw_6 2).toInt) (Y := p1.toInt) (tgt := 44) hx hb dX0_known_35 (by decide) rfl rfl (fun c_5 => ?_) (fun c_5 => ?_)
            · refine lv_aload hx hb dX0_known_44 (lv_at hl 4 rfl) ?_
              rcases o_6 : O xw_6 4 with _ | x_6
              · refine cr_get (κ := 1) (ci := 1) (k := 4) (C := RX1) (T := TX1) (N := 5) (fs := cfs 1) (v := .null) E hM mw_6 kw_6 (fun _ _ => rfl) rfl hin1 (by decide) (index := 33) (mm_at 2 rfl) rfl (by show some (va_rf (O xw_6 4)) = some (.null); rw [o_6]; rfl) dX0_known_46 ?_
                refine lv_astoreN (lv' := [(4, .null), (0, .ref x0), (1, .int p0), (2, .int p1), (3, .int p2)]) hx hb dX0_known_49 hl (by decide) rfl (fun ls hl => ?_)
                refine lv_goto (tgt := 6) hx hb dX0_known_51 (by decide) ?_
                exact ih_6 _ _ _    none (fun b h => by cases h) (show (∃ mm : Nat, lEv Ge re ve L K I O mm none ∧ kN Ge re ve p0.toInt p1.toInt p2.toInt (Fe 31).toInt.toNat = kN Ge re ve p0.toInt p1.toInt p2.toInt mm) from by exact ⟨m8, (by have h := h8; rw [o_6] at h; exact h), (by rw [e9, e8, if_neg (by omega)])⟩) (show (cmw L none) < ((n_6 : Nat) : Int) from by show (0 : Int) < _; omega) hM (lv_sub hl [1, 2, 3, 4, 0] rfl)
              · obtain ⟨m_6, k_6⟩ := hM.rt mw_6 kw_6 4 (κ' := 1) rfl o_6
                refine cr_get (κ := 1) (ci := 1) (k := 4) (C := RX1) (T := TX1) (N := 5) (fs := cfs 1) (v := .ref x_6) E hM mw_6 kw_6 (fun _ _ => rfl) rfl hin1 (by decide) (index := 33) (mm_at 2 rfl) rfl (by show some (va_rf (O xw_6 4)) = some (.ref x_6); rw [o_6]; rfl) dX0_known_46 ?_
                refine lv_astore (lv' := [(4, .ref x_6), (0, .ref x0), (1, .int p0), (2, .int p1), (3, .int p2)]) hx hb dX0_known_49 hl (by decide) rfl (fun ls hl => ?_)
                refine lv_goto (tgt := 6) hx hb dX0_known_51 (by decide) ?_
                exact ih_6 _ _ _    (some x_6) (fun b h => by cases h; exact ⟨m_6, k_6⟩) (show (∃ mm : Nat, lEv Ge re ve L K I O mm (some x_6) ∧ kN Ge re ve p0.toInt p1.toInt p2.toInt (Fe 31).toInt.toNat = kN Ge re ve p0.toInt p1.toInt p2.toInt mm) from by exact ⟨m8, (by have h := h8; rw [o_6] at h; exact h), (by rw [e9, e8, if_neg (by omega)])⟩) (show (cmw L (some x_6)) < ((n_6 : Nat) : Int) from by show (crk L x_6 : Int) + 1 < _; have h9 := (hM.sp mw_6 kw_6).1 rfl x_6 o_6; omega) hM (lv_sub hl [1, 2, 3, 4, 0] rfl)
            · refine lv_aload hx hb dX0_known_38 (lv_at hl 4 rfl) ?_
              refine cr_get (κ := 1) (ci := 1) (k := 3) (C := RX1) (T := TX1) (N := 5) (fs := cfs 1) (v := .int (I xw_6 3)) E hM mw_6 kw_6 (fun _ _ => rfl) rfl hin1 (by decide) (index := 30) (mm_at 5 rfl) rfl rfl dX0_known_40 ?_
              exact cr_ri (mc := 0) (ms := 0) E hr hlk hsz hM ⟨show (0 : Nat) ≤ 0 from by omega, show (0 : Nat) ≤ 0 from by omega⟩ ⟨⟨rfl, rfl, rfl, rfl⟩, (show (I xw_6 3).toInt = kN Ge re ve p0.toInt p1.toInt p2.toInt (Fe 31).toInt.toNat from by rw [e9, e8, if_pos (by omega)])⟩ dX0_known_43
  refine lv_aload_n hx hb dX0_known_0 rfl (lv_at hl 0 rfl) ?_
  rcases o_7 : O x0 1 with _ | x_7
  · refine cr_get (κ := 0) (ci := 0) (k := 1) (C := RX0) (T := TX0) (N := 10) (fs := cfs 0) (v := .null) E hM mx0 kx0 (fun _ _ => rfl) rfl hin0 (by decide) (index := 15) (mm_at 6 rfl) rfl (by show some (va_rf (O x0 1)) = some (.null); rw [o_7]; rfl) dX0_known_1 ?_
    refine lv_astoreN (lv' := [(4, .null), (0, .ref x0), (1, .int p0), (2, .int p1), (3, .int p2)]) hx hb dX0_known_4 hl (by decide) rfl (fun ls hl => ?_)
    exact B_6 (1) _ _ _    none (fun b h => by cases h) (show (∃ mm : Nat, lEv Ge re ve L K I O mm none ∧ kN Ge re ve p0.toInt p1.toInt p2.toInt (Fe 31).toInt.toNat = kN Ge re ve p0.toInt p1.toInt p2.toInt mm) from by exact ⟨(Fe 31).toInt.toNat, (by have h := hev; rw [o_7] at h; exact h), rfl⟩) (show (cmw L none) < ((1 : Nat) : Int) from by show (0 : Int) < _; omega) hM (lv_sub hl [1, 2, 3, 4, 0] rfl)
  · obtain ⟨m_7, k_7⟩ := hM.rt mx0 kx0 1 (κ' := 1) rfl o_7
    refine cr_get (κ := 0) (ci := 0) (k := 1) (C := RX0) (T := TX0) (N := 10) (fs := cfs 0) (v := .ref x_7) E hM mx0 kx0 (fun _ _ => rfl) rfl hin0 (by decide) (index := 15) (mm_at 6 rfl) rfl (by show some (va_rf (O x0 1)) = some (.ref x_7); rw [o_7]; rfl) dX0_known_1 ?_
    refine lv_astore (lv' := [(4, .ref x_7), (0, .ref x0), (1, .int p0), (2, .int p1), (3, .int p2)]) hx hb dX0_known_4 hl (by decide) rfl (fun ls hl => ?_)
    exact B_6 (crk L x_7 + 2) _ _ _    (some x_7) (fun b h => by cases h; exact ⟨m_7, k_7⟩) (show (∃ mm : Nat, lEv Ge re ve L K I O mm (some x_7) ∧ kN Ge re ve p0.toInt p1.toInt p2.toInt (Fe 31).toInt.toNat = kN Ge re ve p0.toInt p1.toInt p2.toInt mm) from by exact ⟨(Fe 31).toInt.toNat, (by have h := hev; rw [o_7] at h; exact h), rfl⟩) (show (cmw L (some x_7)) < ((crk L x_7 + 2 : Nat) : Int) from by show (crk L x_7 : Int) + 1 < _; omega) hM (lv_sub hl [1, 2, 3, 4, 0] rfl)
def w5J6_bitCount_0f7a4 : List Cond := .code yJ6_bitCount_0f7a4 cJ6_bitCount_0f7a4 1 (some .int) :: ([.constant RJ6 265 (1431655765), .constant RJ6 266 (858993459), .constant RJ6 267 (252645135)])
set_option maxHeartbeats 4000000 in
set_option maxRecDepth 100000 in
theorem h5_J6_bitCount_0f7a4 (l : Launch) (D : va_G) (cA : Nat → ClassId) (ad av : Nat → Nat) (L : List Nat) (K : Nat → Nat) (I : Nat → Nat → Int32) (O : Nat → Nat → Option Nat) (sz : Nat) (p0 : Int32) (hI : cI L K I O) (k0 : 0 ≤ p0.toInt ∧ p0.toInt ≤ 31) : Met l yJ6_bitCount_0f7a4 w5J6_bitCount_0f7a4 ({ frames := 0, cells := 0, slots := 0, locals := 0 }) (cPre D cA ad av L K I O sz [.int p0]) (cQi D cA L K I O sz [] [] [] (fun r L' K' I' O' => (L' = L ∧ K' = K ∧ I' = I ∧ O' = O) ∧ (r.toInt = hB p0.toInt))) 0 0 (va_A (cW cA L K I O) sz) := by
  refine cr_met (own := RJ6) (xs := []) (WI := []) (WO := []) (cc := cJ6_bitCount_0f7a4) (maxL := 1) (ret := (some .int)) (by decide) rfl rfl (Nat.le_of_ble_eq_true rfl) hI ?_
  intro p e s m args below meth c ls E hV hml hr hlk hname hsz hA hM hl
  have hx := E.1
  have hb := E.2.1
  have hts := E.2.2.1
  have hown := E.2.2.2.1
  have hl : lv_has ls 1 [(0, .int p0)] := hl
  refine lv_iload_n hx hb dJ6_bitCount_0f7a4_0 rfl (lv_at hl 0 rfl) ?_
  refine lv_iload_n hx hb dJ6_bitCount_0f7a4_1 rfl (lv_at hl 0 rfl) ?_
  refine lv_iconst (v := 1) hx hb dJ6_bitCount_0f7a4_2 (by decide) ?_
  refine lv_iushr hx hb dJ6_bitCount_0f7a4_3 rfl ?_
  refine lv_ldcw (v := 1431655765) hx hb hown (hts _ (mm_at 1 rfl)) dJ6_bitCount_0f7a4_4 ?_
  refine lv_iand hx hb dJ6_bitCount_0f7a4_7 ?_
  refine lv_isub hx hb dJ6_bitCount_0f7a4_8 ?_
  refine lv_istore_n (lv' := [(0, .int (p0 - (((p0.toUInt32 >>> ((1 : Int32).toUInt32 &&& Int32.toUInt32 31)).toInt32) &&& (1431655765 : Int32))))]) hx hb dJ6_bitCount_0f7a4_9 rfl hl (by decide) rfl (fun ls hl => ?_)
  refine lv_iload_n hx hb dJ6_bitCount_0f7a4_10 rfl (lv_at hl 0 rfl) ?_
  refine lv_ldcw (v := 858993459) hx hb hown (hts _ (mm_at 2 rfl)) dJ6_bitCount_0f7a4_11 ?_
  refine lv_iand hx hb dJ6_bitCount_0f7a4_14 ?_
  refine lv_iload_n hx hb dJ6_bitCount_0f7a4_15 rfl (lv_at hl 0 rfl) ?_
  refine lv_iconst (v := 2) hx hb dJ6_bitCount_0f7a4_16 (by decide) ?_
  refine lv_iushr hx hb dJ6_bitCount_0f7a4_17 rfl ?_
  refine lv_ldcw (v := 858993459) hx hb hown (hts _ (mm_at 2 rfl)) dJ6_bitCount_0f7a4_18 ?_
  refine lv_iand hx hb dJ6_bitCount_0f7a4_21 ?_
  refine lv_iadd hx hb dJ6_bitCount_0f7a4_22 ?_
  refine lv_istore_n (lv' := [(0, .int (((p0 - (((p0.toUInt32 >>> ((1 : Int32).toUInt32 &&& Int32.toUInt32 31)).toInt32) &&& (1431655765 : Int32))) &&& (858993459 : Int32)) + ((((p0 - (((p0.toUInt32 >>> ((1 : Int32).toUInt32 &&& Int32.toUInt32 31)).toInt32) &&& (1431655765 : Int32))).toUInt32 >>> ((2 : Int32).toUInt32 &&& Int32.toUInt32 31)).toInt32) &&& (858993459 : Int32))))]) hx hb dJ6_bitCount_0f7a4_23 rfl hl (by decide) rfl (fun ls hl => ?_)
  refine lv_iload_n hx hb dJ6_bitCount_0f7a4_24 rfl (lv_at hl 0 rfl) ?_
  refine lv_iload_n hx hb dJ6_bitCount_0f7a4_25 rfl (lv_at hl 0 rfl) ?_
  refine lv_iconst (v := 4) hx hb dJ6_bitCount_0f7a4_26 (by decide) ?_
  refine lv_iushr hx hb dJ6_bitCount_0f7a4_27 rfl ?_
  refine lv_iadd hx hb dJ6_bitCount_0f7a4_28 ?_
  refine lv_ldcw (v := 252645135) hx hb hown (hts _ (mm_at 3 rfl)) dJ6_bitCount_0f7a4_29 ?_
  refine lv_iand hx hb dJ6_bitCount_0f7a4_32 ?_
  refine lv_istore_n (lv' := [(0, .int (((((p0 - (((p0.toUInt32 >>> ((1 : Int32).toUInt32 &&& Int32.toUInt32 31)).toInt32) &&& (1431655765 : Int32))) &&& (858993459 : Int32)) + ((((p0 - (((p0.toUInt32 >>> ((1 : Int32).toUInt32 &&& Int32.toUInt32 31)).toInt32) &&& (1431655765 : Int32))).toUInt32 >>> ((2 : Int32).toUInt32 &&& Int32.toUInt32 31)).toInt32) &&& (858993459 : Int32))) + (((((p0 - (((p0.toUInt32 >>> ((1 : Int32).toUInt32 &&& Int32.toUInt32 31)).toInt32) &&& (1431655765 : Int32))) &&& (858993459 : Int32)) + ((((p0 - (((p0.toUInt32 >>> ((1 : Int32).toUInt32 &&& Int32.toUInt32 31)).toInt32) &&& (1431655765 : Int32))).toUInt32 >>> ((2 : Int32).toUInt32 &&& Int32.toUInt32 31)).toInt32) &&& (858993459 : Int32))).toUInt32 >>> ((4 : Int32).toUInt32 &&& Int32.toUInt32 31)).toInt32)) &&& (252645135 : Int32)))]) hx hb dJ6_bitCount_0f7a4_33 rfl hl (by decide) rfl (fun ls hl => ?_)
  refine lv_iload_n hx hb dJ6_bitCount_0f7a4_34 rfl (lv_at hl 0 rfl) ?_
  refine lv_iload_n hx hb dJ6_bitCount_0f7a4_35 rfl (lv_at hl 0 rfl) ?_
  refine lv_bipush (v := 8) hx hb dJ6_bitCount_0f7a4_36 (by decide) ?_
  refine lv_iushr hx hb dJ6_bitCount_0f7a4_38 rfl ?_
  refine lv_iadd hx hb dJ6_bitCount_0f7a4_39 ?_
  refine lv_istore_n (lv' := [(0, .int ((((((p0 - (((p0.toUInt32 >>> ((1 : Int32).toUInt32 &&& Int32.toUInt32 31)).toInt32) &&& (1431655765 : Int32))) &&& (858993459 : Int32)) + ((((p0 - (((p0.toUInt32 >>> ((1 : Int32).toUInt32 &&& Int32.toUInt32 31)).toInt32) &&& (1431655765 : Int32))).toUInt32 >>> ((2 : Int32).toUInt32 &&& Int32.toUInt32 31)).toInt32) &&& (858993459 : Int32))) + (((((p0 - (((p0.toUInt32 >>> ((1 : Int32).toUInt32 &&& Int32.toUInt32 31)).toInt32) &&& (1431655765 : Int32))) &&& (858993459 : Int32)) + ((((p0 - (((p0.toUInt32 >>> ((1 : Int32).toUInt32 &&& Int32.toUInt32 31)).toInt32) &&& (1431655765 : Int32))).toUInt32 >>> ((2 : Int32).toUInt32 &&& Int32.toUInt32 31)).toInt32) &&& (858993459 : Int32))).toUInt32 >>> ((4 : Int32).toUInt32 &&& Int32.toUInt32 31)).toInt32)) &&& (252645135 : Int32)) + (((((((p0 - (((p0.toUInt32 >>> ((1 : Int32).toUInt32 &&& Int32.toUInt32 31)).toInt32) &&& (1431655765 : Int32))) &&& (858993459 : Int32)) + ((((p0 - (((p0.toUInt32 >>> ((1 : Int32).toUInt32 &&& Int32.toUInt32 31)).toInt32) &&& (1431655765 : Int32))).toUInt32 >>> ((2 : Int32).toUInt32 &&& Int32.toUInt32 31)).toInt32) &&& (858993459 : Int32))) + (((((p0 - (((p0.toUInt32 >>> ((1 : Int32).toUInt32 &&& Int32.toUInt32 31)).toInt32) &&& (1431655765 : Int32))) &&& (858993459 : Int32)) + ((((p0 - (((p0.toUInt32 >>> ((1 : Int32).toUInt32 &&& Int32.toUInt32 31)).toInt32) &&& (1431655765 : Int32))).toUInt32 >>> ((2 : Int32).toUInt32 &&& Int32.toUInt32 31)).toInt32) &&& (858993459 : Int32))).toUInt32 >>> ((4 : Int32).toUInt32 &&& Int32.toUInt32 31)).toInt32)) &&& (252645135 : Int32)).toUInt32 >>> ((8 : Int32).toUInt32 &&& Int32.toUInt32 31)).toInt32)))]) hx hb dJ6_bitCount_0f7a4_40 rfl hl (by decide) rfl (fun ls hl => ?_)
  refine lv_iload_n hx hb dJ6_bitCount_0f7a4_41 rfl (lv_at hl 0 rfl) ?_
  refine lv_iload_n hx hb dJ6_bitCount_0f7a4_42 rfl (lv_at hl 0 rfl) ?_
  refine lv_bipush (v := 16) hx hb dJ6_bitCount_0f7a4_43 (by decide) ?_
  refine lv_iushr hx hb dJ6_bitCount_0f7a4_45 rfl ?_
  refine lv_iadd hx hb dJ6_bitCount_0f7a4_46 ?_
  refine lv_istore_n (lv' := [(0, .int (((((((p0 - (((p0.toUInt32 >>> ((1 : Int32).toUInt32 &&& Int32.toUInt32 31)).toInt32) &&& (1431655765 : Int32))) &&& (858993459 : Int32)) + ((((p0 - (((p0.toUInt32 >>> ((1 : Int32).toUInt32 &&& Int32.toUInt32 31)).toInt32) &&& (1431655765 : Int32))).toUInt32 >>> ((2 : Int32).toUInt32 &&& Int32.toUInt32 31)).toInt32) &&& (858993459 : Int32))) + (((((p0 - (((p0.toUInt32 >>> ((1 : Int32).toUInt32 &&& Int32.toUInt32 31)).toInt32) &&& (1431655765 : Int32))) &&& (858993459 : Int32)) + ((((p0 - (((p0.toUInt32 >>> ((1 : Int32).toUInt32 &&& Int32.toUInt32 31)).toInt32) &&& (1431655765 : Int32))).toUInt32 >>> ((2 : Int32).toUInt32 &&& Int32.toUInt32 31)).toInt32) &&& (858993459 : Int32))).toUInt32 >>> ((4 : Int32).toUInt32 &&& Int32.toUInt32 31)).toInt32)) &&& (252645135 : Int32)) + (((((((p0 - (((p0.toUInt32 >>> ((1 : Int32).toUInt32 &&& Int32.toUInt32 31)).toInt32) &&& (1431655765 : Int32))) &&& (858993459 : Int32)) + ((((p0 - (((p0.toUInt32 >>> ((1 : Int32).toUInt32 &&& Int32.toUInt32 31)).toInt32) &&& (1431655765 : Int32))).toUInt32 >>> ((2 : Int32).toUInt32 &&& Int32.toUInt32 31)).toInt32) &&& (858993459 : Int32))) + (((((p0 - (((p0.toUInt32 >>> ((1 : Int32).toUInt32 &&& Int32.toUInt32 31)).toInt32) &&& (1431655765 : Int32))) &&& (858993459 : Int32)) + ((((p0 - (((p0.toUInt32 >>> ((1 : Int32).toUInt32 &&& Int32.toUInt32 31)).toInt32) &&& (1431655765 : Int32))).toUInt32 >>> ((2 : Int32).toUInt32 &&& Int32.toUInt32 31)).toInt32) &&& (858993459 : Int32))).toUInt32 >>> ((4 : Int32).toUInt32 &&& Int32.toUInt32 31)).toInt32)) &&& (252645135 : Int32)).toUInt32 >>> ((8 : Int32).toUInt32 &&& Int32.toUInt32 31)).toInt32)) + ((((((((p0 - (((p0.toUInt32 >>> ((1 : Int32).toUInt32 &&& Int32.toUInt32 31)).toInt32) &&& (1431655765 : Int32))) &&& (858993459 : Int32)) + ((((p0 - (((p0.toUInt32 >>> ((1 : Int32).toUInt32 &&& Int32.toUInt32 31)).toInt32) &&& (1431655765 : Int32))).toUInt32 >>> ((2 : Int32).toUInt32 &&& Int32.toUInt32 31)).toInt32) &&& (858993459 : Int32))) + (((((p0 - (((p0.toUInt32 >>> ((1 : Int32).toUInt32 &&& Int32.toUInt32 31)).toInt32) &&& (1431655765 : Int32))) &&& (858993459 : Int32)) + ((((p0 - (((p0.toUInt32 >>> ((1 : Int32).toUInt32 &&& Int32.toUInt32 31)).toInt32) &&& (1431655765 : Int32))).toUInt32 >>> ((2 : Int32).toUInt32 &&& Int32.toUInt32 31)).toInt32) &&& (858993459 : Int32))).toUInt32 >>> ((4 : Int32).toUInt32 &&& Int32.toUInt32 31)).toInt32)) &&& (252645135 : Int32)) + (((((((p0 - (((p0.toUInt32 >>> ((1 : Int32).toUInt32 &&& Int32.toUInt32 31)).toInt32) &&& (1431655765 : Int32))) &&& (858993459 : Int32)) + ((((p0 - (((p0.toUInt32 >>> ((1 : Int32).toUInt32 &&& Int32.toUInt32 31)).toInt32) &&& (1431655765 : Int32))).toUInt32 >>> ((2 : Int32).toUInt32 &&& Int32.toUInt32 31)).toInt32) &&& (858993459 : Int32))) + (((((p0 - (((p0.toUInt32 >>> ((1 : Int32).toUInt32 &&& Int32.toUInt32 31)).toInt32) &&& (1431655765 : Int32))) &&& (858993459 : Int32)) + ((((p0 - (((p0.toUInt32 >>> ((1 : Int32).toUInt32 &&& Int32.toUInt32 31)).toInt32) &&& (1431655765 : Int32))).toUInt32 >>> ((2 : Int32).toUInt32 &&& Int32.toUInt32 31)).toInt32) &&& (858993459 : Int32))).toUInt32 >>> ((4 : Int32).toUInt32 &&& Int32.toUInt32 31)).toInt32)) &&& (252645135 : Int32)).toUInt32 >>> ((8 : Int32).toUInt32 &&& Int32.toUInt32 31)).toInt32)).toUInt32 >>> ((16 : Int32).toUInt32 &&& Int32.toUInt32 31)).toInt32)))]) hx hb dJ6_bitCount_0f7a4_47 rfl hl (by decide) rfl (fun ls hl => ?_)
  refine lv_iload_n hx hb dJ6_bitCount_0f7a4_48 rfl (lv_at hl 0 rfl) ?_
  refine lv_bipush (v := 63) hx hb dJ6_bitCount_0f7a4_49 (by decide) ?_
  refine lv_iand hx hb dJ6_bitCount_0f7a4_51 ?_
  exact cr_ri (mc := 0) (ms := 0) E hr hlk hsz hM ⟨show (0 : Nat) ≤ 0 from by omega, show (0 : Nat) ≤ 0 from by omega⟩ ⟨⟨rfl, rfl, rfl, rfl⟩, (show ((((((((p0 - (((p0.toUInt32 >>> ((1 : Int32).toUInt32 &&& Int32.toUInt32 31)).toInt32) &&& (1431655765 : Int32))) &&& (858993459 : Int32)) + ((((p0 - (((p0.toUInt32 >>> ((1 : Int32).toUInt32 &&& Int32.toUInt32 31)).toInt32) &&& (1431655765 : Int32))).toUInt32 >>> ((2 : Int32).toUInt32 &&& Int32.toUInt32 31)).toInt32) &&& (858993459 : Int32))) + (((((p0 - (((p0.toUInt32 >>> ((1 : Int32).toUInt32 &&& Int32.toUInt32 31)).toInt32) &&& (1431655765 : Int32))) &&& (858993459 : Int32)) + ((((p0 - (((p0.toUInt32 >>> ((1 : Int32).toUInt32 &&& Int32.toUInt32 31)).toInt32) &&& (1431655765 : Int32))).toUInt32 >>> ((2 : Int32).toUInt32 &&& Int32.toUInt32 31)).toInt32) &&& (858993459 : Int32))).toUInt32 >>> ((4 : Int32).toUInt32 &&& Int32.toUInt32 31)).toInt32)) &&& (252645135 : Int32)) + (((((((p0 - (((p0.toUInt32 >>> ((1 : Int32).toUInt32 &&& Int32.toUInt32 31)).toInt32) &&& (1431655765 : Int32))) &&& (858993459 : Int32)) + ((((p0 - (((p0.toUInt32 >>> ((1 : Int32).toUInt32 &&& Int32.toUInt32 31)).toInt32) &&& (1431655765 : Int32))).toUInt32 >>> ((2 : Int32).toUInt32 &&& Int32.toUInt32 31)).toInt32) &&& (858993459 : Int32))) + (((((p0 - (((p0.toUInt32 >>> ((1 : Int32).toUInt32 &&& Int32.toUInt32 31)).toInt32) &&& (1431655765 : Int32))) &&& (858993459 : Int32)) + ((((p0 - (((p0.toUInt32 >>> ((1 : Int32).toUInt32 &&& Int32.toUInt32 31)).toInt32) &&& (1431655765 : Int32))).toUInt32 >>> ((2 : Int32).toUInt32 &&& Int32.toUInt32 31)).toInt32) &&& (858993459 : Int32))).toUInt32 >>> ((4 : Int32).toUInt32 &&& Int32.toUInt32 31)).toInt32)) &&& (252645135 : Int32)).toUInt32 >>> ((8 : Int32).toUInt32 &&& Int32.toUInt32 31)).toInt32)) + ((((((((p0 - (((p0.toUInt32 >>> ((1 : Int32).toUInt32 &&& Int32.toUInt32 31)).toInt32) &&& (1431655765 : Int32))) &&& (858993459 : Int32)) + ((((p0 - (((p0.toUInt32 >>> ((1 : Int32).toUInt32 &&& Int32.toUInt32 31)).toInt32) &&& (1431655765 : Int32))).toUInt32 >>> ((2 : Int32).toUInt32 &&& Int32.toUInt32 31)).toInt32) &&& (858993459 : Int32))) + (((((p0 - (((p0.toUInt32 >>> ((1 : Int32).toUInt32 &&& Int32.toUInt32 31)).toInt32) &&& (1431655765 : Int32))) &&& (858993459 : Int32)) + ((((p0 - (((p0.toUInt32 >>> ((1 : Int32).toUInt32 &&& Int32.toUInt32 31)).toInt32) &&& (1431655765 : Int32))).toUInt32 >>> ((2 : Int32).toUInt32 &&& Int32.toUInt32 31)).toInt32) &&& (858993459 : Int32))).toUInt32 >>> ((4 : Int32).toUInt32 &&& Int32.toUInt32 31)).toInt32)) &&& (252645135 : Int32)) + (((((((p0 - (((p0.toUInt32 >>> ((1 : Int32).toUInt32 &&& Int32.toUInt32 31)).toInt32) &&& (1431655765 : Int32))) &&& (858993459 : Int32)) + ((((p0 - (((p0.toUInt32 >>> ((1 : Int32).toUInt32 &&& Int32.toUInt32 31)).toInt32) &&& (1431655765 : Int32))).toUInt32 >>> ((2 : Int32).toUInt32 &&& Int32.toUInt32 31)).toInt32) &&& (858993459 : Int32))) + (((((p0 - (((p0.toUInt32 >>> ((1 : Int32).toUInt32 &&& Int32.toUInt32 31)).toInt32) &&& (1431655765 : Int32))) &&& (858993459 : Int32)) + ((((p0 - (((p0.toUInt32 >>> ((1 : Int32).toUInt32 &&& Int32.toUInt32 31)).toInt32) &&& (1431655765 : Int32))).toUInt32 >>> ((2 : Int32).toUInt32 &&& Int32.toUInt32 31)).toInt32) &&& (858993459 : Int32))).toUInt32 >>> ((4 : Int32).toUInt32 &&& Int32.toUInt32 31)).toInt32)) &&& (252645135 : Int32)).toUInt32 >>> ((8 : Int32).toUInt32 &&& Int32.toUInt32 31)).toInt32)).toUInt32 >>> ((16 : Int32).toUInt32 &&& Int32.toUInt32 31)).toInt32)) &&& (63 : Int32)).toInt = hB p0.toInt from by exact wk_bc k0)⟩ dJ6_bitCount_0f7a4_52
def w5X0_sinceStart : List Cond := .code yX0_sinceStart cX0_sinceStart 2 (some .int) :: ([.fieldLink RX0 36 "SkiShots$Entry" "start" "I"] ++ wsX00)
set_option maxHeartbeats 4000000 in
set_option maxRecDepth 100000 in
theorem h5_X0_sinceStart (l : Launch) (D : va_G) (cA : Nat → ClassId) (ad av : Nat → Nat) (L : List Nat) (K : Nat → Nat) (I : Nat → Nat → Int32) (O : Nat → Nat → Option Nat) (sz : Nat) (x0 : Nat) (p0 : Int32) (hI : cI L K I O) (mx0 : x0 ∈ L) (kx0 : K x0 = 0) (k0 : -1 ≤ p0.toInt ∧ p0.toInt ≤ 200000) (k1 : -1 ≤ (I x0 2).toInt) : Met l yX0_sinceStart w5X0_sinceStart ({ frames := 0, cells := 0, slots := 0, locals := 0 }) (cPre D cA ad av L K I O sz [.ref x0, .int p0]) (cQi D cA L K I O sz [] [] [] (fun r L' K' I' O' => (L' = L ∧ K' = K ∧ I' = I ∧ O' = O) ∧ (((r.toInt = -1 ∧ ((I x0 2).toInt < 0 ∨ p0.toInt < (I x0 2).toInt)) ∨ (0 ≤ (I x0 2).toInt ∧ (I x0 2).toInt ≤ p0.toInt ∧ r.toInt = p0.toInt - (I x0 2).toInt))))) 0 0 (va_A (cW cA L K I O) sz) := by
  refine cr_met (own := RX0) (xs := []) (WI := []) (WO := []) (cc := cX0_sinceStart) (maxL := 2) (ret := (some .int)) (by decide) rfl rfl (Nat.le_of_ble_eq_true rfl) hI ?_
  intro p e s m args below meth c ls E hV hml hr hlk hname hsz hA hM hl
  have hx := E.1
  have hb := E.2.1
  have hts := E.2.2.1
  have hown := E.2.2.2.1
  have hl : lv_has ls 2 [(0, .ref x0), (1, .int p0)] := hl
  have hin0 : ∀ w ∈ wsX00, w ∈ w5X0_sinceStart := by decide +kernel
  refine lv_aload_n hx hb dX0_sinceStart_0 rfl (lv_at hl 0 rfl) ?_
  refine cr_get (κ := 0) (ci := 0) (k := 2) (C := RX0) (T := TX0) (N := 10) (fs := cfs 0) (v := .int (I x0 2)) E hM mx0 kx0 (fun _ _ => rfl) rfl hin0 (by decide) (index := 36) (mm_at 1 rfl) rfl rfl dX0_sinceStart_1 ?_
  refine lv_iconst (v := (-1)) hx hb dX0_sinceStart_4 (by decide) ?_
  refine mm_icmp_eq (X := (I x0 2).toInt) (Y := (-1)) (tgt := 21) hx hb dX0_sinceStart_5 (by decide) rfl num_m1 (fun c_1 => ?_) (fun c_1 => ?_)
  · refine lv_iconst (v := (-1)) hx hb dX0_sinceStart_21 (by decide) ?_
    refine lv_goto (tgt := 31) hx hb dX0_sinceStart_22 (by decide) ?_
    exact cr_ri (mc := 0) (ms := 0) E hr hlk hsz hM ⟨show (0 : Nat) ≤ 0 from by omega, show (0 : Nat) ≤ 0 from by omega⟩ ⟨⟨rfl, rfl, rfl, rfl⟩, (show ((((-1) : Int32).toInt = -1 ∧ ((I x0 2).toInt < 0 ∨ p0.toInt < (I x0 2).toInt)) ∨ (0 ≤ (I x0 2).toInt ∧ (I x0 2).toInt ≤ p0.toInt ∧ ((-1) : Int32).toInt = p0.toInt - (I x0 2).toInt)) from by have n9 := num_m1; omega)⟩ dX0_sinceStart_31
  · refine lv_iload_n hx hb dX0_sinceStart_8 rfl (lv_at hl 1 rfl) ?_
    refine lv_iconst (v := (-1)) hx hb dX0_sinceStart_9 (by decide) ?_
    refine mm_icmp_eq (X := p0.toInt) (Y := (-1)) (tgt := 21) hx hb dX0_sinceStart_10 (by decide) rfl num_m1 (fun c_2 => ?_) (fun c_2 => ?_)
    · refine lv_iconst (v := (-1)) hx hb dX0_sinceStart_21 (by decide) ?_
      refine lv_goto (tgt := 31) hx hb dX0_sinceStart_22 (by decide) ?_
      exact cr_ri (mc := 0) (ms := 0) E hr hlk hsz hM ⟨show (0 : Nat) ≤ 0 from by omega, show (0 : Nat) ≤ 0 from by omega⟩ ⟨⟨rfl, rfl, rfl, rfl⟩, (show ((((-1) : Int32).toInt = -1 ∧ ((I x0 2).toInt < 0 ∨ p0.toInt < (I x0 2).toInt)) ∨ (0 ≤ (I x0 2).toInt ∧ (I x0 2).toInt ≤ p0.toInt ∧ ((-1) : Int32).toInt = p0.toInt - (I x0 2).toInt)) from by have n9 := num_m1; omega)⟩ dX0_sinceStart_31
    · refine lv_iload_n hx hb dX0_sinceStart_13 rfl (lv_at hl 1 rfl) ?_
      refine lv_aload_n hx hb dX0_sinceStart_14 rfl (lv_at hl 0 rfl) ?_
      refine cr_get (κ := 0) (ci := 0) (k := 2) (C := RX0) (T := TX0) (N := 10) (fs := cfs 0) (v := .int (I x0 2)) E hM mx0 kx0 (fun _ _ => rfl) rfl hin0 (by decide) (index := 36) (mm_at 1 rfl) rfl rfl dX0_sinceStart_15 ?_
      refine mm_icmp_ge (X := p0.toInt) (Y := (I x0 2).toInt) (tgt := 25) hx hb dX0_sinceStart_18 (by decide) rfl rfl (fun c_3 => ?_) (fun c_3 => ?_)
      · refine lv_iload_n hx hb dX0_sinceStart_25 rfl (lv_at hl 1 rfl) ?_
        refine lv_aload_n hx hb dX0_sinceStart_26 rfl (lv_at hl 0 rfl) ?_
        refine cr_get (κ := 0) (ci := 0) (k := 2) (C := RX0) (T := TX0) (N := 10) (fs := cfs 0) (v := .int (I x0 2)) E hM mx0 kx0 (fun _ _ => rfl) rfl hin0 (by decide) (index := 36) (mm_at 1 rfl) rfl rfl dX0_sinceStart_27 ?_
        refine mm_isub (X := p0.toInt) (Y := (I x0 2).toInt) hx hb dX0_sinceStart_30 rfl rfl (by omega) (fun z_4 hz_4 => ?_)
        exact cr_ri (mc := 0) (ms := 0) E hr hlk hsz hM ⟨show (0 : Nat) ≤ 0 from by omega, show (0 : Nat) ≤ 0 from by omega⟩ ⟨⟨rfl, rfl, rfl, rfl⟩, (show ((z_4.toInt = -1 ∧ ((I x0 2).toInt < 0 ∨ p0.toInt < (I x0 2).toInt)) ∨ (0 ≤ (I x0 2).toInt ∧ (I x0 2).toInt ≤ p0.toInt ∧ z_4.toInt = p0.toInt - (I x0 2).toInt)) from by omega)⟩ dX0_sinceStart_31
      · refine lv_iconst (v := (-1)) hx hb dX0_sinceStart_21 (by decide) ?_
        refine lv_goto (tgt := 31) hx hb dX0_sinceStart_22 (by decide) ?_
        exact cr_ri (mc := 0) (ms := 0) E hr hlk hsz hM ⟨show (0 : Nat) ≤ 0 from by omega, show (0 : Nat) ≤ 0 from by omega⟩ ⟨⟨rfl, rfl, rfl, rfl⟩, (show ((((-1) : Int32).toInt = -1 ∧ ((I x0 2).toInt < 0 ∨ p0.toInt < (I x0 2).toInt)) ∨ (0 ≤ (I x0 2).toInt ∧ (I x0 2).toInt ≤ p0.toInt ∧ ((-1) : Int32).toInt = p0.toInt - (I x0 2).toInt)) from by have n9 := num_m1; omega)⟩ dX0_sinceStart_31
def w5X0_hasTime : List Cond := .code yX0_hasTime cX0_hasTime 1 (some .boolean) :: ([.fieldLink RX0 39 "SkiShots$Entry" "low" "I"] ++ wsX00)
set_option maxHeartbeats 4000000 in
set_option maxRecDepth 100000 in
theorem h5_X0_hasTime (l : Launch) (D : va_G) (cA : Nat → ClassId) (ad av : Nat → Nat) (L : List Nat) (K : Nat → Nat) (I : Nat → Nat → Int32) (O : Nat → Nat → Option Nat) (sz : Nat) (x0 : Nat) (hI : cI L K I O) (mx0 : x0 ∈ L) (kx0 : K x0 = 0)  : Met l yX0_hasTime w5X0_hasTime ({ frames := 0, cells := 0, slots := 0, locals := 0 }) (cPre D cA ad av L K I O sz [.ref x0]) (cQi D cA L K I O sz [] [] [] (fun r L' K' I' O' => (L' = L ∧ K' = K ∧ I' = I ∧ O' = O) ∧ ((r.toInt = 1 ∧ ¬ (I x0 3).toInt = -1) ∨ (r.toInt = 0 ∧ (I x0 3).toInt = -1)))) 0 0 (va_A (cW cA L K I O) sz) := by
  refine cr_met (own := RX0) (xs := []) (WI := []) (WO := []) (cc := cX0_hasTime) (maxL := 1) (ret := (some .boolean)) (by decide) rfl rfl (Nat.le_of_ble_eq_true rfl) hI ?_
  intro p e s m args below meth c ls E hV hml hr hlk hname hsz hA hM hl
  have hx := E.1
  have hb := E.2.1
  have hts := E.2.2.1
  have hown := E.2.2.2.1
  have hl : lv_has ls 1 [(0, .ref x0)] := hl
  have hin0 : ∀ w ∈ wsX00, w ∈ w5X0_hasTime := by decide +kernel
  refine lv_aload_n hx hb dX0_hasTime_0 rfl (lv_at hl 0 rfl) ?_
  refine cr_get (κ := 0) (ci := 0) (k := 3) (C := RX0) (T := TX0) (N := 10) (fs := cfs 0) (v := .int (I x0 3)) E hM mx0 kx0 (fun _ _ => rfl) rfl hin0 (by decide) (index := 39) (mm_at 1 rfl) rfl rfl dX0_hasTime_1 ?_
  refine lv_iconst (v := (-1)) hx hb dX0_hasTime_4 (by decide) ?_
  refine mm_icmp_eq (X := (I x0 3).toInt) (Y := (-1)) (tgt := 12) hx hb dX0_hasTime_5 (by decide) rfl num_m1 (fun c_1 => ?_) (fun c_1 => ?_)
  · refine lv_iconst (v := 0) hx hb dX0_hasTime_12 (by decide) ?_
    exact cr_rz (mc := 0) (ms := 0) (X := 0) E hr hlk hsz hM ⟨show (0 : Nat) ≤ 0 from by omega, show (0 : Nat) ≤ 0 from by omega⟩ num_0 (by omega) ⟨⟨rfl, rfl, rfl, rfl⟩, (show ((0 : Int32).toInt = 1 ∧ ¬ (I x0 3).toInt = -1) ∨ ((0 : Int32).toInt = 0 ∧ (I x0 3).toInt = -1) from by have n9 := num_0; omega)⟩ dX0_hasTime_13
  · refine lv_iconst (v := 1) hx hb dX0_hasTime_8 (by decide) ?_
    refine lv_goto (tgt := 13) hx hb dX0_hasTime_9 (by decide) ?_
    exact cr_rz (mc := 0) (ms := 0) (X := 1) E hr hlk hsz hM ⟨show (0 : Nat) ≤ 0 from by omega, show (0 : Nat) ≤ 0 from by omega⟩ num_1 (by omega) ⟨⟨rfl, rfl, rfl, rfl⟩, (show ((1 : Int32).toInt = 1 ∧ ¬ (I x0 3).toInt = -1) ∨ ((1 : Int32).toInt = 0 ∧ (I x0 3).toInt = -1) from by have n9 := num_1; omega)⟩ dX0_hasTime_13
