def w5X2_hasEvent : List Cond := .code yX2_hasEvent cX2_hasEvent 3 (some .boolean) :: ([.fieldLink RX2 15 "SkiShots$Format" "laps" "I", .fieldLink RX2 18 "SkiShots$Format" "shootings" "I"] ++ wsX20)
set_option maxHeartbeats 4000000 in
set_option maxRecDepth 100000 in
theorem h5_X2_hasEvent (l : Launch) (D : va_G) (cA : Nat → ClassId) (ad av : Nat → Nat) (L : List Nat) (K : Nat → Nat) (I : Nat → Nat → Int32) (O : Nat → Nat → Option Nat) (sz : Nat) (x0 : Nat) (p0 : Int32) (p1 : Int32) (hI : cI L K I O) (mx0 : x0 ∈ L) (kx0 : K x0 = 2)  : Met l yX2_hasEvent w5X2_hasEvent ({ frames := 0, cells := 0, slots := 0, locals := 0 }) (cPre D cA ad av L K I O sz [.ref x0, .int p0, .int p1]) (cQi D cA L K I O sz [] [] [] (fun r L' K' I' O' => (L' = L ∧ K' = K ∧ I' = I ∧ O' = O) ∧ ((r.toInt = 1 ∧ ((p0.toInt = 0 ∧ 1 ≤ p1.toInt ∧ p1.toInt ≤ (I x0 1).toInt) ∨ ((p0.toInt = 1 ∨ p0.toInt = 2) ∧ 0 ≤ p1.toInt ∧ p1.toInt < (I x0 2).toInt) ∨ (p0.toInt = 3 ∧ p1.toInt = 0))) ∨ (r.toInt = 0 ∧ ¬ ((p0.toInt = 0 ∧ 1 ≤ p1.toInt ∧ p1.toInt ≤ (I x0 1).toInt) ∨ ((p0.toInt = 1 ∨ p0.toInt = 2) ∧ 0 ≤ p1.toInt ∧ p1.toInt < (I x0 2).toInt) ∨ (p0.toInt = 3 ∧ p1.toInt = 0)))))) 0 0 (va_A (cW cA L K I O) sz) := by
  refine cr_met (own := RX2) (xs := []) (WI := []) (WO := []) (cc := cX2_hasEvent) (maxL := 3) (ret := (some .boolean)) (by decide) rfl rfl (Nat.le_of_ble_eq_true rfl) hI ?_
  intro p e s m args below meth c ls E hV hml hr hlk hname hsz hA hM hl
  have hx := E.1
  have hb := E.2.1
  have hts := E.2.2.1
  have hown := E.2.2.2.1
  have hl : lv_has ls 3 [(0, .ref x0), (1, .int p0), (2, .int p1)] := hl
  have hin2 : ∀ w ∈ wsX20, w ∈ w5X2_hasEvent := by decide +kernel
  refine lv_iload_n hx hb dX2_hasEvent_0 rfl (lv_at hl 1 rfl) ?_
  by_cases s_1 : p0.toInt = 0
  · refine lv_tableIn (tgt := 32) (off := 31) hx hb dX2_hasEvent_1 (by omega) (by omega) (by rw [s_1]; rfl) (by decide) ?_
    refine lv_iload_n hx hb dX2_hasEvent_32 rfl (lv_at hl 2 rfl) ?_
    refine lv_iconst (v := 1) hx hb dX2_hasEvent_33 (by decide) ?_
    refine mm_icmp_lt (X := p1.toInt) (Y := 1) (tgt := 49) hx hb dX2_hasEvent_34 (by decide) rfl num_1 (fun c_2 => ?_) (fun c_2 => ?_)
    · refine lv_iconst (v := 0) hx hb dX2_hasEvent_49 (by decide) ?_
      exact cr_rz (mc := 0) (ms := 0) (X := 0) E hr hlk hsz hM ⟨show (0 : Nat) ≤ 0 from by omega, show (0 : Nat) ≤ 0 from by omega⟩ num_0 (by omega) ⟨⟨rfl, rfl, rfl, rfl⟩, (show ((0 : Int32).toInt = 1 ∧ ((p0.toInt = 0 ∧ 1 ≤ p1.toInt ∧ p1.toInt ≤ (I x0 1).toInt) ∨ ((p0.toInt = 1 ∨ p0.toInt = 2) ∧ 0 ≤ p1.toInt ∧ p1.toInt < (I x0 2).toInt) ∨ (p0.toInt = 3 ∧ p1.toInt = 0))) ∨ ((0 : Int32).toInt = 0 ∧ ¬ ((p0.toInt = 0 ∧ 1 ≤ p1.toInt ∧ p1.toInt ≤ (I x0 1).toInt) ∨ ((p0.toInt = 1 ∨ p0.toInt = 2) ∧ 0 ≤ p1.toInt ∧ p1.toInt < (I x0 2).toInt) ∨ (p0.toInt = 3 ∧ p1.toInt = 0))) from by have n9 := num_0; exact Or.inr ⟨by omega, by omega⟩)⟩ dX2_hasEvent_50
    · refine lv_iload_n hx hb dX2_hasEvent_37 rfl (lv_at hl 2 rfl) ?_
      refine lv_aload_n hx hb dX2_hasEvent_38 rfl (lv_at hl 0 rfl) ?_
      refine cr_get (κ := 2) (ci := 2) (k := 1) (C := RX2) (T := TX2) (N := 8) (fs := cfs 2) (v := .int (I x0 1)) E hM mx0 kx0 (fun _ _ => rfl) rfl hin2 (by decide) (index := 15) (mm_at 1 rfl) rfl rfl dX2_hasEvent_39 ?_
      refine mm_icmp_gt (X := p1.toInt) (Y := (I x0 1).toInt) (tgt := 49) hx hb dX2_hasEvent_42 (by decide) rfl rfl (fun c_3 => ?_) (fun c_3 => ?_)
      · refine lv_iconst (v := 0) hx hb dX2_hasEvent_49 (by decide) ?_
        exact cr_rz (mc := 0) (ms := 0) (X := 0) E hr hlk hsz hM ⟨show (0 : Nat) ≤ 0 from by omega, show (0 : Nat) ≤ 0 from by omega⟩ num_0 (by omega) ⟨⟨rfl, rfl, rfl, rfl⟩, (show ((0 : Int32).toInt = 1 ∧ ((p0.toInt = 0 ∧ 1 ≤ p1.toInt ∧ p1.toInt ≤ (I x0 1).toInt) ∨ ((p0.toInt = 1 ∨ p0.toInt = 2) ∧ 0 ≤ p1.toInt ∧ p1.toInt < (I x0 2).toInt) ∨ (p0.toInt = 3 ∧ p1.toInt = 0))) ∨ ((0 : Int32).toInt = 0 ∧ ¬ ((p0.toInt = 0 ∧ 1 ≤ p1.toInt ∧ p1.toInt ≤ (I x0 1).toInt) ∨ ((p0.toInt = 1 ∨ p0.toInt = 2) ∧ 0 ≤ p1.toInt ∧ p1.toInt < (I x0 2).toInt) ∨ (p0.toInt = 3 ∧ p1.toInt = 0))) from by have n9 := num_0; exact Or.inr ⟨by omega, by omega⟩)⟩ dX2_hasEvent_50
      · refine lv_iconst (v := 1) hx hb dX2_hasEvent_45 (by decide) ?_
        refine lv_goto (tgt := 50) hx hb dX2_hasEvent_46 (by decide) ?_
        exact cr_rz (mc := 0) (ms := 0) (X := 1) E hr hlk hsz hM ⟨show (0 : Nat) ≤ 0 from by omega, show (0 : Nat) ≤ 0 from by omega⟩ num_1 (by omega) ⟨⟨rfl, rfl, rfl, rfl⟩, (show ((1 : Int32).toInt = 1 ∧ ((p0.toInt = 0 ∧ 1 ≤ p1.toInt ∧ p1.toInt ≤ (I x0 1).toInt) ∨ ((p0.toInt = 1 ∨ p0.toInt = 2) ∧ 0 ≤ p1.toInt ∧ p1.toInt < (I x0 2).toInt) ∨ (p0.toInt = 3 ∧ p1.toInt = 0))) ∨ ((1 : Int32).toInt = 0 ∧ ¬ ((p0.toInt = 0 ∧ 1 ≤ p1.toInt ∧ p1.toInt ≤ (I x0 1).toInt) ∨ ((p0.toInt = 1 ∨ p0.toInt = 2) ∧ 0 ≤ p1.toInt ∧ p1.toInt < (I x0 2).toInt) ∨ (p0.toInt = 3 ∧ p1.toInt = 0))) from by have n9 := num_1; exact Or.inl ⟨by omega, by omega⟩)⟩ dX2_hasEvent_50
  by_cases s_4 : p0.toInt = 1
  · refine lv_tableIn (tgt := 51) (off := 50) hx hb dX2_hasEvent_1 (by omega) (by omega) (by rw [s_4]; rfl) (by decide) ?_
    refine lv_iload_n hx hb dX2_hasEvent_51 rfl (lv_at hl 2 rfl) ?_
    refine mm_if_lt (X := p1.toInt) (tgt := 67) hx hb dX2_hasEvent_52 (by decide) rfl (fun c_5 => ?_) (fun c_5 => ?_)
    · refine lv_iconst (v := 0) hx hb dX2_hasEvent_67 (by decide) ?_
      exact cr_rz (mc := 0) (ms := 0) (X := 0) E hr hlk hsz hM ⟨show (0 : Nat) ≤ 0 from by omega, show (0 : Nat) ≤ 0 from by omega⟩ num_0 (by omega) ⟨⟨rfl, rfl, rfl, rfl⟩, (show ((0 : Int32).toInt = 1 ∧ ((p0.toInt = 0 ∧ 1 ≤ p1.toInt ∧ p1.toInt ≤ (I x0 1).toInt) ∨ ((p0.toInt = 1 ∨ p0.toInt = 2) ∧ 0 ≤ p1.toInt ∧ p1.toInt < (I x0 2).toInt) ∨ (p0.toInt = 3 ∧ p1.toInt = 0))) ∨ ((0 : Int32).toInt = 0 ∧ ¬ ((p0.toInt = 0 ∧ 1 ≤ p1.toInt ∧ p1.toInt ≤ (I x0 1).toInt) ∨ ((p0.toInt = 1 ∨ p0.toInt = 2) ∧ 0 ≤ p1.toInt ∧ p1.toInt < (I x0 2).toInt) ∨ (p0.toInt = 3 ∧ p1.toInt = 0))) from by have n9 := num_0; exact Or.inr ⟨by omega, by omega⟩)⟩ dX2_hasEvent_68
    · refine lv_iload_n hx hb dX2_hasEvent_55 rfl (lv_at hl 2 rfl) ?_
      refine lv_aload_n hx hb dX2_hasEvent_56 rfl (lv_at hl 0 rfl) ?_
      refine cr_get (κ := 2) (ci := 2) (k := 2) (C := RX2) (T := TX2) (N := 8) (fs := cfs 2) (v := .int (I x0 2)) E hM mx0 kx0 (fun _ _ => rfl) rfl hin2 (by decide) (index := 18) (mm_at 2 rfl) rfl rfl dX2_hasEvent_57 ?_
      refine mm_icmp_ge (X := p1.toInt) (Y := (I x0 2).toInt) (tgt := 67) hx hb dX2_hasEvent_60 (by decide) rfl rfl (fun c_6 => ?_) (fun c_6 => ?_)
      · refine lv_iconst (v := 0) hx hb dX2_hasEvent_67 (by decide) ?_
        exact cr_rz (mc := 0) (ms := 0) (X := 0) E hr hlk hsz hM ⟨show (0 : Nat) ≤ 0 from by omega, show (0 : Nat) ≤ 0 from by omega⟩ num_0 (by omega) ⟨⟨rfl, rfl, rfl, rfl⟩, (show ((0 : Int32).toInt = 1 ∧ ((p0.toInt = 0 ∧ 1 ≤ p1.toInt ∧ p1.toInt ≤ (I x0 1).toInt) ∨ ((p0.toInt = 1 ∨ p0.toInt = 2) ∧ 0 ≤ p1.toInt ∧ p1.toInt < (I x0 2).toInt) ∨ (p0.toInt = 3 ∧ p1.toInt = 0))) ∨ ((0 : Int32).toInt = 0 ∧ ¬ ((p0.toInt = 0 ∧ 1 ≤ p1.toInt ∧ p1.toInt ≤ (I x0 1).toInt) ∨ ((p0.toInt = 1 ∨ p0.toInt = 2) ∧ 0 ≤ p1.toInt ∧ p1.toInt < (I x0 2).toInt) ∨ (p0.toInt = 3 ∧ p1.toInt = 0))) from by have n9 := num_0; exact Or.inr ⟨by omega, by omega⟩)⟩ dX2_hasEvent_68
      · refine lv_iconst (v := 1) hx hb dX2_hasEvent_63 (by decide) ?_
        refine lv_goto (tgt := 68) hx hb dX2_hasEvent_64 (by decide) ?_
        exact cr_rz (mc := 0) (ms := 0) (X := 1) E hr hlk hsz hM ⟨show (0 : Nat) ≤ 0 from by omega, show (0 : Nat) ≤ 0 from by omega⟩ num_1 (by omega) ⟨⟨rfl, rfl, rfl, rfl⟩, (show ((1 : Int32).toInt = 1 ∧ ((p0.toInt = 0 ∧ 1 ≤ p1.toInt ∧ p1.toInt ≤ (I x0 1).toInt) ∨ ((p0.toInt = 1 ∨ p0.toInt = 2) ∧ 0 ≤ p1.toInt ∧ p1.toInt < (I x0 2).toInt) ∨ (p0.toInt = 3 ∧ p1.toInt = 0))) ∨ ((1 : Int32).toInt = 0 ∧ ¬ ((p0.toInt = 0 ∧ 1 ≤ p1.toInt ∧ p1.toInt ≤ (I x0 1).toInt) ∨ ((p0.toInt = 1 ∨ p0.toInt = 2) ∧ 0 ≤ p1.toInt ∧ p1.toInt < (I x0 2).toInt) ∨ (p0.toInt = 3 ∧ p1.toInt = 0))) from by have n9 := num_1; exact Or.inl ⟨by omega, by omega⟩)⟩ dX2_hasEvent_68
  by_cases s_7 : p0.toInt = 2
  · refine lv_tableIn (tgt := 51) (off := 50) hx hb dX2_hasEvent_1 (by omega) (by omega) (by rw [s_7]; rfl) (by decide) ?_
    refine lv_iload_n hx hb dX2_hasEvent_51 rfl (lv_at hl 2 rfl) ?_
    refine mm_if_lt (X := p1.toInt) (tgt := 67) hx hb dX2_hasEvent_52 (by decide) rfl (fun c_8 => ?_) (fun c_8 => ?_)
    · refine lv_iconst (v := 0) hx hb dX2_hasEvent_67 (by decide) ?_
      exact cr_rz (mc := 0) (ms := 0) (X := 0) E hr hlk hsz hM ⟨show (0 : Nat) ≤ 0 from by omega, show (0 : Nat) ≤ 0 from by omega⟩ num_0 (by omega) ⟨⟨rfl, rfl, rfl, rfl⟩, (show ((0 : Int32).toInt = 1 ∧ ((p0.toInt = 0 ∧ 1 ≤ p1.toInt ∧ p1.toInt ≤ (I x0 1).toInt) ∨ ((p0.toInt = 1 ∨ p0.toInt = 2) ∧ 0 ≤ p1.toInt ∧ p1.toInt < (I x0 2).toInt) ∨ (p0.toInt = 3 ∧ p1.toInt = 0))) ∨ ((0 : Int32).toInt = 0 ∧ ¬ ((p0.toInt = 0 ∧ 1 ≤ p1.toInt ∧ p1.toInt ≤ (I x0 1).toInt) ∨ ((p0.toInt = 1 ∨ p0.toInt = 2) ∧ 0 ≤ p1.toInt ∧ p1.toInt < (I x0 2).toInt) ∨ (p0.toInt = 3 ∧ p1.toInt = 0))) from by have n9 := num_0; exact Or.inr ⟨by omega, by omega⟩)⟩ dX2_hasEvent_68
    · refine lv_iload_n hx hb dX2_hasEvent_55 rfl (lv_at hl 2 rfl) ?_
      refine lv_aload_n hx hb dX2_hasEvent_56 rfl (lv_at hl 0 rfl) ?_
      refine cr_get (κ := 2) (ci := 2) (k := 2) (C := RX2) (T := TX2) (N := 8) (fs := cfs 2) (v := .int (I x0 2)) E hM mx0 kx0 (fun _ _ => rfl) rfl hin2 (by decide) (index := 18) (mm_at 2 rfl) rfl rfl dX2_hasEvent_57 ?_
      refine mm_icmp_ge (X := p1.toInt) (Y := (I x0 2).toInt) (tgt := 67) hx hb dX2_hasEvent_60 (by decide) rfl rfl (fun c_9 => ?_) (fun c_9 => ?_)
      · refine lv_iconst (v := 0) hx hb dX2_hasEvent_67 (by decide) ?_
        exact cr_rz (mc := 0) (ms := 0) (X := 0) E hr hlk hsz hM ⟨show (0 : Nat) ≤ 0 from by omega, show (0 : Nat) ≤ 0 from by omega⟩ num_0 (by omega) ⟨⟨rfl, rfl, rfl, rfl⟩, (show ((0 : Int32).toInt = 1 ∧ ((p0.toInt = 0 ∧ 1 ≤ p1.toInt ∧ p1.toInt ≤ (I x0 1).toInt) ∨ ((p0.toInt = 1 ∨ p0.toInt = 2) ∧ 0 ≤ p1.toInt ∧ p1.toInt < (I x0 2).toInt) ∨ (p0.toInt = 3 ∧ p1.toInt = 0))) ∨ ((0 : Int32).toInt = 0 ∧ ¬ ((p0.toInt = 0 ∧ 1 ≤ p1.toInt ∧ p1.toInt ≤ (I x0 1).toInt) ∨ ((p0.toInt = 1 ∨ p0.toInt = 2) ∧ 0 ≤ p1.toInt ∧ p1.toInt < (I x0 2).toInt) ∨ (p0.toInt = 3 ∧ p1.toInt = 0))) from by have n9 := num_0; exact Or.inr ⟨by omega, by omega⟩)⟩ dX2_hasEvent_68
      · refine lv_iconst (v := 1) hx hb dX2_hasEvent_63 (by decide) ?_
        refine lv_goto (tgt := 68) hx hb dX2_hasEvent_64 (by decide) ?_
        exact cr_rz (mc := 0) (ms := 0) (X := 1) E hr hlk hsz hM ⟨show (0 : Nat) ≤ 0 from by omega, show (0 : Nat) ≤ 0 from by omega⟩ num_1 (by omega) ⟨⟨rfl, rfl, rfl, rfl⟩, (show ((1 : Int32).toInt = 1 ∧ ((p0.toInt = 0 ∧ 1 ≤ p1.toInt ∧ p1.toInt ≤ (I x0 1).toInt) ∨ ((p0.toInt = 1 ∨ p0.toInt = 2) ∧ 0 ≤ p1.toInt ∧ p1.toInt < (I x0 2).toInt) ∨ (p0.toInt = 3 ∧ p1.toInt = 0))) ∨ ((1 : Int32).toInt = 0 ∧ ¬ ((p0.toInt = 0 ∧ 1 ≤ p1.toInt ∧ p1.toInt ≤ (I x0 1).toInt) ∨ ((p0.toInt = 1 ∨ p0.toInt = 2) ∧ 0 ≤ p1.toInt ∧ p1.toInt < (I x0 2).toInt) ∨ (p0.toInt = 3 ∧ p1.toInt = 0))) from by have n9 := num_1; exact Or.inl ⟨by omega, by omega⟩)⟩ dX2_hasEvent_68
  by_cases s_10 : p0.toInt = 3
  · refine lv_tableIn (tgt := 69) (off := 68) hx hb dX2_hasEvent_1 (by omega) (by omega) (by rw [s_10]; rfl) (by decide) ?_
    refine lv_iload_n hx hb dX2_hasEvent_69 rfl (lv_at hl 2 rfl) ?_
    refine mm_if_ne (X := p1.toInt) (tgt := 77) hx hb dX2_hasEvent_70 (by decide) rfl (fun c_11 => ?_) (fun c_11 => ?_)
    · refine lv_iconst (v := 0) hx hb dX2_hasEvent_77 (by decide) ?_
      exact cr_rz (mc := 0) (ms := 0) (X := 0) E hr hlk hsz hM ⟨show (0 : Nat) ≤ 0 from by omega, show (0 : Nat) ≤ 0 from by omega⟩ num_0 (by omega) ⟨⟨rfl, rfl, rfl, rfl⟩, (show ((0 : Int32).toInt = 1 ∧ ((p0.toInt = 0 ∧ 1 ≤ p1.toInt ∧ p1.toInt ≤ (I x0 1).toInt) ∨ ((p0.toInt = 1 ∨ p0.toInt = 2) ∧ 0 ≤ p1.toInt ∧ p1.toInt < (I x0 2).toInt) ∨ (p0.toInt = 3 ∧ p1.toInt = 0))) ∨ ((0 : Int32).toInt = 0 ∧ ¬ ((p0.toInt = 0 ∧ 1 ≤ p1.toInt ∧ p1.toInt ≤ (I x0 1).toInt) ∨ ((p0.toInt = 1 ∨ p0.toInt = 2) ∧ 0 ≤ p1.toInt ∧ p1.toInt < (I x0 2).toInt) ∨ (p0.toInt = 3 ∧ p1.toInt = 0))) from by have n9 := num_0; exact Or.inr ⟨by omega, by omega⟩)⟩ dX2_hasEvent_78
    · refine lv_iconst (v := 1) hx hb dX2_hasEvent_73 (by decide) ?_
      refine lv_goto (tgt := 78) hx hb dX2_hasEvent_74 (by decide) ?_
      exact cr_rz (mc := 0) (ms := 0) (X := 1) E hr hlk hsz hM ⟨show (0 : Nat) ≤ 0 from by omega, show (0 : Nat) ≤ 0 from by omega⟩ num_1 (by omega) ⟨⟨rfl, rfl, rfl, rfl⟩, (show ((1 : Int32).toInt = 1 ∧ ((p0.toInt = 0 ∧ 1 ≤ p1.toInt ∧ p1.toInt ≤ (I x0 1).toInt) ∨ ((p0.toInt = 1 ∨ p0.toInt = 2) ∧ 0 ≤ p1.toInt ∧ p1.toInt < (I x0 2).toInt) ∨ (p0.toInt = 3 ∧ p1.toInt = 0))) ∨ ((1 : Int32).toInt = 0 ∧ ¬ ((p0.toInt = 0 ∧ 1 ≤ p1.toInt ∧ p1.toInt ≤ (I x0 1).toInt) ∨ ((p0.toInt = 1 ∨ p0.toInt = 2) ∧ 0 ≤ p1.toInt ∧ p1.toInt < (I x0 2).toInt) ∨ (p0.toInt = 3 ∧ p1.toInt = 0))) from by have n9 := num_1; exact Or.inl ⟨by omega, by omega⟩)⟩ dX2_hasEvent_78
  · refine lv_tableOut (tgt := 79) hx hb dX2_hasEvent_1 (by omega) (by decide) ?_
    refine lv_iconst (v := 0) hx hb dX2_hasEvent_79 (by decide) ?_
    exact cr_rz (mc := 0) (ms := 0) (X := 0) E hr hlk hsz hM ⟨show (0 : Nat) ≤ 0 from by omega, show (0 : Nat) ≤ 0 from by omega⟩ num_0 (by omega) ⟨⟨rfl, rfl, rfl, rfl⟩, (show ((0 : Int32).toInt = 1 ∧ ((p0.toInt = 0 ∧ 1 ≤ p1.toInt ∧ p1.toInt ≤ (I x0 1).toInt) ∨ ((p0.toInt = 1 ∨ p0.toInt = 2) ∧ 0 ≤ p1.toInt ∧ p1.toInt < (I x0 2).toInt) ∨ (p0.toInt = 3 ∧ p1.toInt = 0))) ∨ ((0 : Int32).toInt = 0 ∧ ¬ ((p0.toInt = 0 ∧ 1 ≤ p1.toInt ∧ p1.toInt ≤ (I x0 1).toInt) ∨ ((p0.toInt = 1 ∨ p0.toInt = 2) ∧ 0 ≤ p1.toInt ∧ p1.toInt < (I x0 2).toInt) ∨ (p0.toInt = 3 ∧ p1.toInt = 0))) from by have n9 := num_0; exact Or.inr ⟨by omega, by omega⟩)⟩ dX2_hasEvent_80
def w5X5_isValue : List Cond := .code yX5_isValue cX5_isValue 2 (some .boolean) :: ([.constant RX5 227 (200000)])
set_option maxHeartbeats 4000000 in
set_option maxRecDepth 100000 in
theorem h5_X5_isValue (l : Launch) (D : va_G) (cA : Nat → ClassId) (ad av : Nat → Nat) (L : List Nat) (K : Nat → Nat) (I : Nat → Nat → Int32) (O : Nat → Nat → Option Nat) (sz : Nat) (p0 : Int32) (p1 : Int32) (hI : cI L K I O)  : Met l yX5_isValue w5X5_isValue ({ frames := 0, cells := 0, slots := 0, locals := 0 }) (cPre D cA ad av L K I O sz [.int p0, .int p1]) (cQi D cA L K I O sz [] [] [] (fun r L' K' I' O' => (L' = L ∧ K' = K ∧ I' = I ∧ O' = O) ∧ ((r.toInt = 1 ∧ ((p0.toInt = 0 ∧ -1 ≤ p1.toInt ∧ p1.toInt ≤ 200000) ∨ (p0.toInt = 1 ∧ -1 ≤ p1.toInt ∧ p1.toInt ≤ 31) ∨ (p0.toInt = 2 ∧ -1 ≤ p1.toInt ∧ p1.toInt ≤ 9) ∨ (p0.toInt = 3 ∧ -1 ≤ p1.toInt ∧ p1.toInt ≤ 1))) ∨ (r.toInt = 0 ∧ ¬ ((p0.toInt = 0 ∧ -1 ≤ p1.toInt ∧ p1.toInt ≤ 200000) ∨ (p0.toInt = 1 ∧ -1 ≤ p1.toInt ∧ p1.toInt ≤ 31) ∨ (p0.toInt = 2 ∧ -1 ≤ p1.toInt ∧ p1.toInt ≤ 9) ∨ (p0.toInt = 3 ∧ -1 ≤ p1.toInt ∧ p1.toInt ≤ 1)))))) 0 0 (va_A (cW cA L K I O) sz) := by
  refine cr_met (own := RX5) (xs := []) (WI := []) (WO := []) (cc := cX5_isValue) (maxL := 2) (ret := (some .boolean)) (by decide) rfl rfl (Nat.le_of_ble_eq_true rfl) hI ?_
  intro p e s m args below meth c ls E hV hml hr hlk hname hsz hA hM hl
  have hx := E.1
  have hb := E.2.1
  have hts := E.2.2.1
  have hown := E.2.2.2.1
  have hl : lv_has ls 2 [(0, .int p0), (1, .int p1)] := hl
  refine lv_iload_n hx hb dX5_isValue_0 rfl (lv_at hl 0 rfl) ?_
  by_cases s_1 : p0.toInt = 0
  · refine lv_tableIn (tgt := 32) (off := 31) hx hb dX5_isValue_1 (by omega) (by omega) (by rw [s_1]; rfl) (by decide) ?_
    refine lv_iload_n hx hb dX5_isValue_32 rfl (lv_at hl 1 rfl) ?_
    refine lv_iconst (v := (-1)) hx hb dX5_isValue_33 (by decide) ?_
    refine mm_icmp_lt (X := p1.toInt) (Y := (-1)) (tgt := 47) hx hb dX5_isValue_34 (by decide) rfl num_m1 (fun c_2 => ?_) (fun c_2 => ?_)
    · refine lv_iconst (v := 0) hx hb dX5_isValue_47 (by decide) ?_
      exact cr_rz (mc := 0) (ms := 0) (X := 0) E hr hlk hsz hM ⟨show (0 : Nat) ≤ 0 from by omega, show (0 : Nat) ≤ 0 from by omega⟩ num_0 (by omega) ⟨⟨rfl, rfl, rfl, rfl⟩, (show ((0 : Int32).toInt = 1 ∧ ((p0.toInt = 0 ∧ -1 ≤ p1.toInt ∧ p1.toInt ≤ 200000) ∨ (p0.toInt = 1 ∧ -1 ≤ p1.toInt ∧ p1.toInt ≤ 31) ∨ (p0.toInt = 2 ∧ -1 ≤ p1.toInt ∧ p1.toInt ≤ 9) ∨ (p0.toInt = 3 ∧ -1 ≤ p1.toInt ∧ p1.toInt ≤ 1))) ∨ ((0 : Int32).toInt = 0 ∧ ¬ ((p0.toInt = 0 ∧ -1 ≤ p1.toInt ∧ p1.toInt ≤ 200000) ∨ (p0.toInt = 1 ∧ -1 ≤ p1.toInt ∧ p1.toInt ≤ 31) ∨ (p0.toInt = 2 ∧ -1 ≤ p1.toInt ∧ p1.toInt ≤ 9) ∨ (p0.toInt = 3 ∧ -1 ≤ p1.toInt ∧ p1.toInt ≤ 1))) from by have n9 := num_0; exact Or.inr ⟨by omega, by omega⟩)⟩ dX5_isValue_48
    · refine lv_iload_n hx hb dX5_isValue_37 rfl (lv_at hl 1 rfl) ?_
      refine lv_ldc (v := 200000) hx hb hown (hts _ (mm_at 1 rfl)) dX5_isValue_38 ?_
      refine mm_icmp_gt (X := p1.toInt) (Y := 200000) (tgt := 47) hx hb dX5_isValue_40 (by decide) rfl num_200000 (fun c_3 => ?_) (fun c_3 => ?_)
      · refine lv_iconst (v := 0) hx hb dX5_isValue_47 (by decide) ?_
        exact cr_rz (mc := 0) (ms := 0) (X := 0) E hr hlk hsz hM ⟨show (0 : Nat) ≤ 0 from by omega, show (0 : Nat) ≤ 0 from by omega⟩ num_0 (by omega) ⟨⟨rfl, rfl, rfl, rfl⟩, (show ((0 : Int32).toInt = 1 ∧ ((p0.toInt = 0 ∧ -1 ≤ p1.toInt ∧ p1.toInt ≤ 200000) ∨ (p0.toInt = 1 ∧ -1 ≤ p1.toInt ∧ p1.toInt ≤ 31) ∨ (p0.toInt = 2 ∧ -1 ≤ p1.toInt ∧ p1.toInt ≤ 9) ∨ (p0.toInt = 3 ∧ -1 ≤ p1.toInt ∧ p1.toInt ≤ 1))) ∨ ((0 : Int32).toInt = 0 ∧ ¬ ((p0.toInt = 0 ∧ -1 ≤ p1.toInt ∧ p1.toInt ≤ 200000) ∨ (p0.toInt = 1 ∧ -1 ≤ p1.toInt ∧ p1.toInt ≤ 31) ∨ (p0.toInt = 2 ∧ -1 ≤ p1.toInt ∧ p1.toInt ≤ 9) ∨ (p0.toInt = 3 ∧ -1 ≤ p1.toInt ∧ p1.toInt ≤ 1))) from by have n9 := num_0; exact Or.inr ⟨by omega, by omega⟩)⟩ dX5_isValue_48
      · refine lv_iconst (v := 1) hx hb dX5_isValue_43 (by decide) ?_
        refine lv_goto (tgt := 48) hx hb dX5_isValue_44 (by decide) ?_
        exact cr_rz (mc := 0) (ms := 0) (X := 1) E hr hlk hsz hM ⟨show (0 : Nat) ≤ 0 from by omega, show (0 : Nat) ≤ 0 from by omega⟩ num_1 (by omega) ⟨⟨rfl, rfl, rfl, rfl⟩, (show ((1 : Int32).toInt = 1 ∧ ((p0.toInt = 0 ∧ -1 ≤ p1.toInt ∧ p1.toInt ≤ 200000) ∨ (p0.toInt = 1 ∧ -1 ≤ p1.toInt ∧ p1.toInt ≤ 31) ∨ (p0.toInt = 2 ∧ -1 ≤ p1.toInt ∧ p1.toInt ≤ 9) ∨ (p0.toInt = 3 ∧ -1 ≤ p1.toInt ∧ p1.toInt ≤ 1))) ∨ ((1 : Int32).toInt = 0 ∧ ¬ ((p0.toInt = 0 ∧ -1 ≤ p1.toInt ∧ p1.toInt ≤ 200000) ∨ (p0.toInt = 1 ∧ -1 ≤ p1.toInt ∧ p1.toInt ≤ 31) ∨ (p0.toInt = 2 ∧ -1 ≤ p1.toInt ∧ p1.toInt ≤ 9) ∨ (p0.toInt = 3 ∧ -1 ≤ p1.toInt ∧ p1.toInt ≤ 1))) from by have n9 := num_1; exact Or.inl ⟨by omega, by omega⟩)⟩ dX5_isValue_48
  by_cases s_4 : p0.toInt = 1
  · refine lv_tableIn (tgt := 49) (off := 48) hx hb dX5_isValue_1 (by omega) (by omega) (by rw [s_4]; rfl) (by decide) ?_
    refine lv_iload_n hx hb dX5_isValue_49 rfl (lv_at hl 1 rfl) ?_
    refine lv_iconst (v := (-1)) hx hb dX5_isValue_50 (by decide) ?_
    refine mm_icmp_lt (X := p1.toInt) (Y := (-1)) (tgt := 64) hx hb dX5_isValue_51 (by decide) rfl num_m1 (fun c_5 => ?_) (fun c_5 => ?_)
    · refine lv_iconst (v := 0) hx hb dX5_isValue_64 (by decide) ?_
      exact cr_rz (mc := 0) (ms := 0) (X := 0) E hr hlk hsz hM ⟨show (0 : Nat) ≤ 0 from by omega, show (0 : Nat) ≤ 0 from by omega⟩ num_0 (by omega) ⟨⟨rfl, rfl, rfl, rfl⟩, (show ((0 : Int32).toInt = 1 ∧ ((p0.toInt = 0 ∧ -1 ≤ p1.toInt ∧ p1.toInt ≤ 200000) ∨ (p0.toInt = 1 ∧ -1 ≤ p1.toInt ∧ p1.toInt ≤ 31) ∨ (p0.toInt = 2 ∧ -1 ≤ p1.toInt ∧ p1.toInt ≤ 9) ∨ (p0.toInt = 3 ∧ -1 ≤ p1.toInt ∧ p1.toInt ≤ 1))) ∨ ((0 : Int32).toInt = 0 ∧ ¬ ((p0.toInt = 0 ∧ -1 ≤ p1.toInt ∧ p1.toInt ≤ 200000) ∨ (p0.toInt = 1 ∧ -1 ≤ p1.toInt ∧ p1.toInt ≤ 31) ∨ (p0.toInt = 2 ∧ -1 ≤ p1.toInt ∧ p1.toInt ≤ 9) ∨ (p0.toInt = 3 ∧ -1 ≤ p1.toInt ∧ p1.toInt ≤ 1))) from by have n9 := num_0; exact Or.inr ⟨by omega, by omega⟩)⟩ dX5_isValue_65
    · refine lv_iload_n hx hb dX5_isValue_54 rfl (lv_at hl 1 rfl) ?_
      refine lv_bipush (v := 31) hx hb dX5_isValue_55 (by decide) ?_
      refine mm_icmp_gt (X := p1.toInt) (Y := 31) (tgt := 64) hx hb dX5_isValue_57 (by decide) rfl num_31 (fun c_6 => ?_) (fun c_6 => ?_)
      · refine lv_iconst (v := 0) hx hb dX5_isValue_64 (by decide) ?_
        exact cr_rz (mc := 0) (ms := 0) (X := 0) E hr hlk hsz hM ⟨show (0 : Nat) ≤ 0 from by omega, show (0 : Nat) ≤ 0 from by omega⟩ num_0 (by omega) ⟨⟨rfl, rfl, rfl, rfl⟩, (show ((0 : Int32).toInt = 1 ∧ ((p0.toInt = 0 ∧ -1 ≤ p1.toInt ∧ p1.toInt ≤ 200000) ∨ (p0.toInt = 1 ∧ -1 ≤ p1.toInt ∧ p1.toInt ≤ 31) ∨ (p0.toInt = 2 ∧ -1 ≤ p1.toInt ∧ p1.toInt ≤ 9) ∨ (p0.toInt = 3 ∧ -1 ≤ p1.toInt ∧ p1.toInt ≤ 1))) ∨ ((0 : Int32).toInt = 0 ∧ ¬ ((p0.toInt = 0 ∧ -1 ≤ p1.toInt ∧ p1.toInt ≤ 200000) ∨ (p0.toInt = 1 ∧ -1 ≤ p1.toInt ∧ p1.toInt ≤ 31) ∨ (p0.toInt = 2 ∧ -1 ≤ p1.toInt ∧ p1.toInt ≤ 9) ∨ (p0.toInt = 3 ∧ -1 ≤ p1.toInt ∧ p1.toInt ≤ 1))) from by have n9 := num_0; exact Or.inr ⟨by omega, by omega⟩)⟩ dX5_isValue_65
      · refine lv_iconst (v := 1) hx hb dX5_isValue_60 (by decide) ?_
        refine lv_goto (tgt := 65) hx hb dX5_isValue_61 (by decide) ?_
        exact cr_rz (mc := 0) (ms := 0) (X := 1) E hr hlk hsz hM ⟨show (0 : Nat) ≤ 0 from by omega, show (0 : Nat) ≤ 0 from by omega⟩ num_1 (by omega) ⟨⟨rfl, rfl, rfl, rfl⟩, (show ((1 : Int32).toInt = 1 ∧ ((p0.toInt = 0 ∧ -1 ≤ p1.toInt ∧ p1.toInt ≤ 200000) ∨ (p0.toInt = 1 ∧ -1 ≤ p1.toInt ∧ p1.toInt ≤ 31) ∨ (p0.toInt = 2 ∧ -1 ≤ p1.toInt ∧ p1.toInt ≤ 9) ∨ (p0.toInt = 3 ∧ -1 ≤ p1.toInt ∧ p1.toInt ≤ 1))) ∨ ((1 : Int32).toInt = 0 ∧ ¬ ((p0.toInt = 0 ∧ -1 ≤ p1.toInt ∧ p1.toInt ≤ 200000) ∨ (p0.toInt = 1 ∧ -1 ≤ p1.toInt ∧ p1.toInt ≤ 31) ∨ (p0.toInt = 2 ∧ -1 ≤ p1.toInt ∧ p1.toInt ≤ 9) ∨ (p0.toInt = 3 ∧ -1 ≤ p1.toInt ∧ p1.toInt ≤ 1))) from by have n9 := num_1; exact Or.inl ⟨by omega, by omega⟩)⟩ dX5_isValue_65
  by_cases s_7 : p0.toInt = 2
  · refine lv_tableIn (tgt := 66) (off := 65) hx hb dX5_isValue_1 (by omega) (by omega) (by rw [s_7]; rfl) (by decide) ?_
    refine lv_iload_n hx hb dX5_isValue_66 rfl (lv_at hl 1 rfl) ?_
    refine lv_iconst (v := (-1)) hx hb dX5_isValue_67 (by decide) ?_
    refine mm_icmp_lt (X := p1.toInt) (Y := (-1)) (tgt := 81) hx hb dX5_isValue_68 (by decide) rfl num_m1 (fun c_8 => ?_) (fun c_8 => ?_)
    · refine lv_iconst (v := 0) hx hb dX5_isValue_81 (by decide) ?_
      exact cr_rz (mc := 0) (ms := 0) (X := 0) E hr hlk hsz hM ⟨show (0 : Nat) ≤ 0 from by omega, show (0 : Nat) ≤ 0 from by omega⟩ num_0 (by omega) ⟨⟨rfl, rfl, rfl, rfl⟩, (show ((0 : Int32).toInt = 1 ∧ ((p0.toInt = 0 ∧ -1 ≤ p1.toInt ∧ p1.toInt ≤ 200000) ∨ (p0.toInt = 1 ∧ -1 ≤ p1.toInt ∧ p1.toInt ≤ 31) ∨ (p0.toInt = 2 ∧ -1 ≤ p1.toInt ∧ p1.toInt ≤ 9) ∨ (p0.toInt = 3 ∧ -1 ≤ p1.toInt ∧ p1.toInt ≤ 1))) ∨ ((0 : Int32).toInt = 0 ∧ ¬ ((p0.toInt = 0 ∧ -1 ≤ p1.toInt ∧ p1.toInt ≤ 200000) ∨ (p0.toInt = 1 ∧ -1 ≤ p1.toInt ∧ p1.toInt ≤ 31) ∨ (p0.toInt = 2 ∧ -1 ≤ p1.toInt ∧ p1.toInt ≤ 9) ∨ (p0.toInt = 3 ∧ -1 ≤ p1.toInt ∧ p1.toInt ≤ 1))) from by have n9 := num_0; exact Or.inr ⟨by omega, by omega⟩)⟩ dX5_isValue_82
    · refine lv_iload_n hx hb dX5_isValue_71 rfl (lv_at hl 1 rfl) ?_
      refine lv_bipush (v := 9) hx hb dX5_isValue_72 (by decide) ?_
      refine mm_icmp_gt (X := p1.toInt) (Y := 9) (tgt := 81) hx hb dX5_isValue_74 (by decide) rfl num_9 (fun c_9 => ?_) (fun c_9 => ?_)
      · refine lv_iconst (v := 0) hx hb dX5_isValue_81 (by decide) ?_
        exact cr_rz (mc := 0) (ms := 0) (X := 0) E hr hlk hsz hM ⟨show (0 : Nat) ≤ 0 from by omega, show (0 : Nat) ≤ 0 from by omega⟩ num_0 (by omega) ⟨⟨rfl, rfl, rfl, rfl⟩, (show ((0 : Int32).toInt = 1 ∧ ((p0.toInt = 0 ∧ -1 ≤ p1.toInt ∧ p1.toInt ≤ 200000) ∨ (p0.toInt = 1 ∧ -1 ≤ p1.toInt ∧ p1.toInt ≤ 31) ∨ (p0.toInt = 2 ∧ -1 ≤ p1.toInt ∧ p1.toInt ≤ 9) ∨ (p0.toInt = 3 ∧ -1 ≤ p1.toInt ∧ p1.toInt ≤ 1))) ∨ ((0 : Int32).toInt = 0 ∧ ¬ ((p0.toInt = 0 ∧ -1 ≤ p1.toInt ∧ p1.toInt ≤ 200000) ∨ (p0.toInt = 1 ∧ -1 ≤ p1.toInt ∧ p1.toInt ≤ 31) ∨ (p0.toInt = 2 ∧ -1 ≤ p1.toInt ∧ p1.toInt ≤ 9) ∨ (p0.toInt = 3 ∧ -1 ≤ p1.toInt ∧ p1.toInt ≤ 1))) from by have n9 := num_0; exact Or.inr ⟨by omega, by omega⟩)⟩ dX5_isValue_82
      · refine lv_iconst (v := 1) hx hb dX5_isValue_77 (by decide) ?_
        refine lv_goto (tgt := 82) hx hb dX5_isValue_78 (by decide) ?_
        exact cr_rz (mc := 0) (ms := 0) (X := 1) E hr hlk hsz hM ⟨show (0 : Nat) ≤ 0 from by omega, show (0 : Nat) ≤ 0 from by omega⟩ num_1 (by omega) ⟨⟨rfl, rfl, rfl, rfl⟩, (show ((1 : Int32).toInt = 1 ∧ ((p0.toInt = 0 ∧ -1 ≤ p1.toInt ∧ p1.toInt ≤ 200000) ∨ (p0.toInt = 1 ∧ -1 ≤ p1.toInt ∧ p1.toInt ≤ 31) ∨ (p0.toInt = 2 ∧ -1 ≤ p1.toInt ∧ p1.toInt ≤ 9) ∨ (p0.toInt = 3 ∧ -1 ≤ p1.toInt ∧ p1.toInt ≤ 1))) ∨ ((1 : Int32).toInt = 0 ∧ ¬ ((p0.toInt = 0 ∧ -1 ≤ p1.toInt ∧ p1.toInt ≤ 200000) ∨ (p0.toInt = 1 ∧ -1 ≤ p1.toInt ∧ p1.toInt ≤ 31) ∨ (p0.toInt = 2 ∧ -1 ≤ p1.toInt ∧ p1.toInt ≤ 9) ∨ (p0.toInt = 3 ∧ -1 ≤ p1.toInt ∧ p1.toInt ≤ 1))) from by have n9 := num_1; exact Or.inl ⟨by omega, by omega⟩)⟩ dX5_isValue_82
  by_cases s_10 : p0.toInt = 3
  · refine lv_tableIn (tgt := 83) (off := 82) hx hb dX5_isValue_1 (by omega) (by omega) (by rw [s_10]; rfl) (by decide) ?_
    refine lv_iload_n hx hb dX5_isValue_83 rfl (lv_at hl 1 rfl) ?_
    refine lv_iconst (v := (-1)) hx hb dX5_isValue_84 (by decide) ?_
    refine mm_icmp_lt (X := p1.toInt) (Y := (-1)) (tgt := 97) hx hb dX5_isValue_85 (by decide) rfl num_m1 (fun c_11 => ?_) (fun c_11 => ?_)
    · refine lv_iconst (v := 0) hx hb dX5_isValue_97 (by decide) ?_
      exact cr_rz (mc := 0) (ms := 0) (X := 0) E hr hlk hsz hM ⟨show (0 : Nat) ≤ 0 from by omega, show (0 : Nat) ≤ 0 from by omega⟩ num_0 (by omega) ⟨⟨rfl, rfl, rfl, rfl⟩, (show ((0 : Int32).toInt = 1 ∧ ((p0.toInt = 0 ∧ -1 ≤ p1.toInt ∧ p1.toInt ≤ 200000) ∨ (p0.toInt = 1 ∧ -1 ≤ p1.toInt ∧ p1.toInt ≤ 31) ∨ (p0.toInt = 2 ∧ -1 ≤ p1.toInt ∧ p1.toInt ≤ 9) ∨ (p0.toInt = 3 ∧ -1 ≤ p1.toInt ∧ p1.toInt ≤ 1))) ∨ ((0 : Int32).toInt = 0 ∧ ¬ ((p0.toInt = 0 ∧ -1 ≤ p1.toInt ∧ p1.toInt ≤ 200000) ∨ (p0.toInt = 1 ∧ -1 ≤ p1.toInt ∧ p1.toInt ≤ 31) ∨ (p0.toInt = 2 ∧ -1 ≤ p1.toInt ∧ p1.toInt ≤ 9) ∨ (p0.toInt = 3 ∧ -1 ≤ p1.toInt ∧ p1.toInt ≤ 1))) from by have n9 := num_0; exact Or.inr ⟨by omega, by omega⟩)⟩ dX5_isValue_98
    · refine lv_iload_n hx hb dX5_isValue_88 rfl (lv_at hl 1 rfl) ?_
      refine lv_iconst (v := 1) hx hb dX5_isValue_89 (by decide) ?_
      refine mm_icmp_gt (X := p1.toInt) (Y := 1) (tgt := 97) hx hb dX5_isValue_90 (by decide) rfl num_1 (fun c_12 => ?_) (fun c_12 => ?_)
      · refine lv_iconst (v := 0) hx hb dX5_isValue_97 (by decide) ?_
        exact cr_rz (mc := 0) (ms := 0) (X := 0) E hr hlk hsz hM ⟨show (0 : Nat) ≤ 0 from by omega, show (0 : Nat) ≤ 0 from by omega⟩ num_0 (by omega) ⟨⟨rfl, rfl, rfl, rfl⟩, (show ((0 : Int32).toInt = 1 ∧ ((p0.toInt = 0 ∧ -1 ≤ p1.toInt ∧ p1.toInt ≤ 200000) ∨ (p0.toInt = 1 ∧ -1 ≤ p1.toInt ∧ p1.toInt ≤ 31) ∨ (p0.toInt = 2 ∧ -1 ≤ p1.toInt ∧ p1.toInt ≤ 9) ∨ (p0.toInt = 3 ∧ -1 ≤ p1.toInt ∧ p1.toInt ≤ 1))) ∨ ((0 : Int32).toInt = 0 ∧ ¬ ((p0.toInt = 0 ∧ -1 ≤ p1.toInt ∧ p1.toInt ≤ 200000) ∨ (p0.toInt = 1 ∧ -1 ≤ p1.toInt ∧ p1.toInt ≤ 31) ∨ (p0.toInt = 2 ∧ -1 ≤ p1.toInt ∧ p1.toInt ≤ 9) ∨ (p0.toInt = 3 ∧ -1 ≤ p1.toInt ∧ p1.toInt ≤ 1))) from by have n9 := num_0; exact Or.inr ⟨by omega, by omega⟩)⟩ dX5_isValue_98
      · refine lv_iconst (v := 1) hx hb dX5_isValue_93 (by decide) ?_
        refine lv_goto (tgt := 98) hx hb dX5_isValue_94 (by decide) ?_
        exact cr_rz (mc := 0) (ms := 0) (X := 1) E hr hlk hsz hM ⟨show (0 : Nat) ≤ 0 from by omega, show (0 : Nat) ≤ 0 from by omega⟩ num_1 (by omega) ⟨⟨rfl, rfl, rfl, rfl⟩, (show ((1 : Int32).toInt = 1 ∧ ((p0.toInt = 0 ∧ -1 ≤ p1.toInt ∧ p1.toInt ≤ 200000) ∨ (p0.toInt = 1 ∧ -1 ≤ p1.toInt ∧ p1.toInt ≤ 31) ∨ (p0.toInt = 2 ∧ -1 ≤ p1.toInt ∧ p1.toInt ≤ 9) ∨ (p0.toInt = 3 ∧ -1 ≤ p1.toInt ∧ p1.toInt ≤ 1))) ∨ ((1 : Int32).toInt = 0 ∧ ¬ ((p0.toInt = 0 ∧ -1 ≤ p1.toInt ∧ p1.toInt ≤ 200000) ∨ (p0.toInt = 1 ∧ -1 ≤ p1.toInt ∧ p1.toInt ≤ 31) ∨ (p0.toInt = 2 ∧ -1 ≤ p1.toInt ∧ p1.toInt ≤ 9) ∨ (p0.toInt = 3 ∧ -1 ≤ p1.toInt ∧ p1.toInt ≤ 1))) from by have n9 := num_1; exact Or.inl ⟨by omega, by omega⟩)⟩ dX5_isValue_98
  · refine lv_tableOut (tgt := 99) hx hb dX5_isValue_1 (by omega) (by decide) ?_
    refine lv_iconst (v := 0) hx hb dX5_isValue_99 (by decide) ?_
    exact cr_rz (mc := 0) (ms := 0) (X := 0) E hr hlk hsz hM ⟨show (0 : Nat) ≤ 0 from by omega, show (0 : Nat) ≤ 0 from by omega⟩ num_0 (by omega) ⟨⟨rfl, rfl, rfl, rfl⟩, (show ((0 : Int32).toInt = 1 ∧ ((p0.toInt = 0 ∧ -1 ≤ p1.toInt ∧ p1.toInt ≤ 200000) ∨ (p0.toInt = 1 ∧ -1 ≤ p1.toInt ∧ p1.toInt ≤ 31) ∨ (p0.toInt = 2 ∧ -1 ≤ p1.toInt ∧ p1.toInt ≤ 9) ∨ (p0.toInt = 3 ∧ -1 ≤ p1.toInt ∧ p1.toInt ≤ 1))) ∨ ((0 : Int32).toInt = 0 ∧ ¬ ((p0.toInt = 0 ∧ -1 ≤ p1.toInt ∧ p1.toInt ≤ 200000) ∨ (p0.toInt = 1 ∧ -1 ≤ p1.toInt ∧ p1.toInt ≤ 31) ∨ (p0.toInt = 2 ∧ -1 ≤ p1.toInt ∧ p1.toInt ≤ 9) ∨ (p0.toInt = 3 ∧ -1 ≤ p1.toInt ∧ p1.toInt ≤ 1))) from by have n9 := num_0; exact Or.inr ⟨by omega, by omega⟩)⟩ dX5_isValue_100
def w5X5_count : List Cond := .code yX5_count cX5_count 2 (some .int) :: ([.fieldLink RX5 70 "SkiShots" "today" "I", .fieldLink RX5 67 "SkiShots" "formatCount" "I", .fieldLink RX5 77 "SkiShots" "racerCount" "I", .fieldLink RX5 80 "SkiShots" "raceCount" "I", .fieldLink RX5 109 "SkiShots" "eventCount" "I"] ++ wsX50)
set_option maxHeartbeats 4000000 in
set_option maxRecDepth 100000 in
theorem h5_X5_count (l : Launch) (D : va_G) (cA : Nat → ClassId) (ad av : Nat → Nat) (L : List Nat) (K : Nat → Nat) (I : Nat → Nat → Int32) (O : Nat → Nat → Option Nat) (sz : Nat) (x0 : Nat) (p0 : Int32) (hI : cI L K I O) (mx0 : x0 ∈ L) (kx0 : K x0 = 5)  : Met l yX5_count w5X5_count ({ frames := 0, cells := 0, slots := 0, locals := 0 }) (cPre D cA ad av L K I O sz [.ref x0, .int p0]) (cQi D cA L K I O sz [] [] [] (fun r L' K' I' O' => (L' = L ∧ K' = K ∧ I' = I ∧ O' = O) ∧ ((p0.toInt = 0 ∧ r.toInt = (I x0 6).toInt) ∨ (p0.toInt = 1 ∧ r.toInt = (I x0 3).toInt) ∨ (p0.toInt = 2 ∧ r.toInt = (I x0 8).toInt) ∨ (p0.toInt = 3 ∧ r.toInt = (I x0 10).toInt) ∨ (p0.toInt = 4 ∧ r.toInt = (I x0 11).toInt) ∨ (¬ (0 ≤ p0.toInt ∧ p0.toInt ≤ 4) ∧ r.toInt = -1)))) 0 0 (va_A (cW cA L K I O) sz) := by
  refine cr_met (own := RX5) (xs := []) (WI := []) (WO := []) (cc := cX5_count) (maxL := 2) (ret := (some .int)) (by decide) rfl rfl (Nat.le_of_ble_eq_true rfl) hI ?_
  intro p e s m args below meth c ls E hV hml hr hlk hname hsz hA hM hl
  have hx := E.1
  have hb := E.2.1
  have hts := E.2.2.1
  have hown := E.2.2.2.1
  have hl : lv_has ls 2 [(0, .ref x0), (1, .int p0)] := hl
  have hin5 : ∀ w ∈ wsX50, w ∈ w5X5_count := by decide +kernel
  refine lv_iload_n hx hb dX5_count_0 rfl (lv_at hl 1 rfl) ?_
  by_cases s_1 : p0.toInt = 0
  · refine lv_tableIn (tgt := 36) (off := 35) hx hb dX5_count_1 (by omega) (by omega) (by rw [s_1]; rfl) (by decide) ?_
    refine lv_aload_n hx hb dX5_count_36 rfl (lv_at hl 0 rfl) ?_
    have b_2 : 0 ≤ (I x0 6).toInt ∧ (I x0 6).toInt ≤ 200 := hM.ib mx0 kx0 6 rfl
    refine cr_get (κ := 5) (ci := 5) (k := 6) (C := RX5) (T := TX5) (N := 13) (fs := cfs 5) (v := .int (I x0 6)) E hM mx0 kx0 (fun _ _ => rfl) rfl hin5 (by decide) (index := 70) (mm_at 1 rfl) rfl rfl dX5_count_37 ?_
    exact cr_ri (mc := 0) (ms := 0) E hr hlk hsz hM ⟨show (0 : Nat) ≤ 0 from by omega, show (0 : Nat) ≤ 0 from by omega⟩ ⟨⟨rfl, rfl, rfl, rfl⟩, (show (p0.toInt = 0 ∧ (I x0 6).toInt = (I x0 6).toInt) ∨ (p0.toInt = 1 ∧ (I x0 6).toInt = (I x0 3).toInt) ∨ (p0.toInt = 2 ∧ (I x0 6).toInt = (I x0 8).toInt) ∨ (p0.toInt = 3 ∧ (I x0 6).toInt = (I x0 10).toInt) ∨ (p0.toInt = 4 ∧ (I x0 6).toInt = (I x0 11).toInt) ∨ (¬ (0 ≤ p0.toInt ∧ p0.toInt ≤ 4) ∧ (I x0 6).toInt = -1) from by exact (Or.inl ⟨by omega, by omega⟩))⟩ dX5_count_40
  by_cases s_3 : p0.toInt = 1
  · refine lv_tableIn (tgt := 41) (off := 40) hx hb dX5_count_1 (by omega) (by omega) (by rw [s_3]; rfl) (by decide) ?_
    refine lv_aload_n hx hb dX5_count_41 rfl (lv_at hl 0 rfl) ?_
    refine cr_get (κ := 5) (ci := 5) (k := 3) (C := RX5) (T := TX5) (N := 13) (fs := cfs 5) (v := .int (I x0 3)) E hM mx0 kx0 (fun _ _ => rfl) rfl hin5 (by decide) (index := 67) (mm_at 2 rfl) rfl rfl dX5_count_42 ?_
    exact cr_ri (mc := 0) (ms := 0) E hr hlk hsz hM ⟨show (0 : Nat) ≤ 0 from by omega, show (0 : Nat) ≤ 0 from by omega⟩ ⟨⟨rfl, rfl, rfl, rfl⟩, (show (p0.toInt = 0 ∧ (I x0 3).toInt = (I x0 6).toInt) ∨ (p0.toInt = 1 ∧ (I x0 3).toInt = (I x0 3).toInt) ∨ (p0.toInt = 2 ∧ (I x0 3).toInt = (I x0 8).toInt) ∨ (p0.toInt = 3 ∧ (I x0 3).toInt = (I x0 10).toInt) ∨ (p0.toInt = 4 ∧ (I x0 3).toInt = (I x0 11).toInt) ∨ (¬ (0 ≤ p0.toInt ∧ p0.toInt ≤ 4) ∧ (I x0 3).toInt = -1) from by exact (Or.inr (Or.inl ⟨by omega, by omega⟩)))⟩ dX5_count_45
  by_cases s_4 : p0.toInt = 2
  · refine lv_tableIn (tgt := 46) (off := 45) hx hb dX5_count_1 (by omega) (by omega) (by rw [s_4]; rfl) (by decide) ?_
    refine lv_aload_n hx hb dX5_count_46 rfl (lv_at hl 0 rfl) ?_
    have b_5 : 0 ≤ (I x0 8).toInt ∧ (I x0 8).toInt ≤ 16 := hM.ib mx0 kx0 8 rfl
    refine cr_get (κ := 5) (ci := 5) (k := 8) (C := RX5) (T := TX5) (N := 13) (fs := cfs 5) (v := .int (I x0 8)) E hM mx0 kx0 (fun _ _ => rfl) rfl hin5 (by decide) (index := 77) (mm_at 3 rfl) rfl rfl dX5_count_47 ?_
    exact cr_ri (mc := 0) (ms := 0) E hr hlk hsz hM ⟨show (0 : Nat) ≤ 0 from by omega, show (0 : Nat) ≤ 0 from by omega⟩ ⟨⟨rfl, rfl, rfl, rfl⟩, (show (p0.toInt = 0 ∧ (I x0 8).toInt = (I x0 6).toInt) ∨ (p0.toInt = 1 ∧ (I x0 8).toInt = (I x0 3).toInt) ∨ (p0.toInt = 2 ∧ (I x0 8).toInt = (I x0 8).toInt) ∨ (p0.toInt = 3 ∧ (I x0 8).toInt = (I x0 10).toInt) ∨ (p0.toInt = 4 ∧ (I x0 8).toInt = (I x0 11).toInt) ∨ (¬ (0 ≤ p0.toInt ∧ p0.toInt ≤ 4) ∧ (I x0 8).toInt = -1) from by exact (Or.inr (Or.inr (Or.inl ⟨by omega, by omega⟩))))⟩ dX5_count_50
  by_cases s_6 : p0.toInt = 3
  · refine lv_tableIn (tgt := 51) (off := 50) hx hb dX5_count_1 (by omega) (by omega) (by rw [s_6]; rfl) (by decide) ?_
    refine lv_aload_n hx hb dX5_count_51 rfl (lv_at hl 0 rfl) ?_
    have b_7 : 0 ≤ (I x0 10).toInt ∧ (I x0 10).toInt ≤ 8 := hM.ib mx0 kx0 10 rfl
    refine cr_get (κ := 5) (ci := 5) (k := 10) (C := RX5) (T := TX5) (N := 13) (fs := cfs 5) (v := .int (I x0 10)) E hM mx0 kx0 (fun _ _ => rfl) rfl hin5 (by decide) (index := 80) (mm_at 4 rfl) rfl rfl dX5_count_52 ?_
    exact cr_ri (mc := 0) (ms := 0) E hr hlk hsz hM ⟨show (0 : Nat) ≤ 0 from by omega, show (0 : Nat) ≤ 0 from by omega⟩ ⟨⟨rfl, rfl, rfl, rfl⟩, (show (p0.toInt = 0 ∧ (I x0 10).toInt = (I x0 6).toInt) ∨ (p0.toInt = 1 ∧ (I x0 10).toInt = (I x0 3).toInt) ∨ (p0.toInt = 2 ∧ (I x0 10).toInt = (I x0 8).toInt) ∨ (p0.toInt = 3 ∧ (I x0 10).toInt = (I x0 10).toInt) ∨ (p0.toInt = 4 ∧ (I x0 10).toInt = (I x0 11).toInt) ∨ (¬ (0 ≤ p0.toInt ∧ p0.toInt ≤ 4) ∧ (I x0 10).toInt = -1) from by exact (Or.inr (Or.inr (Or.inr (Or.inl ⟨by omega, by omega⟩)))))⟩ dX5_count_55
  by_cases s_8 : p0.toInt = 4
  · refine lv_tableIn (tgt := 56) (off := 55) hx hb dX5_count_1 (by omega) (by omega) (by rw [s_8]; rfl) (by decide) ?_
    refine lv_aload_n hx hb dX5_count_56 rfl (lv_at hl 0 rfl) ?_
    have b_9 : 0 ≤ (I x0 11).toInt ∧ (I x0 11).toInt ≤ 400 := hM.ib mx0 kx0 11 rfl
    refine cr_get (κ := 5) (ci := 5) (k := 11) (C := RX5) (T := TX5) (N := 13) (fs := cfs 5) (v := .int (I x0 11)) E hM mx0 kx0 (fun _ _ => rfl) rfl hin5 (by decide) (index := 109) (mm_at 5 rfl) rfl rfl dX5_count_57 ?_
    exact cr_ri (mc := 0) (ms := 0) E hr hlk hsz hM ⟨show (0 : Nat) ≤ 0 from by omega, show (0 : Nat) ≤ 0 from by omega⟩ ⟨⟨rfl, rfl, rfl, rfl⟩, (show (p0.toInt = 0 ∧ (I x0 11).toInt = (I x0 6).toInt) ∨ (p0.toInt = 1 ∧ (I x0 11).toInt = (I x0 3).toInt) ∨ (p0.toInt = 2 ∧ (I x0 11).toInt = (I x0 8).toInt) ∨ (p0.toInt = 3 ∧ (I x0 11).toInt = (I x0 10).toInt) ∨ (p0.toInt = 4 ∧ (I x0 11).toInt = (I x0 11).toInt) ∨ (¬ (0 ≤ p0.toInt ∧ p0.toInt ≤ 4) ∧ (I x0 11).toInt = -1) from by exact (Or.inr (Or.inr (Or.inr (Or.inr (Or.inl ⟨by omega, by omega⟩))))))⟩ dX5_count_60
  · refine lv_tableOut (tgt := 61) hx hb dX5_count_1 (by omega) (by decide) ?_
    refine lv_iconst (v := (-1)) hx hb dX5_count_61 (by decide) ?_
    exact cr_ri (mc := 0) (ms := 0) E hr hlk hsz hM ⟨show (0 : Nat) ≤ 0 from by omega, show (0 : Nat) ≤ 0 from by omega⟩ ⟨⟨rfl, rfl, rfl, rfl⟩, (show (p0.toInt = 0 ∧ ((-1) : Int32).toInt = (I x0 6).toInt) ∨ (p0.toInt = 1 ∧ ((-1) : Int32).toInt = (I x0 3).toInt) ∨ (p0.toInt = 2 ∧ ((-1) : Int32).toInt = (I x0 8).toInt) ∨ (p0.toInt = 3 ∧ ((-1) : Int32).toInt = (I x0 10).toInt) ∨ (p0.toInt = 4 ∧ ((-1) : Int32).toInt = (I x0 11).toInt) ∨ (¬ (0 ≤ p0.toInt ∧ p0.toInt ≤ 4) ∧ ((-1) : Int32).toInt = -1) from by have n9 := num_m1; exact (Or.inr (Or.inr (Or.inr (Or.inr (Or.inr ⟨by omega, by omega⟩))))))⟩ dX5_count_62
