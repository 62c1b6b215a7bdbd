theorem num_4 : (4 : Int32).toInt = 4 := by decide
theorem num_5 : (5 : Int32).toInt = 5 := by decide
theorem num_8 : (8 : Int32).toInt = 8 := by decide
theorem num_12 : (12 : Int32).toInt = 12 := by decide
theorem num_20 : (20 : Int32).toInt = 20 := by decide
theorem num_24 : (24 : Int32).toInt = 24 := by decide
theorem num_1000 : (1000 : Int32).toInt = 1000 := by decide
def w3X6_known : List Cond := .code yX6_known cX6_known 7 (some .int) :: ([.fieldLink RX6 99 "SkiShotsModel" "tDay" "[I", .fieldLink RX6 84 "SkiShotsModel" "tRace" "[I", .fieldLink RX6 87 "SkiShotsModel" "tRacer" "[I", .fieldLink RX6 90 "SkiShotsModel" "tSort" "[I", .fieldLink RX6 93 "SkiShotsModel" "tK" "[I", .fieldLink RX6 96 "SkiShotsModel" "tV" "[I", .fieldLink RX6 217 "SkiShotsModel" "told" "I"] ++ wsX60)
set_option maxHeartbeats 4000000 in
set_option maxRecDepth 100000 in
theorem g3_X6_known (l : Launch) (D : va_G) (h0 : Nat) (q : Nat → Nat) (cq : Nat → ClassId) (F : Nat → Int32) (G : Nat → Nat → Int32) (sz : Nat) (p0 : Int32) (p1 : Int32) (p2 : Int32) (p3 : Int32) (p4 : Int32) (hI : mI F G)  : Met l yX6_known w3X6_known ({ frames := 0, cells := 0, slots := 0, locals := 0 }) (mPre D h0 q cq F G sz [.ref h0, .int p0, .int p1, .int p2, .int p3, .int p4]) (mQi D h0 q cq F G sz [] [] (fun r F' G' => True)) 0 0 (va_A (mW h0 q cq F G) sz) := by
  refine mr_met (WF := []) (WG := []) (cc := cX6_known) (maxL := 7) (ret := (some .int)) (by decide) rfl rfl (by decide +kernel) (Nat.le_of_ble_eq_true rfl) hI ?_
  intro p e s m args below meth c ls E hml hr hlk hsz hA hM hl
  have hx := E.1
  have hb := E.2.1
  have hts := E.2.2.1
  have hown := E.2.2.2.2.1
  have hl : lv_has ls 7 [(0, .ref h0), (1, .int p0), (2, .int p1), (3, .int p2), (4, .int p3), (5, .int p4)] := hl
  have B_8 : ∀ n_8 : Nat, ∀ (H : Heap) (locs : List Loc) (ls : Array Slot) (F_8 : Nat → Int32) (G_8 : Nat → Nat → Int32) (i : Int32), ((-1) ≤ i.toInt ∧ i.toInt ≤ 399) → (i.toInt + 1) < (n_8 : Int) → mQ D h0 q cq (va_A (mW h0 q cq F G) sz) s.heap [] [] F G H locs F_8 G_8 → lv_has ls 7 [(0, .ref h0), (1, .int p0), (2, .int p1), (3, .int p2), (4, .int p3), (5, .int p4), (6, .int i)] → W p l e ({ frames := 0, cells := 0, slots := 0, locals := 0 }) s m args below meth c H locs 0 0 (MQ below (mQi D h0 q cq F G sz [] [] (fun r F' G' => True)) args s 0 0 (va_A (mW h0 q cq F G) sz)) (F0 m 8 ls []) := by
    intro n_8
    induction n_8 with
    | zero => intro H locs ls F_8 G_8 i f8_0 hn hM hl; exact False.elim (by have hfr_8 := hM.fr; omega)
    | succ n_8 ih_8 =>
      intro H locs ls F_8 G_8 i f8_0 hn hM hl
      have hfr_8 := hM.fr
      refine lv_iload hx hb dX6_known_8 (lv_at hl 6 rfl) ?_
      refine mm_if_lt (X := i.toInt) (tgt := 84) hx hb dX6_known_10 (by decide) rfl (fun c_1 => ?_) (fun c_1 => ?_)
      · refine lv_iconst (v := (-1)) hx hb dX6_known_84 (by decide) ?_
        exact mr_ri E hr hlk hsz hM trivial dX6_known_85
      · refine lv_aload_n hx hb dX6_known_13 rfl (lv_at hl 0 rfl) ?_
        refine mr_get (v := .ref (q 37)) E hM 37 (by decide) (index := 99) (mm_at 1 rfl) rfl rfl dX6_known_14 ?_
        refine lv_iload hx hb dX6_known_17 (lv_at hl 6 rfl) ?_
        refine mr_ald (X := i.toInt) E hM 29 28 rfl rfl rfl (by omega) dX6_known_19 ?_
        refine lv_iload hx hb dX6_known_20 (lv_at hl 5 rfl) ?_
        refine mm_icmp_gt (X := (G_8 37 (Int32.toNatClampNeg i)).toInt) (Y := p4.toInt) (tgt := 78) hx hb dX6_known_22 (by decide) rfl rfl (fun c_2 => ?_) (fun c_2 => ?_)
        · refine mm_iinc (X := i.toInt) (v := (-1)) (lv2 := fun z => [(6, .int z), (0, .ref h0), (1, .int p0), (2, .int p1), (3, .int p2), (4, .int p3), (5, .int p4)]) hx hb dX6_known_78 hl (k := 6) rfl rfl (by decide) num_m1 (by omega) (by decide) (fun _ => rfl) (fun z_3 ls hz_3 hl => ?_)
          have hl : lv_has ls 7 [(6, .int z_3), (0, .ref h0), (1, .int p0), (2, .int p1), (3, .int p2), (4, .int p3), (5, .int p4)] := hl
          refine lv_goto (tgt := 8) hx hb dX6_known_81 (by decide) ?_
          exact ih_8 _ _ _ F_8 G_8 z_3 (show ((-1) ≤ z_3.toInt ∧ z_3.toInt ≤ 399) from by omega) (show (z_3.toInt + 1) < ((n_8 : Nat) : Int) from by omega) hM (lv_sub hl [1, 2, 3, 4, 5, 6, 0] rfl)
        · refine lv_aload_n hx hb dX6_known_25 rfl (lv_at hl 0 rfl) ?_
          refine mr_get (v := .ref (q 32)) E hM 32 (by decide) (index := 84) (mm_at 2 rfl) rfl rfl dX6_known_26 ?_
          refine lv_iload hx hb dX6_known_29 (lv_at hl 6 rfl) ?_
          refine mr_ald (X := i.toInt) E hM 24 23 rfl rfl rfl (by omega) dX6_known_31 ?_
          refine lv_iload_n hx hb dX6_known_32 rfl (lv_at hl 1 rfl) ?_
          refine mm_icmp_ne (X := (G_8 32 (Int32.toNatClampNeg i)).toInt) (Y := p0.toInt) (tgt := 78) hx hb dX6_known_33 (by decide) rfl rfl (fun c_4 => ?_) (fun c_4 => ?_)
          · refine mm_iinc (X := i.toInt) (v := (-1)) (lv2 := fun z => [(6, .int z), (0, .ref h0), (1, .int p0), (2, .int p1), (3, .int p2), (4, .int p3), (5, .int p4)]) hx hb dX6_known_78 hl (k := 6) rfl rfl (by decide) num_m1 (by omega) (by decide) (fun _ => rfl) (fun z_5 ls hz_5 hl => ?_)
            have hl : lv_has ls 7 [(6, .int z_5), (0, .ref h0), (1, .int p0), (2, .int p1), (3, .int p2), (4, .int p3), (5, .int p4)] := hl
            refine lv_goto (tgt := 8) hx hb dX6_known_81 (by decide) ?_
            exact ih_8 _ _ _ F_8 G_8 z_5 (show ((-1) ≤ z_5.toInt ∧ z_5.toInt ≤ 399) from by omega) (show (z_5.toInt + 1) < ((n_8 : Nat) : Int) from by omega) hM (lv_sub hl [1, 2, 3, 4, 5, 6, 0] rfl)
          · refine lv_aload_n hx hb dX6_known_36 rfl (lv_at hl 0 rfl) ?_
            refine mr_get (v := .ref (q 33)) E hM 33 (by decide) (index := 87) (mm_at 3 rfl) rfl rfl dX6_known_37 ?_
            refine lv_iload hx hb dX6_known_40 (lv_at hl 6 rfl) ?_
            refine mr_ald (X := i.toInt) E hM 25 24 rfl rfl rfl (by omega) dX6_known_42 ?_
            refine lv_iload_n hx hb dX6_known_43 rfl (lv_at hl 2 rfl) ?_
            refine mm_icmp_ne (X := (G_8 33 (Int32.toNatClampNeg i)).toInt) (Y := p1.toInt) (tgt := 78) hx hb dX6_known_44 (by decide) rfl rfl (fun c_6 => ?_) (fun c_6 => ?_)
            · refine mm_iinc (X := i.toInt) (v := (-1)) (lv2 := fun z => [(6, .int z), (0, .ref h0), (1, .int p0), (2, .int p1), (3, .int p2), (4, .int p3), (5, .int p4)]) hx hb dX6_known_78 hl (k := 6) rfl rfl (by decide) num_m1 (by omega) (by decide) (fun _ => rfl) (fun z_7 ls hz_7 hl => ?_)
              have hl : lv_has ls 7 [(6, .int z_7), (0, .ref h0), (1, .int p0), (2, .int p1), (3, .int p2), (4, .int p3), (5, .int p4)] := hl
              refine lv_goto (tgt := 8) hx hb dX6_known_81 (by decide) ?_
              exact ih_8 _ _ _ F_8 G_8 z_7 (show ((-1) ≤ z_7.toInt ∧ z_7.toInt ≤ 399) from by omega) (show (z_7.toInt + 1) < ((n_8 : Nat) : Int) from by omega) hM (lv_sub hl [1, 2, 3, 4, 5, 6, 0] rfl)
            · refine lv_aload_n hx hb dX6_known_47 rfl (lv_at hl 0 rfl) ?_
              refine mr_get (v := .ref (q 34)) E hM 34 (by decide) (index := 90) (mm_at 4 rfl) rfl rfl dX6_known_48 ?_
              refine lv_iload hx hb dX6_known_51 (lv_at hl 6 rfl) ?_
              refine mr_ald (X := i.toInt) E hM 26 25 rfl rfl rfl (by omega) dX6_known_53 ?_
              refine lv_iload_n hx hb dX6_known_54 rfl (lv_at hl 3 rfl) ?_
              refine mm_icmp_ne (X := (G_8 34 (Int32.toNatClampNeg i)).toInt) (Y := p2.toInt) (tgt := 78) hx hb dX6_known_55 (by decide) rfl rfl (fun c_8 => ?_) (fun c_8 => ?_)
              · refine mm_iinc (X := i.toInt) (v := (-1)) (lv2 := fun z => [(6, .int z), (0, .ref h0), (1, .int p0), (2, .int p1), (3, .int p2), (4, .int p3), (5, .int p4)]) hx hb dX6_known_78 hl (k := 6) rfl rfl (by decide) num_m1 (by omega) (by decide) (fun _ => rfl) (fun z_9 ls hz_9 hl => ?_)
                have hl : lv_has ls 7 [(6, .int z_9), (0, .ref h0), (1, .int p0), (2, .int p1), (3, .int p2), (4, .int p3), (5, .int p4)] := hl
                refine lv_goto (tgt := 8) hx hb dX6_known_81 (by decide) ?_
                exact ih_8 _ _ _ F_8 G_8 z_9 (show ((-1) ≤ z_9.toInt ∧ z_9.toInt ≤ 399) from by omega) (show (z_9.toInt + 1) < ((n_8 : Nat) : Int) from by omega) hM (lv_sub hl [1, 2, 3, 4, 5, 6, 0] rfl)
              · refine lv_aload_n hx hb dX6_known_58 rfl (lv_at hl 0 rfl) ?_
                refine mr_get (v := .ref (q 35)) E hM 35 (by decide) (index := 93) (mm_at 5 rfl) rfl rfl dX6_known_59 ?_
                refine lv_iload hx hb dX6_known_62 (lv_at hl 6 rfl) ?_
                refine mr_ald (X := i.toInt) E hM 27 26 rfl rfl rfl (by omega) dX6_known_64 ?_
                refine lv_iload hx hb dX6_known_65 (lv_at hl 4 rfl) ?_
                refine mm_icmp_ne (X := (G_8 35 (Int32.toNatClampNeg i)).toInt) (Y := p3.toInt) (tgt := 78) hx hb dX6_known_67 (by decide) rfl rfl (fun c_10 => ?_) (fun c_10 => ?_)
                · refine mm_iinc (X := i.toInt) (v := (-1)) (lv2 := fun z => [(6, .int z), (0, .ref h0), (1, .int p0), (2, .int p1), (3, .int p2), (4, .int p3), (5, .int p4)]) hx hb dX6_known_78 hl (k := 6) rfl rfl (by decide) num_m1 (by omega) (by decide) (fun _ => rfl) (fun z_11 ls hz_11 hl => ?_)
                  have hl : lv_has ls 7 [(6, .int z_11), (0, .ref h0), (1, .int p0), (2, .int p1), (3, .int p2), (4, .int p3), (5, .int p4)] := hl
                  refine lv_goto (tgt := 8) hx hb dX6_known_81 (by decide) ?_
                  exact ih_8 _ _ _ F_8 G_8 z_11 (show ((-1) ≤ z_11.toInt ∧ z_11.toInt ≤ 399) from by omega) (show (z_11.toInt + 1) < ((n_8 : Nat) : Int) from by omega) hM (lv_sub hl [1, 2, 3, 4, 5, 6, 0] rfl)
                · refine lv_aload_n hx hb dX6_known_70 rfl (lv_at hl 0 rfl) ?_
                  refine mr_get (v := .ref (q 36)) E hM 36 (by decide) (index := 96) (mm_at 6 rfl) rfl rfl dX6_known_71 ?_
                  refine lv_iload hx hb dX6_known_74 (lv_at hl 6 rfl) ?_
                  refine mr_ald (X := i.toInt) E hM 28 27 rfl rfl rfl (by omega) dX6_known_76 ?_
                  exact mr_ri E hr hlk hsz hM trivial dX6_known_77
  refine lv_aload_n hx hb dX6_known_0 rfl (lv_at hl 0 rfl) ?_
  have b_12 : 0 ≤ (F 31).toInt ∧ (F 31).toInt ≤ 400 := hM.fb 31 rfl
  refine mr_get (v := .int (F 31)) E hM 31 (by decide) (index := 217) (mm_at 7 rfl) rfl rfl dX6_known_1 ?_
  refine lv_iconst (v := 1) hx hb dX6_known_4 (by decide) ?_
  refine mm_isub (X := (F 31).toInt) (Y := 1) hx hb dX6_known_5 rfl num_1 (by omega) (fun z_13 hz_13 => ?_)
  refine lv_istore (lv' := [(6, .int z_13), (0, .ref h0), (1, .int p0), (2, .int p1), (3, .int p2), (4, .int p3), (5, .int p4)]) hx hb dX6_known_6 hl (by decide) rfl (fun ls hl => ?_)
  exact B_8 4294967296 _ _ _ F G z_13 (show ((-1) ≤ z_13.toInt ∧ z_13.toInt ≤ 399) from by omega) (show (z_13.toInt + 1) < ((4294967296 : Nat) : Int) from by omega) hM (lv_sub hl [1, 2, 3, 4, 5, 6, 0] rfl)
def w3X6_hits : List Cond := .code yX6_hits cX6_hits 3 (some .int) :: ([] ++ wsX60)
set_option maxHeartbeats 4000000 in
set_option maxRecDepth 100000 in
theorem g3_X6_hits (l : Launch) (D : va_G) (h0 : Nat) (q : Nat → Nat) (cq : Nat → ClassId) (F : Nat → Int32) (G : Nat → Nat → Int32) (sz : Nat) (p0 : Int32) (hI : mI F G)  : Met l yX6_hits w3X6_hits ({ frames := 0, cells := 0, slots := 0, locals := 0 }) (mPre D h0 q cq F G sz [.int p0]) (mQi D h0 q cq F G sz [] [] (fun r F' G' => True)) 0 0 (va_A (mW h0 q cq F G) sz) := by
  refine mr_met (WF := []) (WG := []) (cc := cX6_hits) (maxL := 3) (ret := (some .int)) (by decide) rfl rfl (by decide +kernel) (Nat.le_of_ble_eq_true rfl) hI ?_
  intro p e s m args below meth c ls E hml hr hlk hsz hA hM hl
  have hx := E.1
  have hb := E.2.1
  have hts := E.2.2.1
  have hown := E.2.2.2.2.1
  have hl : lv_has ls 3 [(0, .int p0)] := hl
  have B_4 : ∀ n_4 : Nat, ∀ (H : Heap) (locs : List Loc) (ls : Array Slot) (F_4 : Nat → Int32) (G_4 : Nat → Nat → Int32) (a k : Int32), (0 ≤ k.toInt ∧ k.toInt ≤ 5) → (5 - k.toInt) < (n_4 : Int) → mQ D h0 q cq (va_A (mW h0 q cq F G) sz) s.heap [] [] F G H locs F_4 G_4 → lv_has ls 3 [(0, .int p0), (1, .int a), (2, .int k)] → W p l e ({ frames := 0, cells := 0, slots := 0, locals := 0 }) s m args below meth c H locs 0 0 (MQ below (mQi D h0 q cq F G sz [] [] (fun r F' G' => True)) args s 0 0 (va_A (mW h0 q cq F G) sz)) (F0 m 4 ls []) := by
    intro n_4
    induction n_4 with
    | zero => intro H locs ls F_4 G_4 a k f4_0 hn hM hl; exact False.elim (by have hfr_4 := hM.fr; omega)
    | succ n_4 ih_4 =>
      intro H locs ls F_4 G_4 a k f4_0 hn hM hl
      have hfr_4 := hM.fr
      refine lv_iload_n hx hb dX6_hits_4 rfl (lv_at hl 2 rfl) ?_
      refine lv_iconst (v := 5) hx hb dX6_hits_5 (by decide) ?_
      refine mm_icmp_ge (X := k.toInt) (Y := 5) (tgt := 23) hx hb dX6_hits_6 (by decide) rfl num_5 (fun c_1 => ?_) (fun c_1 => ?_)
      · refine lv_iload_n hx hb dX6_hits_23 rfl (lv_at hl 1 rfl) ?_
        exact mr_ri E hr hlk hsz hM trivial dX6_hits_24
      · refine lv_iload_n hx hb dX6_hits_9 rfl (lv_at hl 1 rfl) ?_
        refine lv_iload_n hx hb dX6_hits_10 rfl (lv_at hl 0 rfl) ?_
        refine lv_iload_n hx hb dX6_hits_11 rfl (lv_at hl 2 rfl) ?_
        refine mm_ishrU hx hb dX6_hits_12 (fun z_2 => ?_)
        refine lv_iconst (v := 1) hx hb dX6_hits_13 (by decide) ?_
        refine mm_iandU hx hb dX6_hits_14 (fun z_3 => ?_)
        refine mm_iaddU hx hb dX6_hits_15 (fun z_4 => ?_)
        refine lv_istore_n (lv' := [(1, .int z_4), (0, .int p0), (2, .int k)]) hx hb dX6_hits_16 rfl hl (by decide) rfl (fun ls hl => ?_)
        refine mm_iinc (X := k.toInt) (v := 1) (lv2 := fun z => [(2, .int z), (1, .int z_4), (0, .int p0)]) hx hb dX6_hits_17 hl (k := 2) rfl rfl (by decide) num_1 (by omega) (by decide) (fun _ => rfl) (fun z_5 ls hz_5 hl => ?_)
        have hl : lv_has ls 3 [(2, .int z_5), (1, .int z_4), (0, .int p0)] := hl
        refine lv_goto (tgt := 4) hx hb dX6_hits_20 (by decide) ?_
        exact ih_4 _ _ _ F_4 G_4 z_4 z_5 (show (0 ≤ z_5.toInt ∧ z_5.toInt ≤ 5) from by omega) (show (5 - z_5.toInt) < ((n_4 : Nat) : Int) from by omega) hM (lv_sub hl [2, 1, 0] rfl)
  refine lv_iconst (v := 0) hx hb dX6_hits_0 (by decide) ?_
  refine lv_istore_n (lv' := [(1, .int 0), (0, .int p0)]) hx hb dX6_hits_1 rfl hl (by decide) rfl (fun ls hl => ?_)
  refine lv_iconst (v := 0) hx hb dX6_hits_2 (by decide) ?_
  refine lv_istore_n (lv' := [(2, .int 0), (1, .int 0), (0, .int p0)]) hx hb dX6_hits_3 rfl hl (by decide) rfl (fun ls hl => ?_)
  exact B_4 4294967296 _ _ _ F G 0 0 (show (0 ≤ (0 : Int32).toInt ∧ (0 : Int32).toInt ≤ 5) from by have n_0 := num_0; have n_1 := num_0; omega) (show (5 - (0 : Int32).toInt) < ((4294967296 : Nat) : Int) from by have n_0 := num_0; have n_1 := num_0; omega) hM (lv_sub hl [2, 1, 0] rfl)
def w3X6_least : List Cond := .code yX6_least cX6_least 4 (some .int) :: ([.fieldLink RX6 197 "SkiShotsModel" "racers" "I", .fieldLink RX6 81 "SkiShotsModel" "entryOf" "[I", .fieldLink RX6 108 "SkiShotsModel" "low" "[I"] ++ wsX60)
set_option maxHeartbeats 4000000 in
set_option maxRecDepth 100000 in
theorem g3_X6_least (l : Launch) (D : va_G) (h0 : Nat) (q : Nat → Nat) (cq : Nat → ClassId) (F : Nat → Int32) (G : Nat → Nat → Int32) (sz : Nat) (p0 : Int32) (hI : mI F G) (k0 : 0 ≤ p0.toInt ∧ p0.toInt < 8) : Met l yX6_least w3X6_least ({ frames := 0, cells := 0, slots := 0, locals := 0 }) (mPre D h0 q cq F G sz [.ref h0, .int p0]) (mQi D h0 q cq F G sz [] [] (fun r F' G' => True)) 0 0 (va_A (mW h0 q cq F G) sz) := by
  refine mr_met (WF := []) (WG := []) (cc := cX6_least) (maxL := 4) (ret := (some .int)) (by decide) rfl rfl (by decide +kernel) (Nat.le_of_ble_eq_true rfl) hI ?_
  intro p e s m args below meth c ls E hml hr hlk hsz hA hM hl
  have hx := E.1
  have hb := E.2.1
  have hts := E.2.2.1
  have hown := E.2.2.2.2.1
  have hl : lv_has ls 4 [(0, .ref h0), (1, .int p0)] := hl
  have B_4 : ∀ n_4 : Nat, ∀ (H : Heap) (locs : List Loc) (ls : Array Slot) (F_4 : Nat → Int32) (G_4 : Nat → Nat → Int32) (b w : Int32), (0 ≤ w.toInt ∧ w.toInt ≤ 16) → (16 - w.toInt) < (n_4 : Int) → mQ D h0 q cq (va_A (mW h0 q cq F G) sz) s.heap [] [] F G H locs F_4 G_4 → lv_has ls 4 [(0, .ref h0), (1, .int p0), (2, .int b), (3, .int w)] → W p l e ({ frames := 0, cells := 0, slots := 0, locals := 0 }) s m args below meth c H locs 0 0 (MQ below (mQi D h0 q cq F G sz [] [] (fun r F' G' => True)) args s 0 0 (va_A (mW h0 q cq F G) sz)) (F0 m 4 ls []) := by
    intro n_4
    induction n_4 with
    | zero => intro H locs ls F_4 G_4 b w f4_0 hn hM hl; exact False.elim (by have hfr_4 := hM.fr; omega)
    | succ n_4 ih_4 =>
      intro H locs ls F_4 G_4 b w f4_0 hn hM hl
      have hfr_4 := hM.fr
      refine lv_iload_n hx hb dX6_least_4 rfl (lv_at hl 3 rfl) ?_
      refine lv_aload_n hx hb dX6_least_5 rfl (lv_at hl 0 rfl) ?_
      have b_1 : 0 ≤ (F_4 15).toInt ∧ (F_4 15).toInt ≤ 16 := hM.fb 15 rfl
      have e_2 : (F_4 15).toInt = (F 15).toInt := (congrArg Int32.toInt (hfr_4.1 15 (by decide))).trans rfl
      refine mr_get (v := .int (F_4 15)) E hM 15 (by decide) (index := 197) (mm_at 1 rfl) rfl rfl dX6_least_6 ?_
      refine mm_icmp_ge (X := w.toInt) (Y := (F_4 15).toInt) (tgt := 77) hx hb dX6_least_9 (by decide) rfl rfl (fun c_3 => ?_) (fun c_3 => ?_)
      · refine lv_iload_n hx hb dX6_least_77 rfl (lv_at hl 2 rfl) ?_
        exact mr_ri E hr hlk hsz hM trivial dX6_least_78
      · refine lv_aload_n hx hb dX6_least_12 rfl (lv_at hl 0 rfl) ?_
        refine mr_get (v := .ref (q 30)) E hM 30 (by decide) (index := 81) (mm_at 2 rfl) rfl rfl dX6_least_13 ?_
        refine lv_bipush (v := 16) hx hb dX6_least_16 (by decide) ?_
        refine lv_iload_n hx hb dX6_least_18 rfl (lv_at hl 1 rfl) ?_
        refine mm_imul (X := 16) (Y := p0.toInt) hx hb dX6_least_19 num_16 rfl (by omega) (fun z_4 hz_4 => ?_)
        refine lv_iload_n hx hb dX6_least_20 rfl (lv_at hl 3 rfl) ?_
        refine mm_iadd (X := z_4.toInt) (Y := w.toInt) hx hb dX6_least_21 rfl rfl (by omega) (fun z_5 hz_5 => ?_)
        refine mr_ald (X := z_5.toInt) E hM 23 22 rfl rfl rfl (by omega) dX6_least_22 ?_
        have b_6 : -1 ≤ (G_4 30 (Int32.toNatClampNeg z_5)).toInt ∧ (G_4 30 (Int32.toNatClampNeg z_5)).toInt ≤ 15 := hM.ab 30 rfl _
        refine mm_if_lt (X := (G_4 30 (Int32.toNatClampNeg z_5)).toInt) (tgt := 71) hx hb dX6_least_23 (by decide) rfl (fun c_7 => ?_) (fun c_7 => ?_)
        · refine mm_iinc (X := w.toInt) (v := 1) (lv2 := fun z => [(3, .int z), (0, .ref h0), (1, .int p0), (2, .int b)]) hx hb dX6_least_71 hl (k := 3) rfl rfl (by decide) num_1 (by omega) (by decide) (fun _ => rfl) (fun z_8 ls hz_8 hl => ?_)
          have hl : lv_has ls 4 [(3, .int z_8), (0, .ref h0), (1, .int p0), (2, .int b)] := hl
          refine lv_goto (tgt := 4) hx hb dX6_least_74 (by decide) ?_
          exact ih_4 _ _ _ F_4 G_4 b z_8 (show (0 ≤ z_8.toInt ∧ z_8.toInt ≤ 16) from by omega) (show (16 - z_8.toInt) < ((n_4 : Nat) : Int) from by omega) hM (lv_sub hl [1, 2, 3, 0] rfl)
        · refine lv_aload_n hx hb dX6_least_26 rfl (lv_at hl 0 rfl) ?_
          refine mr_get (v := .ref (q 46)) E hM 46 (by decide) (index := 108) (mm_at 3 rfl) rfl rfl dX6_least_27 ?_
          refine lv_bipush (v := 16) hx hb dX6_least_30 (by decide) ?_
          refine lv_iload_n hx hb dX6_least_32 rfl (lv_at hl 1 rfl) ?_
          refine mm_imul (X := 16) (Y := p0.toInt) hx hb dX6_least_33 num_16 rfl (by omega) (fun z_9 hz_9 => ?_)
          refine lv_iload_n hx hb dX6_least_34 rfl (lv_at hl 3 rfl) ?_
          refine mm_iadd (X := z_9.toInt) (Y := w.toInt) hx hb dX6_least_35 rfl rfl (by omega) (fun z_10 hz_10 => ?_)
          refine mr_ald (X := z_10.toInt) E hM 32 31 rfl rfl rfl (by omega) dX6_least_36 ?_
          refine mm_if_lt (X := (G_4 46 (Int32.toNatClampNeg z_10)).toInt) (tgt := 71) hx hb dX6_least_37 (by decide) rfl (fun c_11 => ?_) (fun c_11 => ?_)
          · refine mm_iinc (X := w.toInt) (v := 1) (lv2 := fun z => [(3, .int z), (0, .ref h0), (1, .int p0), (2, .int b)]) hx hb dX6_least_71 hl (k := 3) rfl rfl (by decide) num_1 (by omega) (by decide) (fun _ => rfl) (fun z_12 ls hz_12 hl => ?_)
            have hl : lv_has ls 4 [(3, .int z_12), (0, .ref h0), (1, .int p0), (2, .int b)] := hl
            refine lv_goto (tgt := 4) hx hb dX6_least_74 (by decide) ?_
            exact ih_4 _ _ _ F_4 G_4 b z_12 (show (0 ≤ z_12.toInt ∧ z_12.toInt ≤ 16) from by omega) (show (16 - z_12.toInt) < ((n_4 : Nat) : Int) from by omega) hM (lv_sub hl [1, 2, 3, 0] rfl)
          · refine lv_iload_n hx hb dX6_least_40 rfl (lv_at hl 2 rfl) ?_
            refine mm_if_lt (X := b.toInt) (tgt := 59) hx hb dX6_least_41 (by decide) rfl (fun c_13 => ?_) (fun c_13 => ?_)
            · refine lv_aload_n hx hb dX6_least_59 rfl (lv_at hl 0 rfl) ?_
              refine mr_get (v := .ref (q 46)) E hM 46 (by decide) (index := 108) (mm_at 3 rfl) rfl rfl dX6_least_60 ?_
              refine lv_bipush (v := 16) hx hb dX6_least_63 (by decide) ?_
              refine lv_iload_n hx hb dX6_least_65 rfl (lv_at hl 1 rfl) ?_
              refine mm_imul (X := 16) (Y := p0.toInt) hx hb dX6_least_66 num_16 rfl (by omega) (fun z_14 hz_14 => ?_)
              refine lv_iload_n hx hb dX6_least_67 rfl (lv_at hl 3 rfl) ?_
              refine mm_iadd (X := z_14.toInt) (Y := w.toInt) hx hb dX6_least_68 rfl rfl (by omega) (fun z_15 hz_15 => ?_)
              refine mr_ald (X := z_15.toInt) E hM 32 31 rfl rfl rfl (by omega) dX6_least_69 ?_
              refine lv_istore_n (lv' := [(2, .int (G_4 46 (Int32.toNatClampNeg z_15))), (0, .ref h0), (1, .int p0), (3, .int w)]) hx hb dX6_least_70 rfl hl (by decide) rfl (fun ls hl => ?_)
              refine mm_iinc (X := w.toInt) (v := 1) (lv2 := fun z => [(3, .int z), (2, .int (G_4 46 (Int32.toNatClampNeg z_15))), (0, .ref h0), (1, .int p0)]) hx hb dX6_least_71 hl (k := 3) rfl rfl (by decide) num_1 (by omega) (by decide) (fun _ => rfl) (fun z_16 ls hz_16 hl => ?_)
              have hl : lv_has ls 4 [(3, .int z_16), (2, .int (G_4 46 (Int32.toNatClampNeg z_15))), (0, .ref h0), (1, .int p0)] := hl
              refine lv_goto (tgt := 4) hx hb dX6_least_74 (by decide) ?_
              exact ih_4 _ _ _ F_4 G_4 (G_4 46 (Int32.toNatClampNeg z_15)) z_16 (show (0 ≤ z_16.toInt ∧ z_16.toInt ≤ 16) from by omega) (show (16 - z_16.toInt) < ((n_4 : Nat) : Int) from by omega) hM (lv_sub hl [2, 3, 1, 0] rfl)
            · refine lv_aload_n hx hb dX6_least_44 rfl (lv_at hl 0 rfl) ?_
              refine mr_get (v := .ref (q 46)) E hM 46 (by decide) (index := 108) (mm_at 3 rfl) rfl rfl dX6_least_45 ?_
              refine lv_bipush (v := 16) hx hb dX6_least_48 (by decide) ?_
              refine lv_iload_n hx hb dX6_least_50 rfl (lv_at hl 1 rfl) ?_
              refine mm_imul (X := 16) (Y := p0.toInt) hx hb dX6_least_51 num_16 rfl (by omega) (fun z_17 hz_17 => ?_)
              refine lv_iload_n hx hb dX6_least_52 rfl (lv_at hl 3 rfl) ?_
              refine mm_iadd (X := z_17.toInt) (Y := w.toInt) hx hb dX6_least_53 rfl rfl (by omega) (fun z_18 hz_18 => ?_)
              refine mr_ald (X := z_18.toInt) E hM 32 31 rfl rfl rfl (by omega) dX6_least_54 ?_
              refine lv_iload_n hx hb dX6_least_55 rfl (lv_at hl 2 rfl) ?_
              refine mm_icmp_ge (X := (G_4 46 (Int32.toNatClampNeg z_18)).toInt) (Y := b.toInt) (tgt := 71) hx hb dX6_least_56 (by decide) rfl rfl (fun c_19 => ?_) (fun c_19 => ?_)
              · refine mm_iinc (X := w.toInt) (v := 1) (lv2 := fun z => [(3, .int z), (0, .ref h0), (1, .int p0), (2, .int b)]) hx hb dX6_least_71 hl (k := 3) rfl rfl (by decide) num_1 (by omega) (by decide) (fun _ => rfl) (fun z_20 ls hz_20 hl => ?_)
                have hl : lv_has ls 4 [(3, .int z_20), (0, .ref h0), (1, .int p0), (2, .int b)] := hl
                refine lv_goto (tgt := 4) hx hb dX6_least_74 (by decide) ?_
                exact ih_4 _ _ _ F_4 G_4 b z_20 (show (0 ≤ z_20.toInt ∧ z_20.toInt ≤ 16) from by omega) (show (16 - z_20.toInt) < ((n_4 : Nat) : Int) from by omega) hM (lv_sub hl [1, 2, 3, 0] rfl)
              · refine lv_aload_n hx hb dX6_least_59 rfl (lv_at hl 0 rfl) ?_
                refine mr_get (v := .ref (q 46)) E hM 46 (by decide) (index := 108) (mm_at 3 rfl) rfl rfl dX6_least_60 ?_
                refine lv_bipush (v := 16) hx hb dX6_least_63 (by decide) ?_
                refine lv_iload_n hx hb dX6_least_65 rfl (lv_at hl 1 rfl) ?_
                refine mm_imul (X := 16) (Y := p0.toInt) hx hb dX6_least_66 num_16 rfl (by omega) (fun z_21 hz_21 => ?_)
                refine lv_iload_n hx hb dX6_least_67 rfl (lv_at hl 3 rfl) ?_
                refine mm_iadd (X := z_21.toInt) (Y := w.toInt) hx hb dX6_least_68 rfl rfl (by omega) (fun z_22 hz_22 => ?_)
                refine mr_ald (X := z_22.toInt) E hM 32 31 rfl rfl rfl (by omega) dX6_least_69 ?_
                refine lv_istore_n (lv' := [(2, .int (G_4 46 (Int32.toNatClampNeg z_22))), (0, .ref h0), (1, .int p0), (3, .int w)]) hx hb dX6_least_70 rfl hl (by decide) rfl (fun ls hl => ?_)
                refine mm_iinc (X := w.toInt) (v := 1) (lv2 := fun z => [(3, .int z), (2, .int (G_4 46 (Int32.toNatClampNeg z_22))), (0, .ref h0), (1, .int p0)]) hx hb dX6_least_71 hl (k := 3) rfl rfl (by decide) num_1 (by omega) (by decide) (fun _ => rfl) (fun z_23 ls hz_23 hl => ?_)
                have hl : lv_has ls 4 [(3, .int z_23), (2, .int (G_4 46 (Int32.toNatClampNeg z_22))), (0, .ref h0), (1, .int p0)] := hl
                refine lv_goto (tgt := 4) hx hb dX6_least_74 (by decide) ?_
                exact ih_4 _ _ _ F_4 G_4 (G_4 46 (Int32.toNatClampNeg z_22)) z_23 (show (0 ≤ z_23.toInt ∧ z_23.toInt ≤ 16) from by omega) (show (16 - z_23.toInt) < ((n_4 : Nat) : Int) from by omega) hM (lv_sub hl [2, 3, 1, 0] rfl)
  refine lv_iconst (v := (-1)) hx hb dX6_least_0 (by decide) ?_
  refine lv_istore_n (lv' := [(2, .int (-1)), (0, .ref h0), (1, .int p0)]) hx hb dX6_least_1 rfl hl (by decide) rfl (fun ls hl => ?_)
  refine lv_iconst (v := 0) hx hb dX6_least_2 (by decide) ?_
  refine lv_istore_n (lv' := [(3, .int 0), (2, .int (-1)), (0, .ref h0), (1, .int p0)]) hx hb dX6_least_3 rfl hl (by decide) rfl (fun ls hl => ?_)
  exact B_4 4294967296 _ _ _ F G (-1) 0 (show (0 ≤ (0 : Int32).toInt ∧ (0 : Int32).toInt ≤ 16) from by have n_0 := num_m1; have n_1 := num_0; omega) (show (16 - (0 : Int32).toInt) < ((4294967296 : Nat) : Int) from by have n_0 := num_m1; have n_1 := num_0; omega) hM (lv_sub hl [2, 3, 1, 0] rfl)
def w3X6_stands : List Cond := .code yX6_stands cX6_stands 4 (some .int) :: ([.fieldLink RX6 197 "SkiShotsModel" "racers" "I", .fieldLink RX6 123 "SkiShotsModel" "sums" "[I"] ++ wsX60)
set_option maxHeartbeats 4000000 in
set_option maxRecDepth 100000 in
theorem g3_X6_stands (l : Launch) (D : va_G) (h0 : Nat) (q : Nat → Nat) (cq : Nat → ClassId) (F : Nat → Int32) (G : Nat → Nat → Int32) (sz : Nat) (p0 : Int32) (hI : mI F G) (k0 : 0 ≤ p0.toInt ∧ p0.toInt < 16) : Met l yX6_stands w3X6_stands ({ frames := 0, cells := 0, slots := 0, locals := 0 }) (mPre D h0 q cq F G sz [.ref h0, .int p0]) (mQi D h0 q cq F G sz [] [] (fun r F' G' => True)) 0 0 (va_A (mW h0 q cq F G) sz) := by
  refine mr_met (WF := []) (WG := []) (cc := cX6_stands) (maxL := 4) (ret := (some .int)) (by decide) rfl rfl (by decide +kernel) (Nat.le_of_ble_eq_true rfl) hI ?_
  intro p e s m args below meth c ls E hml hr hlk hsz hA hM hl
  have hx := E.1
  have hb := E.2.1
  have hts := E.2.2.1
  have hown := E.2.2.2.2.1
  have hl : lv_has ls 4 [(0, .ref h0), (1, .int p0)] := hl
  have B_4 : ∀ n_4 : Nat, ∀ (H : Heap) (locs : List Loc) (ls : Array Slot) (F_4 : Nat → Int32) (G_4 : Nat → Nat → Int32) (n w : Int32), (0 ≤ w.toInt ∧ w.toInt ≤ 16) → (16 - w.toInt) < (n_4 : Int) → mQ D h0 q cq (va_A (mW h0 q cq F G) sz) s.heap [] [] F G H locs F_4 G_4 → lv_has ls 4 [(0, .ref h0), (1, .int p0), (2, .int n), (3, .int w)] → W p l e ({ frames := 0, cells := 0, slots := 0, locals := 0 }) s m args below meth c H locs 0 0 (MQ below (mQi D h0 q cq F G sz [] [] (fun r F' G' => True)) args s 0 0 (va_A (mW h0 q cq F G) sz)) (F0 m 4 ls []) := by
    intro n_4
    induction n_4 with
    | zero => intro H locs ls F_4 G_4 n w f4_0 hn hM hl; exact False.elim (by have hfr_4 := hM.fr; omega)
    | succ n_4 ih_4 =>
      intro H locs ls F_4 G_4 n w f4_0 hn hM hl
      have hfr_4 := hM.fr
      refine lv_iload_n hx hb dX6_stands_4 rfl (lv_at hl 3 rfl) ?_
      refine lv_aload_n hx hb dX6_stands_5 rfl (lv_at hl 0 rfl) ?_
      have b_1 : 0 ≤ (F_4 15).toInt ∧ (F_4 15).toInt ≤ 16 := hM.fb 15 rfl
      have e_2 : (F_4 15).toInt = (F 15).toInt := (congrArg Int32.toInt (hfr_4.1 15 (by decide))).trans rfl
      refine mr_get (v := .int (F_4 15)) E hM 15 (by decide) (index := 197) (mm_at 1 rfl) rfl rfl dX6_stands_6 ?_
      refine mm_icmp_ge (X := w.toInt) (Y := (F_4 15).toInt) (tgt := 41) hx hb dX6_stands_9 (by decide) rfl rfl (fun c_3 => ?_) (fun c_3 => ?_)
      · refine lv_iload_n hx hb dX6_stands_41 rfl (lv_at hl 2 rfl) ?_
        exact mr_ri E hr hlk hsz hM trivial dX6_stands_42
      · refine lv_iload_n hx hb dX6_stands_12 rfl (lv_at hl 2 rfl) ?_
        refine lv_aload_n hx hb dX6_stands_13 rfl (lv_at hl 0 rfl) ?_
        refine mr_get (v := .ref (q 51)) E hM 51 (by decide) (index := 123) (mm_at 2 rfl) rfl rfl dX6_stands_14 ?_
        refine lv_iload_n hx hb dX6_stands_17 rfl (lv_at hl 3 rfl) ?_
        refine mr_ald (X := w.toInt) E hM 37 36 rfl rfl rfl (by omega) dX6_stands_18 ?_
        refine lv_aload_n hx hb dX6_stands_19 rfl (lv_at hl 0 rfl) ?_
        refine mr_get (v := .ref (q 51)) E hM 51 (by decide) (index := 123) (mm_at 2 rfl) rfl rfl dX6_stands_20 ?_
        refine lv_iload_n hx hb dX6_stands_23 rfl (lv_at hl 1 rfl) ?_
        refine mr_ald (X := p0.toInt) E hM 37 36 rfl rfl rfl (by omega) dX6_stands_24 ?_
        refine mm_icmp_le (X := (G_4 51 (Int32.toNatClampNeg w)).toInt) (Y := (G_4 51 (Int32.toNatClampNeg p0)).toInt) (tgt := 32) hx hb dX6_stands_25 (by decide) rfl rfl (fun c_4 => ?_) (fun c_4 => ?_)
        · refine lv_iconst (v := 0) hx hb dX6_stands_32 (by decide) ?_
          refine mm_iaddU hx hb dX6_stands_33 (fun z_5 => ?_)
          refine lv_istore_n (lv' := [(2, .int z_5), (0, .ref h0), (1, .int p0), (3, .int w)]) hx hb dX6_stands_34 rfl hl (by decide) rfl (fun ls hl => ?_)
          refine mm_iinc (X := w.toInt) (v := 1) (lv2 := fun z => [(3, .int z), (2, .int z_5), (0, .ref h0), (1, .int p0)]) hx hb dX6_stands_35 hl (k := 3) rfl rfl (by decide) num_1 (by omega) (by decide) (fun _ => rfl) (fun z_6 ls hz_6 hl => ?_)
          have hl : lv_has ls 4 [(3, .int z_6), (2, .int z_5), (0, .ref h0), (1, .int p0)] := hl
          refine lv_goto (tgt := 4) hx hb dX6_stands_38 (by decide) ?_
          exact ih_4 _ _ _ F_4 G_4 z_5 z_6 (show (0 ≤ z_6.toInt ∧ z_6.toInt ≤ 16) from by omega) (show (16 - z_6.toInt) < ((n_4 : Nat) : Int) from by omega) hM (lv_sub hl [2, 3, 1, 0] rfl)
        · refine lv_iconst (v := 1) hx hb dX6_stands_28 (by decide) ?_
          refine lv_goto (tgt := 33) hx hb dX6_stands_29 (by decide) ?_
          refine mm_iaddU hx hb dX6_stands_33 (fun z_7 => ?_)
          refine lv_istore_n (lv' := [(2, .int z_7), (0, .ref h0), (1, .int p0), (3, .int w)]) hx hb dX6_stands_34 rfl hl (by decide) rfl (fun ls hl => ?_)
          refine mm_iinc (X := w.toInt) (v := 1) (lv2 := fun z => [(3, .int z), (2, .int z_7), (0, .ref h0), (1, .int p0)]) hx hb dX6_stands_35 hl (k := 3) rfl rfl (by decide) num_1 (by omega) (by decide) (fun _ => rfl) (fun z_8 ls hz_8 hl => ?_)
          have hl : lv_has ls 4 [(3, .int z_8), (2, .int z_7), (0, .ref h0), (1, .int p0)] := hl
          refine lv_goto (tgt := 4) hx hb dX6_stands_38 (by decide) ?_
          exact ih_4 _ _ _ F_4 G_4 z_7 z_8 (show (0 ≤ z_8.toInt ∧ z_8.toInt ≤ 16) from by omega) (show (16 - z_8.toInt) < ((n_4 : Nat) : Int) from by omega) hM (lv_sub hl [2, 3, 1, 0] rfl)
  refine lv_iconst (v := 1) hx hb dX6_stands_0 (by decide) ?_
  refine lv_istore_n (lv' := [(2, .int 1), (0, .ref h0), (1, .int p0)]) hx hb dX6_stands_1 rfl hl (by decide) rfl (fun ls hl => ?_)
  refine lv_iconst (v := 0) hx hb dX6_stands_2 (by decide) ?_
  refine lv_istore_n (lv' := [(3, .int 0), (2, .int 1), (0, .ref h0), (1, .int p0)]) hx hb dX6_stands_3 rfl hl (by decide) rfl (fun ls hl => ?_)
  exact B_4 4294967296 _ _ _ F G 1 0 (show (0 ≤ (0 : Int32).toInt ∧ (0 : Int32).toInt ≤ 16) from by have n_0 := num_1; have n_1 := num_0; omega) (show (16 - (0 : Int32).toInt) < ((4294967296 : Nat) : Int) from by have n_0 := num_1; have n_1 := num_0; omega) hM (lv_sub hl [2, 3, 1, 0] rfl)
def w3X6_placed : List Cond := .code yX6_placed cX6_placed 8 (some .int) :: ([.fieldLink RX6 72 "SkiShotsModel" "rEntries" "[I", .fieldLink RX6 78 "SkiShotsModel" "entries" "[I", .fieldLink RX6 108 "SkiShotsModel" "low" "[I", .fieldLink RX6 111 "SkiShotsModel" "high" "[I"] ++ wsX60)
set_option maxHeartbeats 4000000 in
set_option maxRecDepth 100000 in
theorem g3_X6_placed (l : Launch) (D : va_G) (h0 : Nat) (q : Nat → Nat) (cq : Nat → ClassId) (F : Nat → Int32) (G : Nat → Nat → Int32) (sz : Nat) (p0 : Int32) (p1 : Int32) (p2 : Int32) (hI : mI F G) (k0 : 0 ≤ p0.toInt ∧ p0.toInt < 8) (k1 : 0 ≤ p1.toInt ∧ p1.toInt < 16) : Met l yX6_placed w3X6_placed ({ frames := 0, cells := 0, slots := 0, locals := 0 }) (mPre D h0 q cq F G sz [.ref h0, .int p0, .int p1, .int p2]) (mQi D h0 q cq F G sz [] [] (fun r F' G' => True)) 0 0 (va_A (mW h0 q cq F G) sz) := by
  refine mr_met (WF := []) (WG := []) (cc := cX6_placed) (maxL := 8) (ret := (some .int)) (by decide) rfl rfl (by decide +kernel) (Nat.le_of_ble_eq_true rfl) hI ?_
  intro p e s m args below meth c ls E hml hr hlk hsz hA hM hl
  have hx := E.1
  have hb := E.2.1
  have hts := E.2.2.1
  have hown := E.2.2.2.2.1
  have hl : lv_has ls 8 [(0, .ref h0), (1, .int p0), (2, .int p1), (3, .int p2)] := hl
  have B_12 : ∀ n_12 : Nat, ∀ (H : Heap) (locs : List Loc) (ls : Array Slot) (F_12 : Nat → Int32) (G_12 : Nat → Nat → Int32) (a n i : Int32), (0 ≤ i.toInt ∧ i.toInt ≤ 16) → a.toInt = 16 * p0.toInt → (16 - i.toInt) < (n_12 : Int) → mQ D h0 q cq (va_A (mW h0 q cq F G) sz) s.heap [] [] F G H locs F_12 G_12 → lv_has ls 8 [(0, .ref h0), (1, .int p0), (2, .int p1), (3, .int p2), (4, .int a), (5, .int n), (6, .int i)] → W p l e ({ frames := 0, cells := 0, slots := 0, locals := 0 }) s m args below meth c H locs 0 0 (MQ below (mQi D h0 q cq F G sz [] [] (fun r F' G' => True)) args s 0 0 (va_A (mW h0 q cq F G) sz)) (F0 m 12 ls []) := by
    intro n_12
    induction n_12 with
    | zero => intro H locs ls F_12 G_12 a n i f12_0 f12_1 hn hM hl; exact False.elim (by have hfr_12 := hM.fr; omega)
    | succ n_12 ih_12 =>
      intro H locs ls F_12 G_12 a n i f12_0 f12_1 hn hM hl
      have hfr_12 := hM.fr
      refine lv_iload hx hb dX6_placed_12 (lv_at hl 6 rfl) ?_
      refine lv_aload_n hx hb dX6_placed_14 rfl (lv_at hl 0 rfl) ?_
      refine mr_get (v := .ref (q 27)) E hM 27 (by decide) (index := 72) (mm_at 1 rfl) rfl rfl dX6_placed_15 ?_
      refine lv_iload_n hx hb dX6_placed_18 rfl (lv_at hl 1 rfl) ?_
      refine mr_ald (X := p0.toInt) E hM 20 19 rfl rfl rfl (by omega) dX6_placed_19 ?_
      have b_1 : 0 ≤ (G_12 27 (Int32.toNatClampNeg p0)).toInt ∧ (G_12 27 (Int32.toNatClampNeg p0)).toInt ≤ 16 := hM.ab 27 rfl _
      refine mm_icmp_ge (X := i.toInt) (Y := (G_12 27 (Int32.toNatClampNeg p0)).toInt) (tgt := 124) hx hb dX6_placed_20 (by decide) rfl rfl (fun c_2 => ?_) (fun c_2 => ?_)
      · refine lv_iload hx hb dX6_placed_124 (lv_at hl 5 rfl) ?_
        exact mr_ri E hr hlk hsz hM trivial dX6_placed_126
      · refine lv_aload_n hx hb dX6_placed_23 rfl (lv_at hl 0 rfl) ?_
        refine mr_get (v := .ref (q 29)) E hM 29 (by decide) (index := 78) (mm_at 2 rfl) rfl rfl dX6_placed_24 ?_
        refine lv_iload hx hb dX6_placed_27 (lv_at hl 4 rfl) ?_
        refine lv_iload hx hb dX6_placed_29 (lv_at hl 6 rfl) ?_
        refine mm_iadd (X := a.toInt) (Y := i.toInt) hx hb dX6_placed_31 rfl rfl (by omega) (fun z_3 hz_3 => ?_)
        refine mr_ald (X := z_3.toInt) E hM 22 21 rfl rfl rfl (by omega) dX6_placed_32 ?_
        have b_4 : 0 ≤ (G_12 29 (Int32.toNatClampNeg z_3)).toInt ∧ (G_12 29 (Int32.toNatClampNeg z_3)).toInt ≤ 15 := hM.ab 29 rfl _
        refine lv_istore (lv' := [(7, .int (G_12 29 (Int32.toNatClampNeg z_3))), (0, .ref h0), (1, .int p0), (2, .int p1), (3, .int p2), (4, .int a), (5, .int n), (6, .int i)]) hx hb dX6_placed_33 hl (by decide) rfl (fun ls hl => ?_)
        refine lv_iload hx hb dX6_placed_35 (lv_at hl 0 rfl) ?_
        refine lv_iload_n hx hb dX6_placed_37 rfl (lv_at hl 3 rfl) ?_
        refine mm_icmp_eq (X := (G_12 29 (Int32.toNatClampNeg z_3)).toInt) (Y := p1.toInt) (tgt := 118) hx hb dX6_placed_38 (by decide) rfl rfl (fun c_5 => ?_) (fun c_5 => ?_)
        · refine mm_iinc (X := i.toInt) (v := 1) (lv2 := fun z => [(6, .int z), (7, .int (G_12 29 (Int32.toNatClampNeg z_3))), (0, .ref h0), (1, .int p0), (2, .int p1), (3, .int p2), (4, .int a), (5, .int n)]) hx hb dX6_placed_118 hl (k := 7) rfl rfl (by decide) num_1 (by omega) (by decide) (fun _ => rfl) (fun z_6 ls hz_6 hl => ?_)
          have hl : lv_has ls 8 [(6, .int z_6), (7, .int (G_12 29 (Int32.toNatClampNeg z_3))), (0, .ref h0), (1, .int p0), (2, .int p1), (3, .int p2), (4, .int a), (5, .int n)] := hl
          refine lv_goto (tgt := 12) hx hb dX6_placed_121 (by decide) ?_
          exact ih_12 _ _ _ F_12 G_12 a n z_6 (show (0 ≤ z_6.toInt ∧ z_6.toInt ≤ 16) from by omega) (show a.toInt = 16 * p0.toInt from by omega) (show (16 - z_6.toInt) < ((n_12 : Nat) : Int) from by omega) hM (lv_sub hl [2, 3, 4, 5, 6, 7, 0] rfl)
        · refine lv_aload_n hx hb dX6_placed_41 rfl (lv_at hl 1 rfl) ?_
          refine mr_get (v := .ref (q 46)) E hM 46 (by decide) (index := 108) (mm_at 3 rfl) rfl rfl dX6_placed_42 ?_
          refine lv_iload hx hb dX6_placed_45 (lv_at hl 5 rfl) ?_
          refine lv_iload hx hb dX6_placed_47 (lv_at hl 0 rfl) ?_
          refine mm_iadd (X := a.toInt) (Y := (G_12 29 (Int32.toNatClampNeg z_3)).toInt) hx hb dX6_placed_49 rfl rfl (by omega) (fun z_7 hz_7 => ?_)
          refine mr_ald (X := z_7.toInt) E hM 32 31 rfl rfl rfl (by omega) dX6_placed_50 ?_
          refine mm_if_ge (X := (G_12 46 (Int32.toNatClampNeg z_7)).toInt) (tgt := 57) hx hb dX6_placed_51 (by decide) rfl (fun c_8 => ?_) (fun c_8 => ?_)
          · refine lv_iload hx hb dX6_placed_57 (lv_at hl 6 rfl) ?_
            refine lv_iload_n hx hb dX6_placed_59 rfl (lv_at hl 4 rfl) ?_
            refine mm_if_eq (X := p2.toInt) (tgt := 88) hx hb dX6_placed_60 (by decide) rfl (fun c_9 => ?_) (fun c_9 => ?_)
            · refine lv_aload_n hx hb dX6_placed_88 rfl (lv_at hl 1 rfl) ?_
              refine mr_get (v := .ref (q 46)) E hM 46 (by decide) (index := 108) (mm_at 3 rfl) rfl rfl dX6_placed_89 ?_
              refine lv_iload hx hb dX6_placed_92 (lv_at hl 5 rfl) ?_
              refine lv_iload hx hb dX6_placed_94 (lv_at hl 0 rfl) ?_
              refine mm_iadd (X := a.toInt) (Y := (G_12 29 (Int32.toNatClampNeg z_3)).toInt) hx hb dX6_placed_96 rfl rfl (by omega) (fun z_10 hz_10 => ?_)
              refine mr_ald (X := z_10.toInt) E hM 32 31 rfl rfl rfl (by omega) dX6_placed_97 ?_
              refine lv_aload_n hx hb dX6_placed_98 rfl (lv_at hl 1 rfl) ?_
              refine mr_get (v := .ref (q 47)) E hM 47 (by decide) (index := 111) (mm_at 4 rfl) rfl rfl dX6_placed_99 ?_
              refine lv_iload hx hb dX6_placed_102 (lv_at hl 5 rfl) ?_
              refine lv_iload_n hx hb dX6_placed_104 rfl (lv_at hl 3 rfl) ?_
              refine mm_iadd (X := a.toInt) (Y := p1.toInt) hx hb dX6_placed_105 rfl rfl (by omega) (fun z_11 hz_11 => ?_)
              refine mr_ald (X := z_11.toInt) E hM 33 32 rfl rfl rfl (by omega) dX6_placed_106 ?_
              refine mm_icmp_ge (X := (G_12 46 (Int32.toNatClampNeg z_10)).toInt) (Y := (G_12 47 (Int32.toNatClampNeg z_11)).toInt) (tgt := 114) hx hb dX6_placed_107 (by decide) rfl rfl (fun c_12 => ?_) (fun c_12 => ?_)
              · refine lv_iconst (v := 0) hx hb dX6_placed_114 (by decide) ?_
                refine mm_iaddU hx hb dX6_placed_115 (fun z_13 => ?_)
                refine lv_istore (lv' := [(5, .int z_13), (7, .int (G_12 29 (Int32.toNatClampNeg z_3))), (0, .ref h0), (1, .int p0), (2, .int p1), (3, .int p2), (4, .int a), (6, .int i)]) hx hb dX6_placed_116 hl (by decide) rfl (fun ls hl => ?_)
                refine mm_iinc (X := i.toInt) (v := 1) (lv2 := fun z => [(6, .int z), (5, .int z_13), (7, .int (G_12 29 (Int32.toNatClampNeg z_3))), (0, .ref h0), (1, .int p0), (2, .int p1), (3, .int p2), (4, .int a)]) hx hb dX6_placed_118 hl (k := 7) rfl rfl (by decide) num_1 (by omega) (by decide) (fun _ => rfl) (fun z_14 ls hz_14 hl => ?_)
                have hl : lv_has ls 8 [(6, .int z_14), (5, .int z_13), (7, .int (G_12 29 (Int32.toNatClampNeg z_3))), (0, .ref h0), (1, .int p0), (2, .int p1), (3, .int p2), (4, .int a)] := hl
                refine lv_goto (tgt := 12) hx hb dX6_placed_121 (by decide) ?_
                exact ih_12 _ _ _ F_12 G_12 a z_13 z_14 (show (0 ≤ z_14.toInt ∧ z_14.toInt ≤ 16) from by omega) (show a.toInt = 16 * p0.toInt from by omega) (show (16 - z_14.toInt) < ((n_12 : Nat) : Int) from by omega) hM (lv_sub hl [3, 4, 5, 6, 7, 1, 0] rfl)
              · refine lv_iconst (v := 1) hx hb dX6_placed_110 (by decide) ?_
                refine lv_goto (tgt := 115) hx hb dX6_placed_111 (by decide) ?_
                refine mm_iaddU hx hb dX6_placed_115 (fun z_15 => ?_)
                refine lv_istore (lv' := [(5, .int z_15), (7, .int (G_12 29 (Int32.toNatClampNeg z_3))), (0, .ref h0), (1, .int p0), (2, .int p1), (3, .int p2), (4, .int a), (6, .int i)]) hx hb dX6_placed_116 hl (by decide) rfl (fun ls hl => ?_)
                refine mm_iinc (X := i.toInt) (v := 1) (lv2 := fun z => [(6, .int z), (5, .int z_15), (7, .int (G_12 29 (Int32.toNatClampNeg z_3))), (0, .ref h0), (1, .int p0), (2, .int p1), (3, .int p2), (4, .int a)]) hx hb dX6_placed_118 hl (k := 7) rfl rfl (by decide) num_1 (by omega) (by decide) (fun _ => rfl) (fun z_16 ls hz_16 hl => ?_)
                have hl : lv_has ls 8 [(6, .int z_16), (5, .int z_15), (7, .int (G_12 29 (Int32.toNatClampNeg z_3))), (0, .ref h0), (1, .int p0), (2, .int p1), (3, .int p2), (4, .int a)] := hl
                refine lv_goto (tgt := 12) hx hb dX6_placed_121 (by decide) ?_
                exact ih_12 _ _ _ F_12 G_12 a z_15 z_16 (show (0 ≤ z_16.toInt ∧ z_16.toInt ≤ 16) from by omega) (show a.toInt = 16 * p0.toInt from by omega) (show (16 - z_16.toInt) < ((n_12 : Nat) : Int) from by omega) hM (lv_sub hl [3, 4, 5, 6, 7, 1, 0] rfl)
            · refine lv_aload_n hx hb dX6_placed_63 rfl (lv_at hl 1 rfl) ?_
              refine mr_get (v := .ref (q 47)) E hM 47 (by decide) (index := 111) (mm_at 4 rfl) rfl rfl dX6_placed_64 ?_
              refine lv_iload hx hb dX6_placed_67 (lv_at hl 5 rfl) ?_
              refine lv_iload hx hb dX6_placed_69 (lv_at hl 0 rfl) ?_
              refine mm_iadd (X := a.toInt) (Y := (G_12 29 (Int32.toNatClampNeg z_3)).toInt) hx hb dX6_placed_71 rfl rfl (by omega) (fun z_17 hz_17 => ?_)
              refine mr_ald (X := z_17.toInt) E hM 33 32 rfl rfl rfl (by omega) dX6_placed_72 ?_
              refine lv_aload_n hx hb dX6_placed_73 rfl (lv_at hl 1 rfl) ?_
              refine mr_get (v := .ref (q 46)) E hM 46 (by decide) (index := 108) (mm_at 3 rfl) rfl rfl dX6_placed_74 ?_
              refine lv_iload hx hb dX6_placed_77 (lv_at hl 5 rfl) ?_
              refine lv_iload_n hx hb dX6_placed_79 rfl (lv_at hl 3 rfl) ?_
              refine mm_iadd (X := a.toInt) (Y := p1.toInt) hx hb dX6_placed_80 rfl rfl (by omega) (fun z_18 hz_18 => ?_)
              refine mr_ald (X := z_18.toInt) E hM 32 31 rfl rfl rfl (by omega) dX6_placed_81 ?_
              refine mm_icmp_ge (X := (G_12 47 (Int32.toNatClampNeg z_17)).toInt) (Y := (G_12 46 (Int32.toNatClampNeg z_18)).toInt) (tgt := 114) hx hb dX6_placed_82 (by decide) rfl rfl (fun c_19 => ?_) (fun c_19 => ?_)
              · refine lv_iconst (v := 0) hx hb dX6_placed_114 (by decide) ?_
                refine mm_iaddU hx hb dX6_placed_115 (fun z_20 => ?_)
                refine lv_istore (lv' := [(5, .int z_20), (7, .int (G_12 29 (Int32.toNatClampNeg z_3))), (0, .ref h0), (1, .int p0), (2, .int p1), (3, .int p2), (4, .int a), (6, .int i)]) hx hb dX6_placed_116 hl (by decide) rfl (fun ls hl => ?_)
                refine mm_iinc (X := i.toInt) (v := 1) (lv2 := fun z => [(6, .int z), (5, .int z_20), (7, .int (G_12 29 (Int32.toNatClampNeg z_3))), (0, .ref h0), (1, .int p0), (2, .int p1), (3, .int p2), (4, .int a)]) hx hb dX6_placed_118 hl (k := 7) rfl rfl (by decide) num_1 (by omega) (by decide) (fun _ => rfl) (fun z_21 ls hz_21 hl => ?_)
                have hl : lv_has ls 8 [(6, .int z_21), (5, .int z_20), (7, .int (G_12 29 (Int32.toNatClampNeg z_3))), (0, .ref h0), (1, .int p0), (2, .int p1), (3, .int p2), (4, .int a)] := hl
                refine lv_goto (tgt := 12) hx hb dX6_placed_121 (by decide) ?_
                exact ih_12 _ _ _ F_12 G_12 a z_20 z_21 (show (0 ≤ z_21.toInt ∧ z_21.toInt ≤ 16) from by omega) (show a.toInt = 16 * p0.toInt from by omega) (show (16 - z_21.toInt) < ((n_12 : Nat) : Int) from by omega) hM (lv_sub hl [3, 4, 5, 6, 7, 1, 0] rfl)
              · refine lv_goto (tgt := 110) hx hb dX6_placed_85 (by decide) ?_
                refine lv_iconst (v := 1) hx hb dX6_placed_110 (by decide) ?_
                refine lv_goto (tgt := 115) hx hb dX6_placed_111 (by decide) ?_
                refine mm_iaddU hx hb dX6_placed_115 (fun z_22 => ?_)
                refine lv_istore (lv' := [(5, .int z_22), (7, .int (G_12 29 (Int32.toNatClampNeg z_3))), (0, .ref h0), (1, .int p0), (2, .int p1), (3, .int p2), (4, .int a), (6, .int i)]) hx hb dX6_placed_116 hl (by decide) rfl (fun ls hl => ?_)
                refine mm_iinc (X := i.toInt) (v := 1) (lv2 := fun z => [(6, .int z), (5, .int z_22), (7, .int (G_12 29 (Int32.toNatClampNeg z_3))), (0, .ref h0), (1, .int p0), (2, .int p1), (3, .int p2), (4, .int a)]) hx hb dX6_placed_118 hl (k := 7) rfl rfl (by decide) num_1 (by omega) (by decide) (fun _ => rfl) (fun z_23 ls hz_23 hl => ?_)
                have hl : lv_has ls 8 [(6, .int z_23), (5, .int z_22), (7, .int (G_12 29 (Int32.toNatClampNeg z_3))), (0, .ref h0), (1, .int p0), (2, .int p1), (3, .int p2), (4, .int a)] := hl
                refine lv_goto (tgt := 12) hx hb dX6_placed_121 (by decide) ?_
                exact ih_12 _ _ _ F_12 G_12 a z_22 z_23 (show (0 ≤ z_23.toInt ∧ z_23.toInt ≤ 16) from by omega) (show a.toInt = 16 * p0.toInt from by omega) (show (16 - z_23.toInt) < ((n_12 : Nat) : Int) from by omega) hM (lv_sub hl [3, 4, 5, 6, 7, 1, 0] rfl)
          · refine lv_goto (tgt := 118) hx hb dX6_placed_54 (by decide) ?_
            refine mm_iinc (X := i.toInt) (v := 1) (lv2 := fun z => [(6, .int z), (7, .int (G_12 29 (Int32.toNatClampNeg z_3))), (0, .ref h0), (1, .int p0), (2, .int p1), (3, .int p2), (4, .int a), (5, .int n)]) hx hb dX6_placed_118 hl (k := 7) rfl rfl (by decide) num_1 (by omega) (by decide) (fun _ => rfl) (fun z_24 ls hz_24 hl => ?_)
            have hl : lv_has ls 8 [(6, .int z_24), (7, .int (G_12 29 (Int32.toNatClampNeg z_3))), (0, .ref h0), (1, .int p0), (2, .int p1), (3, .int p2), (4, .int a), (5, .int n)] := hl
            refine lv_goto (tgt := 12) hx hb dX6_placed_121 (by decide) ?_
            exact ih_12 _ _ _ F_12 G_12 a n z_24 (show (0 ≤ z_24.toInt ∧ z_24.toInt ≤ 16) from by omega) (show a.toInt = 16 * p0.toInt from by omega) (show (16 - z_24.toInt) < ((n_12 : Nat) : Int) from by omega) hM (lv_sub hl [2, 3, 4, 5, 6, 7, 0] rfl)
  refine lv_bipush (v := 16) hx hb dX6_placed_0 (by decide) ?_
  refine lv_iload_n hx hb dX6_placed_2 rfl (lv_at hl 1 rfl) ?_
  refine mm_imul (X := 16) (Y := p0.toInt) hx hb dX6_placed_3 num_16 rfl (by omega) (fun z_25 hz_25 => ?_)
  refine lv_istore (lv' := [(4, .int z_25), (0, .ref h0), (1, .int p0), (2, .int p1), (3, .int p2)]) hx hb dX6_placed_4 hl (by decide) rfl (fun ls hl => ?_)
  refine lv_iconst (v := 1) hx hb dX6_placed_6 (by decide) ?_
  refine lv_istore (lv' := [(5, .int 1), (4, .int z_25), (0, .ref h0), (1, .int p0), (2, .int p1), (3, .int p2)]) hx hb dX6_placed_7 hl (by decide) rfl (fun ls hl => ?_)
  refine lv_iconst (v := 0) hx hb dX6_placed_9 (by decide) ?_
  refine lv_istore (lv' := [(6, .int 0), (5, .int 1), (4, .int z_25), (0, .ref h0), (1, .int p0), (2, .int p1), (3, .int p2)]) hx hb dX6_placed_10 hl (by decide) rfl (fun ls hl => ?_)
  exact B_12 4294967296 _ _ _ F G z_25 1 0 (show (0 ≤ (0 : Int32).toInt ∧ (0 : Int32).toInt ≤ 16) from by have n_1 := num_1; have n_2 := num_0; omega) (show z_25.toInt = 16 * p0.toInt from by have n_1 := num_1; have n_2 := num_0; omega) (show (16 - (0 : Int32).toInt) < ((4294967296 : Nat) : Int) from by have n_1 := num_1; have n_2 := num_0; omega) hM (lv_sub hl [3, 4, 5, 6, 2, 1, 0] rfl)
