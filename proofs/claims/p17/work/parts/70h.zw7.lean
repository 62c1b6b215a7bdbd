def w7X6_cup : List Cond := .code yX6_cup cX6_cup 6 none :: ([.fieldLink RX6 72 "SkiShotsModel" "rEntries" "[I", .fieldLink RX6 78 "SkiShotsModel" "entries" "[I", .fieldLink RX6 108 "SkiShotsModel" "low" "[I", .methodLink RX6 248 yX6_placed, .instanceMethod yX6_placed, .selects RX6 yX6_placed yX6_placed, .initialized RX6, .code yX6_placed cX6_placed 8 (some .int), .fieldLink RX6 111 "SkiShotsModel" "high" "[I", .fieldLink RX6 123 "SkiShotsModel" "sums" "[I", .fieldLink RX6 200 "SkiShotsModel" "races" "I", .methodLink RX6 244 yX6_workAll, .instanceMethod yX6_workAll, .selects RX6 yX6_workAll yX6_workAll, .code yX6_workAll cX6_workAll 5 none, .methodLink RX6 237 yX6_work, .instanceMethod yX6_work, .selects RX6 yX6_work yX6_work, .code yX6_work cX6_work 12 none, .fieldLink RX6 51 "SkiShotsModel" "rShoots" "[I", .fieldLink RX6 48 "SkiShotsModel" "rLaps" "[I", .methodLink RX6 230 yX6_known, .instanceMethod yX6_known, .selects RX6 yX6_known yX6_known, .code yX6_known cX6_known 7 (some .int), .fieldLink RX6 99 "SkiShotsModel" "tDay" "[I", .fieldLink RX6 84 "SkiShotsModel" "tRace" "[I", .fieldLink RX6 87 "SkiShotsModel" "tRacer" "[I", .fieldLink RX6 90 "SkiShotsModel" "tSort" "[I", .fieldLink RX6 93 "SkiShotsModel" "tK" "[I", .fieldLink RX6 96 "SkiShotsModel" "tV" "[I", .fieldLink RX6 217 "SkiShotsModel" "told" "I", .fieldLink RX6 105 "SkiShotsModel" "start" "[I", .methodLink RX6 234 yX6_hits, .static yX6_hits, .code yX6_hits cX6_hits 3 (some .int), .fieldLink RX6 114 "SkiShotsModel" "missLow" "[I", .fieldLink RX6 117 "SkiShotsModel" "missHigh" "[I", .fieldLink RX6 57 "SkiShotsModel" "rLoop" "[Z", .fieldLink RX6 60 "SkiShotsModel" "rCost" "[I", .methodLink RX6 227 yX6_startOf, .instanceMethod yX6_startOf, .selects RX6 yX6_startOf yX6_startOf, .code yX6_startOf cX6_startOf 5 (some .int), .fieldLink RX6 63 "SkiShotsModel" "rHow" "[I", .fieldLink RX6 69 "SkiShotsModel" "rBy" "[I", .fieldLink RX6 81 "SkiShotsModel" "entryOf" "[I", .methodLink RX6 224 yX6_least, .instanceMethod yX6_least, .selects RX6 yX6_least yX6_least, .code yX6_least cX6_least 4 (some .int), .fieldLink RX6 197 "SkiShotsModel" "racers" "I", .fieldLink RX6 66 "SkiShotsModel" "rNumber" "[I"] ++ wsX60)
set_option maxRecDepth 20000 in
theorem g8_X6_cup_X6_placed_12 : GoodIn w7X6_cup (wsV RX6 248 RX6 yX6_placed w7X6_placed) := goodIn_p _ [8] rfl (by decide +kernel)
set_option maxRecDepth 20000 in
theorem g8_X6_cup_X6_workAll_30 : GoodIn w7X6_cup (wsV RX6 244 RX6 yX6_workAll w7X6_workAll) := goodIn_p _ [15, 19, 25, 36, 44, 51] rfl (by decide +kernel)
set_option maxHeartbeats 4000000 in
set_option maxRecDepth 100000 in
theorem g7_X6_cup (l : Launch) (D : va_G) (h0 : Nat) (q : Nat → Nat) (cq : Nat → ClassId) (F : Nat → Int32) (G : Nat → Nat → Int32) (sz : Nat) (p0 : Int32) (hI : mI F G) (hW : lWr F G) : Met l yX6_cup w7X6_cup ({ frames := 4, cells := 0, slots := 0, locals := 102 }) (mPre D h0 q cq F G sz [.ref h0, .int p0]) (mQv D h0 q cq F G sz [] [45, 46, 47, 48, 49, 51] (fun F' G' => ∃ Gw : Nat → Nat → Int32, (∀ u t : Nat, (u : Int) < (F 17).toInt → (t : Int) < (G 27 u).toInt → wkP F Gw p0.toInt u t) ∧ (∀ k : Nat, 16 ≤ k → k ≤ 37 → Gw k = G k) ∧ ∀ j : Nat, j < 16 → (G' 51 j).toInt = cuA Gw (j : Int) (F 17).toInt.toNat)) 0 0 (va_A (mW h0 q cq F G) sz) := by
  refine mr_met (WF := []) (WG := [45, 46, 47, 48, 49, 51]) (cc := cX6_cup) (maxL := 6) (ret := none) (by decide) rfl rfl (by decide +kernel) (Nat.le_of_ble_eq_true rfl) hI ?_
  intro p e s m args below meth c ls E hml hr hlk hsz hA hM hl
  have hx := E.1
  have hb := E.2.1
  have hts := E.2.2.1
  have hown := E.2.2.2.2.1
  have hl : lv_has ls 6 [(0, .ref h0), (1, .int p0)] := hl
  have b17 : 0 ≤ (F 17).toInt ∧ (F 17).toInt ≤ 8 := hI.1 17 (0, 8) rfl
  have B_34 : ∀ n_34 : Nat, ∀ (H : Heap) (locs : List Loc) (ls : Array Slot) (Fc_34 : Nat → Int32) (Gc_34 : Nat → Nat → Int32) (rk : Int32), (0 ≤ rk.toInt ∧ rk.toInt ≤ 8) → rk.toInt ≤ (F 17).toInt → (∃ Gw : Nat → Nat → Int32, (∀ u t : Nat, (u : Int) < (F 17).toInt → (t : Int) < (G 27 u).toInt → wkP F Gw p0.toInt u t) ∧ (∀ k : Nat, ¬ k = 51 → Gc_34 k = Gw k) ∧ (∀ k : Nat, 16 ≤ k → k ≤ 37 → Gw k = G k) ∧ ∀ j : Nat, j < 16 → (Gc_34 51 j).toInt = cuA Gw (j : Int) (Int32.toNatClampNeg rk)) → (8 - rk.toInt) < (n_34 : Int) → mQ D h0 q cq (va_A (mW h0 q cq F G) sz) s.heap [] [45, 46, 47, 48, 49, 51] F G H locs Fc_34 Gc_34 → lv_has ls 6 [(0, .ref h0), (1, .int p0), (2, .int rk)] → W p l e ({ frames := 4, cells := 0, slots := 0, locals := 102 }) s m args below meth c H locs 0 0 (MQ below (mQv D h0 q cq F G sz [] [45, 46, 47, 48, 49, 51] (fun F' G' => ∃ Gw : Nat → Nat → Int32, (∀ u t : Nat, (u : Int) < (F 17).toInt → (t : Int) < (G 27 u).toInt → wkP F Gw p0.toInt u t) ∧ (∀ k : Nat, 16 ≤ k → k ≤ 37 → Gw k = G k) ∧ ∀ j : Nat, j < 16 → (G' 51 j).toInt = cuA Gw (j : Int) (F 17).toInt.toNat)) args s 0 0 (va_A (mW h0 q cq F G) sz)) (F0 m 34 ls []) := by
    intro n_34
    induction n_34 with
    | zero => intro H locs ls Fc_34 Gc_34 rk f34_0 f34_1 f34_2 hn hM hl; exact False.elim (by have hfr_34 := hM.fr; omega)
    | succ n_34 ih_34 =>
      intro H locs ls Fc_34 Gc_34 rk f34_0 f34_1 f34_2 hn hM hl
      have hfr_34 := hM.fr
      have B_44 : ∀ n_44 : Nat, ∀ (H : Heap) (locs : List Loc) (ls : Array Slot) (Fc_44 : Nat → Int32) (Gc_44 : Nat → Nat → Int32) (i : Int32), (0 ≤ i.toInt ∧ i.toInt ≤ 16) → (0 ≤ rk.toInt ∧ rk.toInt ≤ 7) → rk.toInt < (F 17).toInt → i.toInt ≤ (G 27 (Int32.toNatClampNeg rk)).toInt → (∃ Gw : Nat → Nat → Int32, (∀ u t : Nat, (u : Int) < (F 17).toInt → (t : Int) < (G 27 u).toInt → wkP F Gw p0.toInt u t) ∧ (∀ k : Nat, ¬ k = 51 → Gc_44 k = Gw k) ∧ (∀ k : Nat, 16 ≤ k → k ≤ 37 → Gw k = G k) ∧ ∀ j : Nat, j < 16 → (Gc_44 51 j).toInt = cuA Gw (j : Int) (Int32.toNatClampNeg rk) + cuR Gw (Int32.toNatClampNeg rk) (j : Int) (Int32.toNatClampNeg i)) → (16 - i.toInt) < (n_44 : Int) → mQ D h0 q cq (va_A (mW h0 q cq F G) sz) s.heap [] [45, 46, 47, 48, 49, 51] F G H locs Fc_44 Gc_44 → lv_has ls 6 [(0, .ref h0), (1, .int p0), (2, .int rk), (3, .int i)] → W p l e ({ frames := 4, cells := 0, slots := 0, locals := 102 }) s m args below meth c H locs 0 0 (MQ below (mQv D h0 q cq F G sz [] [45, 46, 47, 48, 49, 51] (fun F' G' => ∃ Gw : Nat → Nat → Int32, (∀ u t : Nat, (u : Int) < (F 17).toInt → (t : Int) < (G 27 u).toInt → wkP F Gw p0.toInt u t) ∧ (∀ k : Nat, 16 ≤ k → k ≤ 37 → Gw k = G k) ∧ ∀ j : Nat, j < 16 → (G' 51 j).toInt = cuA Gw (j : Int) (F 17).toInt.toNat)) args s 0 0 (va_A (mW h0 q cq F G) sz)) (F0 m 44 ls []) := by
        intro n_44
        induction n_44 with
        | zero => intro H locs ls Fc_44 Gc_44 i f44_0 f44_1 f44_2 f44_3 f44_4 hn hM hl; exact False.elim (by have hfr_44 := hM.fr; omega)
        | succ n_44 ih_44 =>
          intro H locs ls Fc_44 Gc_44 i f44_0 f44_1 f44_2 f44_3 f44_4 hn hM hl
          have hfr_44 := hM.fr
          obtain ⟨Gw4, hw4, he4, hg4, hz4⟩ := id f44_4
          have hp9 := mm_nat rk
          have hi9 := mm_nat i
          have b27 : ∀ j : Nat, 0 ≤ (G 27 j).toInt ∧ (G 27 j).toInt ≤ 16 := fun j => hI.2.1 27 (0, 16) rfl j
          have e27 := hg4 27 (by omega) (by omega)
          have e29 := hg4 29 (by omega) (by omega)
          refine lv_iload_n hx hb dX6_cup_44 rfl (lv_at hl 3 rfl) ?_
          refine lv_aload_n hx hb dX6_cup_45 rfl (lv_at hl 0 rfl) ?_
          refine mr_get (v := .ref (q 27)) E hM 27 (by decide) (index := 72) (mm_at 1 rfl) rfl rfl dX6_cup_46 ?_
          refine lv_iload_n hx hb dX6_cup_49 rfl (lv_at hl 2 rfl) ?_
          refine mr_ald (X := rk.toInt) E hM 20 19 rfl rfl rfl (by omega) dX6_cup_50 ?_
          have b_1 : 0 ≤ (Gc_44 27 (Int32.toNatClampNeg rk)).toInt ∧ (Gc_44 27 (Int32.toNatClampNeg rk)).toInt ≤ 16 := hM.ab 27 rfl _
          have gq_2 : (Gc_44 27 (Int32.toNatClampNeg rk)).toInt = (G 27 (Int32.toNatClampNeg rk)).toInt := congrArg Int32.toInt (congrFun ((hfr_44.2 27 (by decide)).trans rfl) _)
          refine mm_icmp_ge (X := i.toInt) (Y := (Gc_44 27 (Int32.toNatClampNeg rk)).toInt) (tgt := 125) hx hb dX6_cup_51 (by decide) rfl rfl (fun c_3 => ?_) (fun c_3 => ?_)
          · refine mm_iinc (X := rk.toInt) (v := 1) (lv2 := fun z => [(2, .int z), (0, .ref h0), (1, .int p0), (3, .int i)]) hx hb dX6_cup_125 hl (k := 2) rfl rfl (by decide) num_1 (by omega) (by decide) (fun _ => rfl) (fun z_4 ls hz_4 hl => ?_)
            have hl : lv_has ls 6 [(2, .int z_4), (0, .ref h0), (1, .int p0), (3, .int i)] := hl
            refine lv_goto (tgt := 34) hx hb dX6_cup_128 (by decide) ?_
            exact ih_34 _ _ _ Fc_44 Gc_44 z_4 (show (0 ≤ z_4.toInt ∧ z_4.toInt ≤ 8) from by omega) (show z_4.toInt ≤ (F 17).toInt from by omega) (show (∃ Gw : Nat → Nat → Int32, (∀ u t : Nat, (u : Int) < (F 17).toInt → (t : Int) < (G 27 u).toInt → wkP F Gw p0.toInt u t) ∧ (∀ k : Nat, ¬ k = 51 → Gc_44 k = Gw k) ∧ (∀ k : Nat, 16 ≤ k → k ≤ 37 → Gw k = G k) ∧ ∀ j : Nat, j < 16 → (Gc_44 51 j).toInt = cuA Gw (j : Int) (Int32.toNatClampNeg z_4)) from by exact ⟨Gw4, hw4, (fun k hk => he4 k hk), hg4, fun j hj => by rw [show Int32.toNatClampNeg z_4 = Int32.toNatClampNeg rk + 1 from by have h1 := mm_nat z_4; omega, cuA_s, e27, show (G 27 (Int32.toNatClampNeg rk)).toInt.toNat = Int32.toNatClampNeg i from by omega]; exact hz4 j hj⟩) (show (8 - z_4.toInt) < ((n_34 : Nat) : Int) from by omega) hM (lv_sub hl [1, 2, 0] rfl)
          · refine lv_aload_n hx hb dX6_cup_54 rfl (lv_at hl 0 rfl) ?_
            refine mr_get (v := .ref (q 29)) E hM 29 (by decide) (index := 78) (mm_at 2 rfl) rfl rfl dX6_cup_55 ?_
            refine lv_bipush (v := 16) hx hb dX6_cup_58 (by decide) ?_
            refine lv_iload_n hx hb dX6_cup_60 rfl (lv_at hl 2 rfl) ?_
            refine mm_imul (X := 16) (Y := rk.toInt) hx hb dX6_cup_61 num_16 rfl (by omega) (fun z_5 hz_5 => ?_)
            refine lv_iload_n hx hb dX6_cup_62 rfl (lv_at hl 3 rfl) ?_
            refine mm_iadd (X := z_5.toInt) (Y := i.toInt) hx hb dX6_cup_63 rfl rfl (by omega) (fun z_6 hz_6 => ?_)
            refine mr_ald (X := z_6.toInt) E hM 22 21 rfl rfl rfl (by omega) dX6_cup_64 ?_
            have b_7 : 0 ≤ (Gc_44 29 (Int32.toNatClampNeg z_6)).toInt ∧ (Gc_44 29 (Int32.toNatClampNeg z_6)).toInt ≤ 15 := hM.ab 29 rfl _
            have ew9 : (Gc_44 29 (Int32.toNatClampNeg z_6)).toInt = (G 29 (16 * Int32.toNatClampNeg rk + Int32.toNatClampNeg i)).toInt := by rw [show Gc_44 29 = G 29 from ((hfr_44.2 29 (by decide)).trans rfl), show Int32.toNatClampNeg z_6 = 16 * Int32.toNatClampNeg rk + Int32.toNatClampNeg i from by have h1 := mm_nat z_6; omega]
            have gq_8 : (Gc_44 29 (Int32.toNatClampNeg z_6)).toInt = (G 29 (Int32.toNatClampNeg z_6)).toInt := congrArg Int32.toInt (congrFun ((hfr_44.2 29 (by decide)).trans rfl) _)
            refine lv_istore (lv' := [(4, .int (Gc_44 29 (Int32.toNatClampNeg z_6))), (0, .ref h0), (1, .int p0), (2, .int rk), (3, .int i)]) hx hb dX6_cup_65 hl (by decide) rfl (fun ls hl => ?_)
            refine lv_aload_n hx hb dX6_cup_67 rfl (lv_at hl 1 rfl) ?_
            refine mr_get (v := .ref (q 46)) E hM 46 (by decide) (index := 108) (mm_at 3 rfl) rfl rfl dX6_cup_68 ?_
            refine lv_bipush (v := 16) hx hb dX6_cup_71 (by decide) ?_
            refine lv_iload_n hx hb dX6_cup_73 rfl (lv_at hl 3 rfl) ?_
            refine mm_imul (X := 16) (Y := rk.toInt) hx hb dX6_cup_74 num_16 rfl (by omega) (fun z_9 hz_9 => ?_)
            refine lv_iload hx hb dX6_cup_75 (lv_at hl 0 rfl) ?_
            refine mm_iadd (X := z_9.toInt) (Y := (Gc_44 29 (Int32.toNatClampNeg z_6)).toInt) hx hb dX6_cup_77 rfl rfl (by omega) (fun z_10 hz_10 => ?_)
            refine mr_ald (X := z_10.toInt) E hM 32 31 rfl rfl rfl (by omega) dX6_cup_78 ?_
            have el9 : (Gc_44 46 (Int32.toNatClampNeg z_10)).toInt = (Gw4 46 (wkI Gw4 (Int32.toNatClampNeg rk) (Int32.toNatClampNeg i))).toInt := by unfold wkI; rw [he4 46 (by omega), e29, show Int32.toNatClampNeg z_10 = 16 * Int32.toNatClampNeg rk + (G 29 (16 * Int32.toNatClampNeg rk + Int32.toNatClampNeg i)).toInt.toNat from by have h1 := mm_nat z_10; omega]
            refine mm_if_ge (X := (Gc_44 46 (Int32.toNatClampNeg z_10)).toInt) (tgt := 85) hx hb dX6_cup_79 (by decide) rfl (fun c_11 => ?_) (fun c_11 => ?_)
            · refine lv_bipush (v := 21) hx hb dX6_cup_85 (by decide) ?_
              refine lv_aload_n hx hb dX6_cup_87 rfl (lv_at hl 1 rfl) ?_
              refine lv_iload_n hx hb dX6_cup_88 rfl (lv_at hl 3 rfl) ?_
              refine lv_iload hx hb dX6_cup_89 (lv_at hl 0 rfl) ?_
              refine lv_iconst (v := 0) hx hb dX6_cup_91 (by decide) ?_
              refine mr_callp (av := [.int rk, .int (Gc_44 29 (Int32.toNatClampNeg z_6)), .int 0]) (rest := [.int 21]) E hA hml hM (g7_X6_placed l D h0 q cq Fc_44 Gc_44 _ rk (Gc_44 29 (Int32.toNatClampNeg z_6)) 0 hM.2.2.2.1 (show 0 ≤ rk.toInt ∧ rk.toInt < 8 from by have n_2 := num_0; omega) (show 0 ≤ (Gc_44 29 (Int32.toNatClampNeg z_6)).toInt ∧ (Gc_44 29 (Int32.toNatClampNeg z_6)).toInt < 16 from by have n_2 := num_0; omega)) (cwV 3 hts g8_X6_cup_X6_placed_12 rfl rfl rfl (by decide +kernel) ⟨Nat.le_of_ble_eq_true rfl, Nat.le_of_ble_eq_true rfl⟩) rfl hl.1 rfl (Nat.le_of_ble_eq_true rfl) dX6_cup_92 ⟨Nat.le_of_ble_eq_true rfl, Nat.le_of_ble_eq_true rfl⟩ (fun r_13 H locs p_14 hM => ?_)
              replace p_14 : r_13.toInt = plN Gc_44 (0 : Int32).toInt (Int32.toNatClampNeg rk) (Int32.toNatClampNeg (Gc_44 29 (Int32.toNatClampNeg z_6))) (Gc_44 27 (Int32.toNatClampNeg rk)).toInt.toNat := p_14
              have nn_15 := num_0
              have pl9 : plN Gw4 0 (Int32.toNatClampNeg rk) ((G 29 (16 * Int32.toNatClampNeg rk + Int32.toNatClampNeg i)).toInt).toNat (Gw4 27 (Int32.toNatClampNeg rk)).toInt.toNat = r_13.toInt := by
                have h9 := p_14
                rw [num_0] at h9
                rw [e27, h9, show Gc_44 27 = G 27 from ((hfr_44.2 27 (by decide)).trans rfl), plN_eq (he4 29 (by omega)) (he4 46 (by omega)) (he4 47 (by omega)), show Int32.toNatClampNeg (Gc_44 29 (Int32.toNatClampNeg z_6)) = ((G 29 (16 * Int32.toNatClampNeg rk + Int32.toNatClampNeg i)).toInt).toNat from by have h1 := mm_nat (Gc_44 29 (Int32.toNatClampNeg z_6)); omega]
              have pb9 := plN_bd (G := Gw4) 0 (Int32.toNatClampNeg rk) ((G 29 (16 * Int32.toNatClampNeg rk + Int32.toNatClampNeg i)).toInt).toNat (Gw4 27 (Int32.toNatClampNeg rk)).toInt.toNat
              rw [pl9, e27] at pb9
              have b29 := b27 (Int32.toNatClampNeg rk)
              refine mm_isub (X := 21) (Y := r_13.toInt) hx hb dX6_cup_95 num_21 rfl (by omega) (fun z_16 hz_16 => ?_)
              refine lv_istore (lv' := [(5, .int z_16), (4, .int (Gc_44 29 (Int32.toNatClampNeg z_6))), (0, .ref h0), (1, .int p0), (2, .int rk), (3, .int i)]) hx hb dX6_cup_96 hl (by decide) rfl (fun ls hl => ?_)
              refine lv_aload_n hx hb dX6_cup_98 rfl (lv_at hl 2 rfl) ?_
              refine mr_get (v := .ref (q 51)) E hM 51 (by decide) (index := 123) (mm_at 10 rfl) rfl rfl dX6_cup_99 ?_
              refine lv_iload hx hb dX6_cup_102 (lv_at hl 1 rfl) ?_
              refine lv_dup2_11 hx hb dX6_cup_104 rfl rfl ?_
              refine mr_ald (X := (Gc_44 29 (Int32.toNatClampNeg z_6)).toInt) E hM 37 36 rfl rfl rfl (by omega) dX6_cup_105 ?_
              have sm9 := hz4 (Int32.toNatClampNeg (Gc_44 29 (Int32.toNatClampNeg z_6))) (by have h1 := mm_nat (Gc_44 29 (Int32.toNatClampNeg z_6)); omega)
              have sa9 := cuA_bd (G := Gw4) (fun j => by rw [e27]; exact (b27 j).2) (Int32.toNatClampNeg rk) ((Int32.toNatClampNeg (Gc_44 29 (Int32.toNatClampNeg z_6)) : Nat) : Int)
              have sb9 := cuR_bd (G := Gw4) (Int32.toNatClampNeg rk) (Int32.toNatClampNeg i) ((Int32.toNatClampNeg (Gc_44 29 (Int32.toNatClampNeg z_6)) : Nat) : Int)
              refine lv_iload hx hb dX6_cup_106 (lv_at hl 0 rfl) ?_
              refine mm_if_le (X := z_16.toInt) (tgt := 116) hx hb dX6_cup_108 (by decide) rfl (fun c_17 => False.elim (by omega)) (fun c_17 => ?_)
              refine lv_iload hx hb dX6_cup_111 (lv_at hl 0 rfl) ?_
              refine lv_goto (tgt := 117) hx hb dX6_cup_113 (by decide) ?_
              refine mm_iadd (X := (Gc_44 51 (Int32.toNatClampNeg (Gc_44 29 (Int32.toNatClampNeg z_6)))).toInt) (Y := z_16.toInt) hx hb dX6_cup_117 rfl rfl (by omega) (fun z_18 hz_18 => ?_)
              refine mr_ast (X := (Gc_44 29 (Int32.toNatClampNeg z_6)).toInt) E hM 51 37 36 rfl rfl rfl (by omega) mg_51 (by decide) (mm_nbA rfl) (by decide) dX6_cup_118 (fun H locs G_19 eG_19 hM => ?_)
              refine mm_iinc (X := i.toInt) (v := 1) (lv2 := fun z => [(3, .int z), (5, .int z_16), (4, .int (Gc_44 29 (Int32.toNatClampNeg z_6))), (0, .ref h0), (1, .int p0), (2, .int rk)]) hx hb dX6_cup_119 hl (k := 5) rfl rfl (by decide) num_1 (by omega) (by decide) (fun _ => rfl) (fun z_20 ls hz_20 hl => ?_)
              have hl : lv_has ls 6 [(3, .int z_20), (5, .int z_16), (4, .int (Gc_44 29 (Int32.toNatClampNeg z_6))), (0, .ref h0), (1, .int p0), (2, .int rk)] := hl
              refine lv_goto (tgt := 44) hx hb dX6_cup_122 (by decide) ?_
              exact ih_44 _ _ _ Fc_44 G_19 z_20 (show (0 ≤ z_20.toInt ∧ z_20.toInt ≤ 16) from by omega) (show (0 ≤ rk.toInt ∧ rk.toInt ≤ 7) from by omega) (show rk.toInt < (F 17).toInt from by omega) (show z_20.toInt ≤ (G 27 (Int32.toNatClampNeg rk)).toInt from by omega) (show (∃ Gw : Nat → Nat → Int32, (∀ u t : Nat, (u : Int) < (F 17).toInt → (t : Int) < (G 27 u).toInt → wkP F Gw p0.toInt u t) ∧ (∀ k : Nat, ¬ k = 51 → G_19 k = Gw k) ∧ (∀ k : Nat, 16 ≤ k → k ≤ 37 → Gw k = G k) ∧ ∀ j : Nat, j < 16 → (G_19 51 j).toInt = cuA Gw (j : Int) (Int32.toNatClampNeg rk) + cuR Gw (Int32.toNatClampNeg rk) (j : Int) (Int32.toNatClampNeg z_20)) from by have hw8 := mm_nat (Gc_44 29 (Int32.toNatClampNeg z_6)); exact ⟨Gw4, hw4, (fun k hk => ((by rw [eG_19]; exact if_neg hk : G_19 k = Gc_44 k)).trans (he4 k hk)), hg4, fun j hj => by rw [show Int32.toNatClampNeg z_20 = Int32.toNatClampNeg i + 1 from by have h1 := mm_nat z_20; omega]; by_cases e9 : j = Int32.toNatClampNeg (Gc_44 29 (Int32.toNatClampNeg z_6)); (rw [((show G_19 51 = upd (Gc_44 51) (Int32.toNatClampNeg (Gc_44 29 (Int32.toNatClampNeg z_6))) (z_18) from by rw [eG_19]; rfl).trans (congrArg (fun z => upd z (Int32.toNatClampNeg (Gc_44 29 (Int32.toNatClampNeg z_6))) (z_18)) rfl)), e9, lUp, cuR_own (x := r_13.toInt) (y := z_18.toInt - (Gc_44 51 (Int32.toNatClampNeg (Gc_44 29 (Int32.toNatClampNeg z_6)))).toInt) (by rw [e29]; omega) (by omega) (by rw [show (((Int32.toNatClampNeg (Gc_44 29 (Int32.toNatClampNeg z_6)) : Nat) : Int)).toNat = ((G 29 (16 * Int32.toNatClampNeg rk + Int32.toNatClampNeg i)).toInt).toNat from by omega]; exact pl9) (by omega)]; omega); (rw [((show G_19 51 = upd (Gc_44 51) (Int32.toNatClampNeg (Gc_44 29 (Int32.toNatClampNeg z_6))) (z_18) from by rw [eG_19]; rfl).trans (congrArg (fun z => upd z (Int32.toNatClampNeg (Gc_44 29 (Int32.toNatClampNeg z_6))) (z_18)) rfl)), lUn e9, cuR_oth (by rw [e29]; omega)]; exact hz4 j hj)⟩) (show (16 - z_20.toInt) < ((n_44 : Nat) : Int) from by omega) hM (lv_sub hl [3, 4, 5, 0] rfl)
            · refine lv_goto (tgt := 119) hx hb dX6_cup_82 (by decide) ?_
              refine mm_iinc (X := i.toInt) (v := 1) (lv2 := fun z => [(3, .int z), (4, .int (Gc_44 29 (Int32.toNatClampNeg z_6))), (0, .ref h0), (1, .int p0), (2, .int rk)]) hx hb dX6_cup_119 hl (k := 4) rfl rfl (by decide) num_1 (by omega) (by decide) (fun _ => rfl) (fun z_21 ls hz_21 hl => ?_)
              have hl : lv_has ls 6 [(3, .int z_21), (4, .int (Gc_44 29 (Int32.toNatClampNeg z_6))), (0, .ref h0), (1, .int p0), (2, .int rk)] := hl
              refine lv_goto (tgt := 44) hx hb dX6_cup_122 (by decide) ?_
              exact ih_44 _ _ _ Fc_44 Gc_44 z_21 (show (0 ≤ z_21.toInt ∧ z_21.toInt ≤ 16) from by omega) (show (0 ≤ rk.toInt ∧ rk.toInt ≤ 7) from by omega) (show rk.toInt < (F 17).toInt from by omega) (show z_21.toInt ≤ (G 27 (Int32.toNatClampNeg rk)).toInt from by omega) (show (∃ Gw : Nat → Nat → Int32, (∀ u t : Nat, (u : Int) < (F 17).toInt → (t : Int) < (G 27 u).toInt → wkP F Gw p0.toInt u t) ∧ (∀ k : Nat, ¬ k = 51 → Gc_44 k = Gw k) ∧ (∀ k : Nat, 16 ≤ k → k ≤ 37 → Gw k = G k) ∧ ∀ j : Nat, j < 16 → (Gc_44 51 j).toInt = cuA Gw (j : Int) (Int32.toNatClampNeg rk) + cuR Gw (Int32.toNatClampNeg rk) (j : Int) (Int32.toNatClampNeg z_21)) from by exact ⟨Gw4, hw4, (fun k hk => he4 k hk), hg4, fun j hj => by rw [show Int32.toNatClampNeg z_21 = Int32.toNatClampNeg i + 1 from by have h1 := mm_nat z_21; omega, cuR_skip (by omega)]; exact hz4 j hj⟩) (show (16 - z_21.toInt) < ((n_44 : Nat) : Int) from by omega) hM (lv_sub hl [2, 3, 4, 0] rfl)
      obtain ⟨Gw2, hw2, he2, hg2, hz2⟩ := id f34_2
      have b27r : 0 ≤ (G 27 (Int32.toNatClampNeg rk)).toInt ∧ (G 27 (Int32.toNatClampNeg rk)).toInt ≤ 16 := hI.2.1 27 (0, 16) rfl _
      refine lv_iload_n hx hb dX6_cup_34 rfl (lv_at hl 2 rfl) ?_
      refine lv_aload_n hx hb dX6_cup_35 rfl (lv_at hl 0 rfl) ?_
      have b_22 : 0 ≤ (Fc_34 17).toInt ∧ (Fc_34 17).toInt ≤ 8 := hM.fb 17 rfl
      have e_23 : (Fc_34 17).toInt = (F 17).toInt := (congrArg Int32.toInt (hfr_34.1 17 (by decide))).trans rfl
      refine mr_get (v := .int (Fc_34 17)) E hM 17 (by decide) (index := 200) (mm_at 11 rfl) rfl rfl dX6_cup_36 ?_
      refine mm_icmp_ge (X := rk.toInt) (Y := (Fc_34 17).toInt) (tgt := 131) hx hb dX6_cup_39 (by decide) rfl rfl (fun c_24 => ?_) (fun c_24 => ?_)
      · exact mr_rv E hr hlk hsz hM (show ∃ Gw : Nat → Nat → Int32, (∀ u t : Nat, (u : Int) < (F 17).toInt → (t : Int) < (G 27 u).toInt → wkP F Gw p0.toInt u t) ∧ (∀ k : Nat, 16 ≤ k → k ≤ 37 → Gw k = G k) ∧ ∀ j : Nat, j < 16 → (Gc_34 51 j).toInt = cuA Gw (j : Int) (F 17).toInt.toNat from by exact ⟨Gw2, hw2, hg2, fun j hj => by rw [show (F 17).toInt.toNat = Int32.toNatClampNeg rk from by have h1 := mm_nat rk; omega]; exact hz2 j hj⟩) dX6_cup_131
      · refine lv_iconst (v := 0) hx hb dX6_cup_42 (by decide) ?_
        refine lv_istore_n (lv' := [(3, .int 0), (0, .ref h0), (1, .int p0), (2, .int rk)]) hx hb dX6_cup_43 rfl hl (by decide) rfl (fun ls hl => ?_)
        exact B_44 4294967296 _ _ _ Fc_34 Gc_34 0 (show (0 ≤ (0 : Int32).toInt ∧ (0 : Int32).toInt ≤ 16) from by have n_0 := num_0; omega) (show (0 ≤ rk.toInt ∧ rk.toInt ≤ 7) from by have n_0 := num_0; omega) (show rk.toInt < (F 17).toInt from by have n_0 := num_0; omega) (show (0 : Int32).toInt ≤ (G 27 (Int32.toNatClampNeg rk)).toInt from by have n_0 := num_0; omega) (show (∃ Gw : Nat → Nat → Int32, (∀ u t : Nat, (u : Int) < (F 17).toInt → (t : Int) < (G 27 u).toInt → wkP F Gw p0.toInt u t) ∧ (∀ k : Nat, ¬ k = 51 → Gc_34 k = Gw k) ∧ (∀ k : Nat, 16 ≤ k → k ≤ 37 → Gw k = G k) ∧ ∀ j : Nat, j < 16 → (Gc_34 51 j).toInt = cuA Gw (j : Int) (Int32.toNatClampNeg rk) + cuR Gw (Int32.toNatClampNeg rk) (j : Int) (Int32.toNatClampNeg (0 : Int32))) from by have n_0 := num_0; exact ⟨Gw2, hw2, (fun k hk => he2 k hk), hg2, fun j hj => by rw [show Int32.toNatClampNeg (0 : Int32) = 0 from by decide, hz2 j hj]; show _ = _ + (0 : Int); omega⟩) (show (16 - (0 : Int32).toInt) < ((4294967296 : Nat) : Int) from by have n_0 := num_0; omega) hM (lv_sub hl [1, 2, 3, 0] rfl)
  have B_13 : ∀ n_13 : Nat, ∀ (H : Heap) (locs : List Loc) (ls : Array Slot) (Fc_13 : Nat → Int32) (Gc_13 : Nat → Nat → Int32) (w : Int32), (0 ≤ w.toInt ∧ w.toInt ≤ 16) → (∃ Gw : Nat → Nat → Int32, (∀ u t : Nat, (u : Int) < (F 17).toInt → (t : Int) < (G 27 u).toInt → wkP F Gw p0.toInt u t) ∧ (∀ k : Nat, ¬ k = 51 → Gc_13 k = Gw k) ∧ (∀ k : Nat, 16 ≤ k → k ≤ 37 → Gw k = G k) ∧ ∀ j : Nat, j < Int32.toNatClampNeg w → (Gc_13 51 j).toInt = 0) → (16 - w.toInt) < (n_13 : Int) → mQ D h0 q cq (va_A (mW h0 q cq F G) sz) s.heap [] [45, 46, 47, 48, 49, 51] F G H locs Fc_13 Gc_13 → lv_has ls 6 [(0, .ref h0), (1, .int p0), (2, .int w)] → W p l e ({ frames := 4, cells := 0, slots := 0, locals := 102 }) s m args below meth c H locs 0 0 (MQ below (mQv D h0 q cq F G sz [] [45, 46, 47, 48, 49, 51] (fun F' G' => ∃ Gw : Nat → Nat → Int32, (∀ u t : Nat, (u : Int) < (F 17).toInt → (t : Int) < (G 27 u).toInt → wkP F Gw p0.toInt u t) ∧ (∀ k : Nat, 16 ≤ k → k ≤ 37 → Gw k = G k) ∧ ∀ j : Nat, j < 16 → (G' 51 j).toInt = cuA Gw (j : Int) (F 17).toInt.toNat)) args s 0 0 (va_A (mW h0 q cq F G) sz)) (F0 m 13 ls []) := by
    intro n_13
    induction n_13 with
    | zero => intro H locs ls Fc_13 Gc_13 w f13_0 f13_1 hn hM hl; exact False.elim (by have hfr_13 := hM.fr; omega)
    | succ n_13 ih_13 =>
      intro H locs ls Fc_13 Gc_13 w f13_0 f13_1 hn hM hl
      have hfr_13 := hM.fr
      obtain ⟨Gw1, hw1, he1, hg1, hz1⟩ := id f13_1
      refine lv_iload_n hx hb dX6_cup_13 rfl (lv_at hl 2 rfl) ?_
      refine lv_bipush (v := 16) hx hb dX6_cup_14 (by decide) ?_
      refine mm_icmp_ge (X := w.toInt) (Y := 16) (tgt := 32) hx hb dX6_cup_16 (by decide) rfl num_16 (fun c_25 => ?_) (fun c_25 => ?_)
      · refine lv_iconst (v := 0) hx hb dX6_cup_32 (by decide) ?_
        refine lv_istore_n (lv' := [(2, .int 0), (0, .ref h0), (1, .int p0)]) hx hb dX6_cup_33 rfl hl (by decide) rfl (fun ls hl => ?_)
        exact B_34 4294967296 _ _ _ Fc_13 Gc_13 0 (show (0 ≤ (0 : Int32).toInt ∧ (0 : Int32).toInt ≤ 8) from by have n_0 := num_0; omega) (show (0 : Int32).toInt ≤ (F 17).toInt from by have n_0 := num_0; omega) (show (∃ Gw : Nat → Nat → Int32, (∀ u t : Nat, (u : Int) < (F 17).toInt → (t : Int) < (G 27 u).toInt → wkP F Gw p0.toInt u t) ∧ (∀ k : Nat, ¬ k = 51 → Gc_13 k = Gw k) ∧ (∀ k : Nat, 16 ≤ k → k ≤ 37 → Gw k = G k) ∧ ∀ j : Nat, j < 16 → (Gc_13 51 j).toInt = cuA Gw (j : Int) (Int32.toNatClampNeg (0 : Int32))) from by have n_0 := num_0; have h2 := mm_nat w; exact ⟨Gw1, hw1, (fun k hk => he1 k hk), hg1, fun j hj => by rw [show Int32.toNatClampNeg (0 : Int32) = 0 from by decide]; show _ = (0 : Int); exact hz1 j (by omega)⟩) (show (8 - (0 : Int32).toInt) < ((4294967296 : Nat) : Int) from by have n_0 := num_0; omega) hM (lv_sub hl [1, 2, 0] rfl)
      · refine lv_aload_n hx hb dX6_cup_19 rfl (lv_at hl 0 rfl) ?_
        refine mr_get (v := .ref (q 51)) E hM 51 (by decide) (index := 123) (mm_at 10 rfl) rfl rfl dX6_cup_20 ?_
        refine lv_iload_n hx hb dX6_cup_23 rfl (lv_at hl 2 rfl) ?_
        refine lv_iconst (v := 0) hx hb dX6_cup_24 (by decide) ?_
        refine mr_ast (X := w.toInt) E hM 51 37 36 rfl rfl rfl (by omega) mg_51 (by decide) (mm_nbA rfl) (by decide) dX6_cup_25 (fun H locs G_26 eG_26 hM => ?_)
        refine mm_iinc (X := w.toInt) (v := 1) (lv2 := fun z => [(2, .int z), (0, .ref h0), (1, .int p0)]) hx hb dX6_cup_26 hl (k := 2) rfl rfl (by decide) num_1 (by omega) (by decide) (fun _ => rfl) (fun z_27 ls hz_27 hl => ?_)
        have hl : lv_has ls 6 [(2, .int z_27), (0, .ref h0), (1, .int p0)] := hl
        refine lv_goto (tgt := 13) hx hb dX6_cup_29 (by decide) ?_
        exact ih_13 _ _ _ Fc_13 G_26 z_27 (show (0 ≤ z_27.toInt ∧ z_27.toInt ≤ 16) from by omega) (show (∃ Gw : Nat → Nat → Int32, (∀ u t : Nat, (u : Int) < (F 17).toInt → (t : Int) < (G 27 u).toInt → wkP F Gw p0.toInt u t) ∧ (∀ k : Nat, ¬ k = 51 → G_26 k = Gw k) ∧ (∀ k : Nat, 16 ≤ k → k ≤ 37 → Gw k = G k) ∧ ∀ j : Nat, j < Int32.toNatClampNeg z_27 → (G_26 51 j).toInt = 0) from by have h1 := mm_nat z_27; have h2 := mm_nat w; exact ⟨Gw1, hw1, (fun k hk => ((by rw [eG_26]; exact if_neg hk : G_26 k = Gc_13 k)).trans (he1 k hk)), hg1, fun j hj => by by_cases e9 : j = Int32.toNatClampNeg w; (rw [((show G_26 51 = upd (Gc_13 51) (Int32.toNatClampNeg w) (0) from by rw [eG_26]; rfl).trans (congrArg (fun z => upd z (Int32.toNatClampNeg w) (0)) rfl)), e9, lUp]; exact num_0); (rw [((show G_26 51 = upd (Gc_13 51) (Int32.toNatClampNeg w) (0) from by rw [eG_26]; rfl).trans (congrArg (fun z => upd z (Int32.toNatClampNeg w) (0)) rfl)), lUn e9]; exact hz1 j (by omega))⟩) (show (16 - z_27.toInt) < ((n_13 : Nat) : Int) from by omega) hM (lv_sub hl [1, 2, 0] rfl)
  refine lv_aload_n hx hb dX6_cup_0 rfl (lv_at hl 0 rfl) ?_
  refine lv_aload_n hx hb dX6_cup_1 rfl (lv_at hl 0 rfl) ?_
  have b_28 : 0 ≤ (F 17).toInt ∧ (F 17).toInt ≤ 8 := hM.fb 17 rfl
  refine mr_get (v := .int (F 17)) E hM 17 (by decide) (index := 200) (mm_at 11 rfl) rfl rfl dX6_cup_2 ?_
  refine lv_iconst (v := 1) hx hb dX6_cup_5 (by decide) ?_
  refine mm_isub (X := (F 17).toInt) (Y := 1) hx hb dX6_cup_6 rfl num_1 (by omega) (fun z_29 hz_29 => ?_)
  refine lv_iload_n hx hb dX6_cup_7 rfl (lv_at hl 1 rfl) ?_
  refine mr_callv (av := [.int z_29, .int p0]) (rest := []) E hA hml hM (g7_X6_workAll l D h0 q cq F G _ z_29 p0 hM.2.2.2.1 (show -1 ≤ z_29.toInt ∧ z_29.toInt < 8 from by omega) (show z_29.toInt < (F 17).toInt from by omega) hW) (cwV 2 hts g8_X6_cup_X6_workAll_30 rfl rfl rfl (by decide +kernel) ⟨Nat.le_of_ble_eq_true rfl, Nat.le_of_ble_eq_true rfl⟩) rfl hl.1 rfl (Nat.le_of_ble_eq_true rfl) dX6_cup_8 ⟨Nat.le_of_ble_eq_true rfl, Nat.le_of_ble_eq_true rfl⟩ (by decide) (by decide) (fun F_33 G_34 H locs fr_35 p_32 hM => ?_)
  replace p_32 : ∀ u t : Nat, (u : Int) ≤ z_29.toInt → (t : Int) < (G 27 u).toInt → wkP F G_34 p0.toInt u t := p_32
  refine lv_iconst (v := 0) hx hb dX6_cup_11 (by decide) ?_
  refine lv_istore_n (lv' := [(2, .int 0), (0, .ref h0), (1, .int p0)]) hx hb dX6_cup_12 rfl hl (by decide) rfl (fun ls hl => ?_)
  exact B_13 4294967296 _ _ _ F_33 G_34 0 (show (0 ≤ (0 : Int32).toInt ∧ (0 : Int32).toInt ≤ 16) from by have n_0 := num_0; omega) (show (∃ Gw : Nat → Nat → Int32, (∀ u t : Nat, (u : Int) < (F 17).toInt → (t : Int) < (G 27 u).toInt → wkP F Gw p0.toInt u t) ∧ (∀ k : Nat, ¬ k = 51 → G_34 k = Gw k) ∧ (∀ k : Nat, 16 ≤ k → k ≤ 37 → Gw k = G k) ∧ ∀ j : Nat, j < Int32.toNatClampNeg (0 : Int32) → (G_34 51 j).toInt = 0) from by have n_0 := num_0; exact ⟨G_34, fun u t h1 h2 => p_32 u t (by omega) h2, fun k _ => rfl, (fun k a b => fr_35.2 k (fun z => by simp only [List.mem_cons, List.mem_nil_iff, or_false] at z; omega)), fun j hj => absurd hj (by rw [show Int32.toNatClampNeg (0 : Int32) = 0 from by decide]; exact Nat.not_lt_zero _)⟩) (show (16 - (0 : Int32).toInt) < ((4294967296 : Nat) : Int) from by have n_0 := num_0; omega) hM (lv_sub hl [1, 2, 0] rfl)
