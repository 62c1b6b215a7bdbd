def w7X6_workAll : List Cond := .code yX6_workAll cX6_workAll 5 none :: ([.fieldLink RX6 72 "SkiShotsModel" "rEntries" "[I", .fieldLink RX6 78 "SkiShotsModel" "entries" "[I", .methodLink RX6 237 yX6_work, .instanceMethod yX6_work, .selects RX6 yX6_work yX6_work, .initialized RX6, .code yX6_work cX6_work 12 none, .fieldLink RX6 51 "SkiShotsModel" "rShoots" "[I", .fieldLink RX6 48 "SkiShotsModel" "rLaps" "[I", .methodLink RX6 230 yX6_known, .instanceMethod yX6_known, .selects RX6 yX6_known yX6_known, .code yX6_known cX6_known 7 (some .int), .fieldLink RX6 99 "SkiShotsModel" "tDay" "[I", .fieldLink RX6 84 "SkiShotsModel" "tRace" "[I", .fieldLink RX6 87 "SkiShotsModel" "tRacer" "[I", .fieldLink RX6 90 "SkiShotsModel" "tSort" "[I", .fieldLink RX6 93 "SkiShotsModel" "tK" "[I", .fieldLink RX6 96 "SkiShotsModel" "tV" "[I", .fieldLink RX6 217 "SkiShotsModel" "told" "I", .fieldLink RX6 108 "SkiShotsModel" "low" "[I", .fieldLink RX6 111 "SkiShotsModel" "high" "[I", .fieldLink RX6 105 "SkiShotsModel" "start" "[I", .methodLink RX6 234 yX6_hits, .static yX6_hits, .code yX6_hits cX6_hits 3 (some .int), .fieldLink RX6 114 "SkiShotsModel" "missLow" "[I", .fieldLink RX6 117 "SkiShotsModel" "missHigh" "[I", .fieldLink RX6 57 "SkiShotsModel" "rLoop" "[Z", .fieldLink RX6 60 "SkiShotsModel" "rCost" "[I", .methodLink RX6 227 yX6_startOf, .instanceMethod yX6_startOf, .selects RX6 yX6_startOf yX6_startOf, .code yX6_startOf cX6_startOf 5 (some .int), .fieldLink RX6 63 "SkiShotsModel" "rHow" "[I", .fieldLink RX6 69 "SkiShotsModel" "rBy" "[I", .fieldLink RX6 81 "SkiShotsModel" "entryOf" "[I", .methodLink RX6 224 yX6_least, .instanceMethod yX6_least, .selects RX6 yX6_least yX6_least, .code yX6_least cX6_least 4 (some .int), .fieldLink RX6 197 "SkiShotsModel" "racers" "I", .fieldLink RX6 66 "SkiShotsModel" "rNumber" "[I"] ++ wsX60)
set_option maxRecDepth 20000 in
theorem g8_X6_workAll_X6_work_9 : GoodIn w7X6_workAll (wsV RX6 237 RX6 yX6_work w7X6_work) := goodIn_p _ [7, 13, 26, 34, 41] rfl (by decide +kernel)
set_option maxHeartbeats 4000000 in
set_option maxRecDepth 100000 in
theorem g7_X6_workAll (l : Launch) (D : va_G) (h0 : Nat) (q : Nat → Nat) (cq : Nat → ClassId) (F : Nat → Int32) (G : Nat → Nat → Int32) (sz : Nat) (p0 : Int32) (p1 : Int32) (hI : mI F G) (k0 : -1 ≤ p0.toInt ∧ p0.toInt < 8) (k1 : p0.toInt < (F 17).toInt) (hW : lWr F G) : Met l yX6_workAll w7X6_workAll ({ frames := 3, cells := 0, slots := 0, locals := 78 }) (mPre D h0 q cq F G sz [.ref h0, .int p0, .int p1]) (mQv D h0 q cq F G sz [] [45, 46, 47, 48, 49] (fun F' G' => ∀ u t : Nat, (u : Int) ≤ p0.toInt → (t : Int) < (G 27 u).toInt → wkP F G' p1.toInt u t)) 0 0 (va_A (mW h0 q cq F G) sz) := by
  refine mr_met (WF := []) (WG := [45, 46, 47, 48, 49]) (cc := cX6_workAll) (maxL := 5) (ret := none) (by decide) rfl rfl (by decide +kernel) (Nat.le_of_ble_eq_true rfl) hI ?_
  intro p e s m args below meth c ls E hml hr hlk hsz hA hM hl
  have hx := E.1
  have hb := E.2.1
  have hts := E.2.2.1
  have hown := E.2.2.2.2.1
  have hl : lv_has ls 5 [(0, .ref h0), (1, .int p0), (2, .int p1)] := hl
  have B_2 : ∀ n_2 : Nat, ∀ (H : Heap) (locs : List Loc) (ls : Array Slot) (Fc_2 : Nat → Int32) (Gc_2 : Nat → Nat → Int32) (r : Int32), (0 ≤ r.toInt ∧ r.toInt ≤ 8) → r.toInt ≤ p0.toInt + 1 → (∀ u t : Nat, u < Int32.toNatClampNeg r → (t : Int) < (G 27 u).toInt → wkP F Gc_2 p1.toInt u t) → (8 - r.toInt) < (n_2 : Int) → mQ D h0 q cq (va_A (mW h0 q cq F G) sz) s.heap [] [45, 46, 47, 48, 49] F G H locs Fc_2 Gc_2 → lv_has ls 5 [(0, .ref h0), (1, .int p0), (2, .int p1), (3, .int r)] → W p l e ({ frames := 3, cells := 0, slots := 0, locals := 78 }) s m args below meth c H locs 0 0 (MQ below (mQv D h0 q cq F G sz [] [45, 46, 47, 48, 49] (fun F' G' => ∀ u t : Nat, (u : Int) ≤ p0.toInt → (t : Int) < (G 27 u).toInt → wkP F G' p1.toInt u t)) args s 0 0 (va_A (mW h0 q cq F G) sz)) (F0 m 2 ls []) := by
    intro n_2
    induction n_2 with
    | zero => intro H locs ls Fc_2 Gc_2 r f2_0 f2_1 f2_2 hn hM hl; exact False.elim (by have hfr_2 := hM.fr; omega)
    | succ n_2 ih_2 =>
      intro H locs ls Fc_2 Gc_2 r f2_0 f2_1 f2_2 hn hM hl
      have hfr_2 := hM.fr
      have B_10 : ∀ n_10 : Nat, ∀ (H : Heap) (locs : List Loc) (ls : Array Slot) (Fc_10 : Nat → Int32) (Gc_10 : Nat → Nat → Int32) (i : Int32), (0 ≤ i.toInt ∧ i.toInt ≤ 16) → (0 ≤ r.toInt ∧ r.toInt ≤ 7) → r.toInt ≤ p0.toInt → (∀ u t : Nat, u < Int32.toNatClampNeg r → (t : Int) < (G 27 u).toInt → wkP F Gc_10 p1.toInt u t) → (∀ t : Nat, t < Int32.toNatClampNeg i → wkP F Gc_10 p1.toInt (Int32.toNatClampNeg r) t) → (16 - i.toInt) < (n_10 : Int) → mQ D h0 q cq (va_A (mW h0 q cq F G) sz) s.heap [] [45, 46, 47, 48, 49] F G H locs Fc_10 Gc_10 → lv_has ls 5 [(0, .ref h0), (1, .int p0), (2, .int p1), (3, .int r), (4, .int i)] → W p l e ({ frames := 3, cells := 0, slots := 0, locals := 78 }) s m args below meth c H locs 0 0 (MQ below (mQv D h0 q cq F G sz [] [45, 46, 47, 48, 49] (fun F' G' => ∀ u t : Nat, (u : Int) ≤ p0.toInt → (t : Int) < (G 27 u).toInt → wkP F G' p1.toInt u t)) args s 0 0 (va_A (mW h0 q cq F G) sz)) (F0 m 10 ls []) := by
        intro n_10
        induction n_10 with
        | zero => intro H locs ls Fc_10 Gc_10 i f10_0 f10_1 f10_2 f10_3 f10_4 hn hM hl; exact False.elim (by have hfr_10 := hM.fr; omega)
        | succ n_10 ih_10 =>
          intro H locs ls Fc_10 Gc_10 i f10_0 f10_1 f10_2 f10_3 f10_4 hn hM hl
          have hfr_10 := hM.fr
          refine lv_iload hx hb dX6_workAll_10 (lv_at hl 4 rfl) ?_
          refine lv_aload_n hx hb dX6_workAll_12 rfl (lv_at hl 0 rfl) ?_
          refine mr_get (v := .ref (q 27)) E hM 27 (by decide) (index := 72) (mm_at 1 rfl) rfl rfl dX6_workAll_13 ?_
          refine lv_iload_n hx hb dX6_workAll_16 rfl (lv_at hl 3 rfl) ?_
          refine mr_ald (X := r.toInt) E hM 20 19 rfl rfl rfl (by omega) dX6_workAll_17 ?_
          have b_1 : 0 ≤ (Gc_10 27 (Int32.toNatClampNeg r)).toInt ∧ (Gc_10 27 (Int32.toNatClampNeg r)).toInt ≤ 16 := hM.ab 27 rfl _
          have gq_2 : (Gc_10 27 (Int32.toNatClampNeg r)).toInt = (G 27 (Int32.toNatClampNeg r)).toInt := congrArg Int32.toInt (congrFun ((hfr_10.2 27 (by decide)).trans rfl) _)
          refine mm_icmp_ge (X := i.toInt) (Y := (Gc_10 27 (Int32.toNatClampNeg r)).toInt) (tgt := 45) hx hb dX6_workAll_18 (by decide) rfl rfl (fun c_3 => ?_) (fun c_3 => ?_)
          · refine mm_iinc (X := r.toInt) (v := 1) (lv2 := fun z => [(3, .int z), (0, .ref h0), (1, .int p0), (2, .int p1), (4, .int i)]) hx hb dX6_workAll_45 hl (k := 3) rfl rfl (by decide) num_1 (by omega) (by decide) (fun _ => rfl) (fun z_4 ls hz_4 hl => ?_)
            have hl : lv_has ls 5 [(3, .int z_4), (0, .ref h0), (1, .int p0), (2, .int p1), (4, .int i)] := hl
            refine lv_goto (tgt := 2) hx hb dX6_workAll_48 (by decide) ?_
            exact ih_2 _ _ _ Fc_10 Gc_10 z_4 (show (0 ≤ z_4.toInt ∧ z_4.toInt ≤ 8) from by omega) (show z_4.toInt ≤ p0.toInt + 1 from by omega) (show (∀ u t : Nat, u < Int32.toNatClampNeg z_4 → (t : Int) < (G 27 u).toInt → wkP F Gc_10 p1.toInt u t) from by exact fun u t hu ht => (Nat.lt_or_ge u (Int32.toNatClampNeg r)).elim (fun h9 => f10_3 u t h9 ht) (fun h9 => by have e9 : u = Int32.toNatClampNeg r := (by have h1 := mm_nat z_4; have h2 := mm_nat r; omega); subst e9; exact f10_4 t (by have h3 := mm_nat i; omega))) (show (8 - z_4.toInt) < ((n_2 : Nat) : Int) from by omega) hM (lv_sub hl [1, 2, 3, 0] rfl)
          · refine lv_aload_n hx hb dX6_workAll_21 rfl (lv_at hl 0 rfl) ?_
            refine lv_iload_n hx hb dX6_workAll_22 rfl (lv_at hl 3 rfl) ?_
            refine lv_aload_n hx hb dX6_workAll_23 rfl (lv_at hl 0 rfl) ?_
            refine mr_get (v := .ref (q 29)) E hM 29 (by decide) (index := 78) (mm_at 2 rfl) rfl rfl dX6_workAll_24 ?_
            refine lv_bipush (v := 16) hx hb dX6_workAll_27 (by decide) ?_
            refine lv_iload_n hx hb dX6_workAll_29 rfl (lv_at hl 3 rfl) ?_
            refine mm_imul (X := 16) (Y := r.toInt) hx hb dX6_workAll_30 num_16 rfl (by omega) (fun z_5 hz_5 => ?_)
            refine lv_iload hx hb dX6_workAll_31 (lv_at hl 4 rfl) ?_
            refine mm_iadd (X := z_5.toInt) (Y := i.toInt) hx hb dX6_workAll_33 rfl rfl (by omega) (fun z_6 hz_6 => ?_)
            refine mr_ald (X := z_6.toInt) E hM 22 21 rfl rfl rfl (by omega) dX6_workAll_34 ?_
            have b_7 : 0 ≤ (Gc_10 29 (Int32.toNatClampNeg z_6)).toInt ∧ (Gc_10 29 (Int32.toNatClampNeg z_6)).toInt ≤ 15 := hM.ab 29 rfl _
            have gq_8 : (Gc_10 29 (Int32.toNatClampNeg z_6)).toInt = (G 29 (Int32.toNatClampNeg z_6)).toInt := congrArg Int32.toInt (congrFun ((hfr_10.2 29 (by decide)).trans rfl) _)
            refine lv_iload_n hx hb dX6_workAll_35 rfl (lv_at hl 2 rfl) ?_
            have hx9 := hW.1 (Int32.toNatClampNeg r) (Int32.toNatClampNeg i) (by rw [mm_nat]; omega) (by have h3 := mm_nat i; omega)
            have hy9 : (Gc_10 29 (Int32.toNatClampNeg z_6)).toInt = (G 29 (16 * Int32.toNatClampNeg r + Int32.toNatClampNeg i)).toInt := by rw [show Gc_10 29 = G 29 from ((hfr_10.2 29 (by decide)).trans rfl), show Int32.toNatClampNeg z_6 = 16 * Int32.toNatClampNeg r + Int32.toNatClampNeg i from by have h1 := mm_nat z_6; have h2 := mm_nat r; have h3 := mm_nat i; omega]
            have b_10 : 0 ≤ (Fc_10 15).toInt ∧ (Fc_10 15).toInt ≤ 16 := hM.fb 15 rfl
            have e_11 : (Fc_10 15).toInt = (F 15).toInt := (congrArg Int32.toInt (hfr_10.1 15 (by decide))).trans rfl
            refine mr_callv (av := [.int r, .int (Gc_10 29 (Int32.toNatClampNeg z_6)), .int p1]) (rest := []) E hA hml hM (g7_X6_work l D h0 q cq Fc_10 Gc_10 _ r (Gc_10 29 (Int32.toNatClampNeg z_6)) p1 hM.2.2.2.1 (show 0 ≤ r.toInt ∧ r.toInt < 8 from by omega) (show 0 ≤ (Gc_10 29 (Int32.toNatClampNeg z_6)).toInt ∧ (Gc_10 29 (Int32.toNatClampNeg z_6)).toInt < 16 from by omega) (by rw [show Gc_10 24 = G 24 from ((hfr_10.2 24 (by decide)).trans rfl), show Gc_10 26 = G 26 from ((hfr_10.2 26 (by decide)).trans rfl)]; have h9 := (hW.2.1 (Int32.toNatClampNeg r) (by rw [mm_nat]; omega)).1; omega) (show (Gc_10 29 (Int32.toNatClampNeg z_6)).toInt < (Fc_10 15).toInt from by omega) (by rw [show Gc_10 25 = G 25 from ((hfr_10.2 25 (by decide)).trans rfl)]; exact (hW.2.1 (Int32.toNatClampNeg r) (by rw [mm_nat]; omega)).2.2) (by rw [show Gc_10 23 = G 23 from ((hfr_10.2 23 (by decide)).trans rfl)]; exact (hW.2.1 (Int32.toNatClampNeg r) (by rw [mm_nat]; omega)).2.1) (by rw [show Fc_10 = F from funext fun k => hfr_10.1 k (by simp)]; exact lTv_cg (fun k a b => hfr_10.2 k (fun z => by simp only [List.mem_cons, List.mem_nil_iff, or_false] at z; omega)) hW.2.2.1)) (cwV 3 hts g8_X6_workAll_X6_work_9 rfl rfl rfl (by decide +kernel) ⟨Nat.le_of_ble_eq_true rfl, Nat.le_of_ble_eq_true rfl⟩) rfl hl.1 rfl (Nat.le_of_ble_eq_true rfl) dX6_workAll_36 ⟨Nat.le_of_ble_eq_true rfl, Nat.le_of_ble_eq_true rfl⟩ (by decide) (by decide) (fun F_14 G_15 H locs fr_16 p_13 hM => ?_)
            replace p_13 : wkO Fc_10 Gc_10 r.toInt (Gc_10 29 (Int32.toNatClampNeg z_6)).toInt p1.toInt (G_15 45 (16 * Int32.toNatClampNeg r + Int32.toNatClampNeg (Gc_10 29 (Int32.toNatClampNeg z_6)))).toInt (G_15 46 (16 * Int32.toNatClampNeg r + Int32.toNatClampNeg (Gc_10 29 (Int32.toNatClampNeg z_6)))).toInt (G_15 47 (16 * Int32.toNatClampNeg r + Int32.toNatClampNeg (Gc_10 29 (Int32.toNatClampNeg z_6)))).toInt (G_15 48 (16 * Int32.toNatClampNeg r + Int32.toNatClampNeg (Gc_10 29 (Int32.toNatClampNeg z_6)))).toInt (G_15 49 (16 * Int32.toNatClampNeg r + Int32.toNatClampNeg (Gc_10 29 (Int32.toNatClampNeg z_6)))).toInt ∧ ∀ j : Nat, ¬ j = (16 * Int32.toNatClampNeg r + Int32.toNatClampNeg (Gc_10 29 (Int32.toNatClampNeg z_6))) → G_15 45 j = Gc_10 45 j ∧ G_15 46 j = Gc_10 46 j ∧ G_15 47 j = Gc_10 47 j ∧ G_15 48 j = Gc_10 48 j ∧ G_15 49 j = Gc_10 49 j := p_13
            have eF9 : Fc_10 = F := funext fun k => hfr_10.1 k (by simp)
            have ez9 : Int32.toNatClampNeg z_6 = 16 * Int32.toNatClampNeg r + Int32.toNatClampNeg i := by have h1 := mm_nat z_6; have h2 := mm_nat r; have h3 := mm_nat i; omega
            have er9 : ((Int32.toNatClampNeg r : Nat) : Int) = r.toInt := by rw [mm_nat]; omega
            rw [ez9, eF9] at p_13
            have hst9 := wkAll_step (d := p1.toInt) (r := Int32.toNatClampNeg r) (i := Int32.toNatClampNeg i) (Gc := Gc_10) (Gn := G_15) hW (fun k a b => hfr_10.2 k (fun z => by simp only [List.mem_cons, List.mem_nil_iff, or_false] at z; omega)) (fun k a b => fr_16.2 k (fun z => by simp only [List.mem_cons, List.mem_nil_iff, or_false] at z; omega)) p_13.2 (by rw [er9]; omega) (by have h3 := mm_nat i; omega) rfl (by rw [er9]; exact p_13.1) f10_3 f10_4
            refine mm_iinc (X := i.toInt) (v := 1) (lv2 := fun z => [(4, .int z), (0, .ref h0), (1, .int p0), (2, .int p1), (3, .int r)]) hx hb dX6_workAll_39 hl (k := 4) rfl rfl (by decide) num_1 (by omega) (by decide) (fun _ => rfl) (fun z_17 ls hz_17 hl => ?_)
            have hl : lv_has ls 5 [(4, .int z_17), (0, .ref h0), (1, .int p0), (2, .int p1), (3, .int r)] := hl
            refine lv_goto (tgt := 10) hx hb dX6_workAll_42 (by decide) ?_
            exact ih_10 _ _ _ F_14 G_15 z_17 (show (0 ≤ z_17.toInt ∧ z_17.toInt ≤ 16) from by omega) (show (0 ≤ r.toInt ∧ r.toInt ≤ 7) from by omega) (show r.toInt ≤ p0.toInt from by omega) (show (∀ u t : Nat, u < Int32.toNatClampNeg r → (t : Int) < (G 27 u).toInt → wkP F G_15 p1.toInt u t) from by exact hst9.1) (show (∀ t : Nat, t < Int32.toNatClampNeg z_17 → wkP F G_15 p1.toInt (Int32.toNatClampNeg r) t) from by rw [show Int32.toNatClampNeg z_17 = Int32.toNatClampNeg i + 1 from by have h1 := mm_nat z_17; have h2 := mm_nat i; omega]; exact hst9.2) (show (16 - z_17.toInt) < ((n_10 : Nat) : Int) from by omega) hM (lv_sub hl [1, 2, 3, 4, 0] rfl)
      refine lv_iload_n hx hb dX6_workAll_2 rfl (lv_at hl 3 rfl) ?_
      refine lv_iload_n hx hb dX6_workAll_3 rfl (lv_at hl 1 rfl) ?_
      refine mm_icmp_gt (X := r.toInt) (Y := p0.toInt) (tgt := 51) hx hb dX6_workAll_4 (by decide) rfl rfl (fun c_18 => ?_) (fun c_18 => ?_)
      · exact mr_rv E hr hlk hsz hM (show ∀ u t : Nat, (u : Int) ≤ p0.toInt → (t : Int) < (G 27 u).toInt → wkP F Gc_2 p1.toInt u t from by exact fun u t hu ht => f2_2 u t (by rw [mm_nat]; omega) ht) dX6_workAll_51
      · refine lv_iconst (v := 0) hx hb dX6_workAll_7 (by decide) ?_
        refine lv_istore (lv' := [(4, .int 0), (0, .ref h0), (1, .int p0), (2, .int p1), (3, .int r)]) hx hb dX6_workAll_8 hl (by decide) rfl (fun ls hl => ?_)
        exact B_10 4294967296 _ _ _ Fc_2 Gc_2 0 (show (0 ≤ (0 : Int32).toInt ∧ (0 : Int32).toInt ≤ 16) from by have n_0 := num_0; omega) (show (0 ≤ r.toInt ∧ r.toInt ≤ 7) from by have n_0 := num_0; omega) (show r.toInt ≤ p0.toInt from by have n_0 := num_0; omega) (show (∀ u t : Nat, u < Int32.toNatClampNeg r → (t : Int) < (G 27 u).toInt → wkP F Gc_2 p1.toInt u t) from by have n_0 := num_0; exact f2_2) (show (∀ t : Nat, t < Int32.toNatClampNeg (0 : Int32) → wkP F Gc_2 p1.toInt (Int32.toNatClampNeg r) t) from by have n_0 := num_0; exact fun t ht => absurd ht (by rw [show Int32.toNatClampNeg (0 : Int32) = 0 from by decide]; exact Nat.not_lt_zero _)) (show (16 - (0 : Int32).toInt) < ((4294967296 : Nat) : Int) from by have n_0 := num_0; omega) hM (lv_sub hl [1, 2, 3, 4, 0] rfl)
  refine lv_iconst (v := 0) hx hb dX6_workAll_0 (by decide) ?_
  refine lv_istore_n (lv' := [(3, .int 0), (0, .ref h0), (1, .int p0), (2, .int p1)]) hx hb dX6_workAll_1 rfl hl (by decide) rfl (fun ls hl => ?_)
  exact B_2 4294967296 _ _ _ F G 0 (show (0 ≤ (0 : Int32).toInt ∧ (0 : Int32).toInt ≤ 8) from by have n_0 := num_0; omega) (show (0 : Int32).toInt ≤ p0.toInt + 1 from by have n_0 := num_0; omega) (show (∀ u t : Nat, u < Int32.toNatClampNeg (0 : Int32) → (t : Int) < (G 27 u).toInt → wkP F G p1.toInt u t) from by have n_0 := num_0; exact fun u t hu => absurd hu (by rw [show Int32.toNatClampNeg (0 : Int32) = 0 from by decide]; exact Nat.not_lt_zero _)) (show (8 - (0 : Int32).toInt) < ((4294967296 : Nat) : Int) from by have n_0 := num_0; omega) hM (lv_sub hl [1, 2, 3, 0] rfl)
def w7X6_placed : List Cond := .code yX6_placed cX6_placed 8 (some .int) :: ([.fieldLink RX6 72 "SkiShotsModel" "rEntries" "[I", .fieldLink RX6 78 "SkiShotsModel" "entries" "[I", .fieldLink RX6 108 "SkiShotsModel" "low" "[I", .fieldLink RX6 111 "SkiShotsModel" "high" "[I"] ++ wsX60)
set_option maxHeartbeats 4000000 in
set_option maxRecDepth 100000 in
theorem g7_X6_placed (l : Launch) (D : va_G) (h0 : Nat) (q : Nat → Nat) (cq : Nat → ClassId) (F : Nat → Int32) (G : Nat → Nat → Int32) (sz : Nat) (p0 : Int32) (p1 : Int32) (p2 : Int32) (hI : mI F G) (k0 : 0 ≤ p0.toInt ∧ p0.toInt < 8) (k1 : 0 ≤ p1.toInt ∧ p1.toInt < 16) : Met l yX6_placed w7X6_placed ({ frames := 0, cells := 0, slots := 0, locals := 0 }) (mPre D h0 q cq F G sz [.ref h0, .int p0, .int p1, .int p2]) (mQi D h0 q cq F G sz [] [] (fun r F' G' => r.toInt = plN G p2.toInt (Int32.toNatClampNeg p0) (Int32.toNatClampNeg p1) (G 27 (Int32.toNatClampNeg p0)).toInt.toNat)) 0 0 (va_A (mW h0 q cq F G) sz) := by
  refine mr_met (WF := []) (WG := []) (cc := cX6_placed) (maxL := 8) (ret := (some .int)) (by decide) rfl rfl (by decide +kernel) (Nat.le_of_ble_eq_true rfl) hI ?_
  intro p e s m args below meth c ls E hml hr hlk hsz hA hM hl
  have hx := E.1
  have hb := E.2.1
  have hts := E.2.2.1
  have hown := E.2.2.2.2.1
  have hl : lv_has ls 8 [(0, .ref h0), (1, .int p0), (2, .int p1), (3, .int p2)] := hl
  have b27 : 0 ≤ (G 27 (Int32.toNatClampNeg p0)).toInt ∧ (G 27 (Int32.toNatClampNeg p0)).toInt ≤ 16 := hI.2.1 27 (0, 16) rfl _
  have B_12 : ∀ n_12 : Nat, ∀ (H : Heap) (locs : List Loc) (ls : Array Slot) (Fc_12 : Nat → Int32) (Gc_12 : Nat → Nat → Int32) (ad nn i : Int32), (0 ≤ i.toInt ∧ i.toInt ≤ 16) → (1 ≤ nn.toInt ∧ nn.toInt ≤ 17) → ad.toInt = 16 * p0.toInt → nn.toInt = plN G p2.toInt (Int32.toNatClampNeg p0) (Int32.toNatClampNeg p1) (Int32.toNatClampNeg i) → nn.toInt ≤ i.toInt + 1 → i.toInt ≤ (G 27 (Int32.toNatClampNeg p0)).toInt → (16 - i.toInt) < (n_12 : Int) → mQ D h0 q cq (va_A (mW h0 q cq F G) sz) s.heap [] [] F G H locs Fc_12 Gc_12 → lv_has ls 8 [(0, .ref h0), (1, .int p0), (2, .int p1), (3, .int p2), (4, .int ad), (5, .int nn), (6, .int i)] → W p l e ({ frames := 0, cells := 0, slots := 0, locals := 0 }) s m args below meth c H locs 0 0 (MQ below (mQi D h0 q cq F G sz [] [] (fun r F' G' => r.toInt = plN G p2.toInt (Int32.toNatClampNeg p0) (Int32.toNatClampNeg p1) (G 27 (Int32.toNatClampNeg p0)).toInt.toNat)) args s 0 0 (va_A (mW h0 q cq F G) sz)) (F0 m 12 ls []) := by
    intro n_12
    induction n_12 with
    | zero => intro H locs ls Fc_12 Gc_12 ad nn i f12_0 f12_1 f12_2 f12_3 f12_4 f12_5 hn hM hl; exact False.elim (by have hfr_12 := hM.fr; omega)
    | succ n_12 ih_12 =>
      intro H locs ls Fc_12 Gc_12 ad nn i f12_0 f12_1 f12_2 f12_3 f12_4 f12_5 hn hM hl
      have hfr_12 := hM.fr
      refine lv_iload hx hb dX6_placed_12 (lv_at hl 6 rfl) ?_
      refine lv_aload_n hx hb dX6_placed_14 rfl (lv_at hl 0 rfl) ?_
      refine mr_get (v := .ref (q 27)) E hM 27 (by decide) (index := 72) (mm_at 1 rfl) rfl rfl dX6_placed_15 ?_
      refine lv_iload_n hx hb dX6_placed_18 rfl (lv_at hl 1 rfl) ?_
      refine mr_ald (X := p0.toInt) E hM 20 19 rfl rfl rfl (by omega) dX6_placed_19 ?_
      have b_1 : 0 ≤ (Gc_12 27 (Int32.toNatClampNeg p0)).toInt ∧ (Gc_12 27 (Int32.toNatClampNeg p0)).toInt ≤ 16 := hM.ab 27 rfl _
      have gq_2 : (Gc_12 27 (Int32.toNatClampNeg p0)).toInt = (G 27 (Int32.toNatClampNeg p0)).toInt := congrArg Int32.toInt (congrFun ((hfr_12.2 27 (by decide)).trans rfl) _)
      refine mm_icmp_ge (X := i.toInt) (Y := (Gc_12 27 (Int32.toNatClampNeg p0)).toInt) (tgt := 124) hx hb dX6_placed_20 (by decide) rfl rfl (fun c_3 => ?_) (fun c_3 => ?_)
      · refine lv_iload hx hb dX6_placed_124 (lv_at hl 5 rfl) ?_
        exact mr_ri E hr hlk hsz hM (show nn.toInt = plN G p2.toInt (Int32.toNatClampNeg p0) (Int32.toNatClampNeg p1) (G 27 (Int32.toNatClampNeg p0)).toInt.toNat from by rw [show (G 27 (Int32.toNatClampNeg p0)).toInt.toNat = Int32.toNatClampNeg i from by have h2 := mm_nat i; omega]; exact f12_3) dX6_placed_126
      · refine lv_aload_n hx hb dX6_placed_23 rfl (lv_at hl 0 rfl) ?_
        refine mr_get (v := .ref (q 29)) E hM 29 (by decide) (index := 78) (mm_at 2 rfl) rfl rfl dX6_placed_24 ?_
        refine lv_iload hx hb dX6_placed_27 (lv_at hl 4 rfl) ?_
        refine lv_iload hx hb dX6_placed_29 (lv_at hl 6 rfl) ?_
        refine mm_iadd (X := ad.toInt) (Y := i.toInt) hx hb dX6_placed_31 rfl rfl (by omega) (fun z_4 hz_4 => ?_)
        have ex_5 : Int32.toNatClampNeg z_4 = (16 * Int32.toNatClampNeg p0 + Int32.toNatClampNeg i) := by have h0 := mm_nat z_4; have h1 := mm_nat p0; have h2 := mm_nat i; omega
        have ey_5 : (G 29 (Int32.toNatClampNeg z_4)).toInt = (G 29 (16 * Int32.toNatClampNeg p0 + Int32.toNatClampNeg i)).toInt := by rw [ex_5]
        refine mr_ald (X := z_4.toInt) E hM 22 21 rfl rfl rfl (by omega) dX6_placed_32 ?_
        have b_6 : 0 ≤ (Gc_12 29 (Int32.toNatClampNeg z_4)).toInt ∧ (Gc_12 29 (Int32.toNatClampNeg z_4)).toInt ≤ 15 := hM.ab 29 rfl _
        have gq_7 : (Gc_12 29 (Int32.toNatClampNeg z_4)).toInt = (G 29 (Int32.toNatClampNeg z_4)).toInt := congrArg Int32.toInt (congrFun ((hfr_12.2 29 (by decide)).trans rfl) _)
        refine lv_istore (lv' := [(7, .int (Gc_12 29 (Int32.toNatClampNeg z_4))), (0, .ref h0), (1, .int p0), (2, .int p1), (3, .int p2), (4, .int ad), (5, .int nn), (6, .int i)]) hx hb dX6_placed_33 hl (by decide) rfl (fun ls hl => ?_)
        refine lv_iload hx hb dX6_placed_35 (lv_at hl 0 rfl) ?_
        refine lv_iload_n hx hb dX6_placed_37 rfl (lv_at hl 3 rfl) ?_
        refine mm_icmp_eq (X := (Gc_12 29 (Int32.toNatClampNeg z_4)).toInt) (Y := p1.toInt) (tgt := 118) hx hb dX6_placed_38 (by decide) rfl rfl (fun c_8 => ?_) (fun c_8 => ?_)
        · refine mm_iinc (X := i.toInt) (v := 1) (lv2 := fun z => [(6, .int z), (7, .int (Gc_12 29 (Int32.toNatClampNeg z_4))), (0, .ref h0), (1, .int p0), (2, .int p1), (3, .int p2), (4, .int ad), (5, .int nn)]) hx hb dX6_placed_118 hl (k := 7) rfl rfl (by decide) num_1 (by omega) (by decide) (fun _ => rfl) (fun z_9 ls hz_9 hl => ?_)
          have hl : lv_has ls 8 [(6, .int z_9), (7, .int (Gc_12 29 (Int32.toNatClampNeg z_4))), (0, .ref h0), (1, .int p0), (2, .int p1), (3, .int p2), (4, .int ad), (5, .int nn)] := hl
          refine lv_goto (tgt := 12) hx hb dX6_placed_121 (by decide) ?_
          exact ih_12 _ _ _ Fc_12 Gc_12 ad nn z_9 (show (0 ≤ z_9.toInt ∧ z_9.toInt ≤ 16) from by omega) (show (1 ≤ nn.toInt ∧ nn.toInt ≤ 17) from by omega) (show ad.toInt = 16 * p0.toInt from by omega) (show nn.toInt = plN G p2.toInt (Int32.toNatClampNeg p0) (Int32.toNatClampNeg p1) (Int32.toNatClampNeg z_9) from by rw [show Int32.toNatClampNeg z_9 = Int32.toNatClampNeg i + 1 from by have h1 := mm_nat z_9; have h2 := mm_nat i; omega]; simp only [plN]; rw [← f12_3]; have h3 := mm_nat p1; split <;> omega) (show nn.toInt ≤ z_9.toInt + 1 from by omega) (show z_9.toInt ≤ (G 27 (Int32.toNatClampNeg p0)).toInt from by omega) (show (16 - z_9.toInt) < ((n_12 : Nat) : Int) from by omega) hM (lv_sub hl [2, 3, 4, 5, 6, 7, 0] rfl)
        · refine lv_aload_n hx hb dX6_placed_41 rfl (lv_at hl 1 rfl) ?_
          refine mr_get (v := .ref (q 46)) E hM 46 (by decide) (index := 108) (mm_at 3 rfl) rfl rfl dX6_placed_42 ?_
          refine lv_iload hx hb dX6_placed_45 (lv_at hl 5 rfl) ?_
          refine lv_iload hx hb dX6_placed_47 (lv_at hl 0 rfl) ?_
          refine mm_iadd (X := ad.toInt) (Y := (Gc_12 29 (Int32.toNatClampNeg z_4)).toInt) hx hb dX6_placed_49 rfl rfl (by omega) (fun z_10 hz_10 => ?_)
          have ex_11 : Int32.toNatClampNeg z_10 = (16 * Int32.toNatClampNeg p0 + (G 29 (16 * Int32.toNatClampNeg p0 + Int32.toNatClampNeg i)).toInt.toNat) := by have h0 := mm_nat z_10; have h1 := mm_nat p0; omega
          have ey_11 : (G 46 (Int32.toNatClampNeg z_10)).toInt = (G 46 (16 * Int32.toNatClampNeg p0 + (G 29 (16 * Int32.toNatClampNeg p0 + Int32.toNatClampNeg i)).toInt.toNat)).toInt := by rw [ex_11]
          refine mr_ald (X := z_10.toInt) E hM 32 31 rfl rfl rfl (by omega) dX6_placed_50 ?_
          have gq_12 : (Gc_12 46 (Int32.toNatClampNeg z_10)).toInt = (G 46 (Int32.toNatClampNeg z_10)).toInt := congrArg Int32.toInt (congrFun ((hfr_12.2 46 (by decide)).trans rfl) _)
          refine mm_if_ge (X := (Gc_12 46 (Int32.toNatClampNeg z_10)).toInt) (tgt := 57) hx hb dX6_placed_51 (by decide) rfl (fun c_13 => ?_) (fun c_13 => ?_)
          · refine lv_iload hx hb dX6_placed_57 (lv_at hl 6 rfl) ?_
            refine lv_iload_n hx hb dX6_placed_59 rfl (lv_at hl 4 rfl) ?_
            refine mm_if_eq (X := p2.toInt) (tgt := 88) hx hb dX6_placed_60 (by decide) rfl (fun c_14 => ?_) (fun c_14 => ?_)
            · refine lv_aload_n hx hb dX6_placed_88 rfl (lv_at hl 1 rfl) ?_
              refine mr_get (v := .ref (q 46)) E hM 46 (by decide) (index := 108) (mm_at 3 rfl) rfl rfl dX6_placed_89 ?_
              refine lv_iload hx hb dX6_placed_92 (lv_at hl 5 rfl) ?_
              refine lv_iload hx hb dX6_placed_94 (lv_at hl 0 rfl) ?_
              refine mm_iadd (X := ad.toInt) (Y := (Gc_12 29 (Int32.toNatClampNeg z_4)).toInt) hx hb dX6_placed_96 rfl rfl (by omega) (fun z_15 hz_15 => ?_)
              have ex_16 : Int32.toNatClampNeg z_15 = (16 * Int32.toNatClampNeg p0 + (G 29 (16 * Int32.toNatClampNeg p0 + Int32.toNatClampNeg i)).toInt.toNat) := by have h0 := mm_nat z_15; have h1 := mm_nat p0; omega
              have ey_16 : (G 46 (Int32.toNatClampNeg z_15)).toInt = (G 46 (16 * Int32.toNatClampNeg p0 + (G 29 (16 * Int32.toNatClampNeg p0 + Int32.toNatClampNeg i)).toInt.toNat)).toInt := by rw [ex_16]
              refine mr_ald (X := z_15.toInt) E hM 32 31 rfl rfl rfl (by omega) dX6_placed_97 ?_
              have gq_17 : (Gc_12 46 (Int32.toNatClampNeg z_15)).toInt = (G 46 (Int32.toNatClampNeg z_15)).toInt := congrArg Int32.toInt (congrFun ((hfr_12.2 46 (by decide)).trans rfl) _)
              refine lv_aload_n hx hb dX6_placed_98 rfl (lv_at hl 1 rfl) ?_
              refine mr_get (v := .ref (q 47)) E hM 47 (by decide) (index := 111) (mm_at 4 rfl) rfl rfl dX6_placed_99 ?_
              refine lv_iload hx hb dX6_placed_102 (lv_at hl 5 rfl) ?_
              refine lv_iload_n hx hb dX6_placed_104 rfl (lv_at hl 3 rfl) ?_
              refine mm_iadd (X := ad.toInt) (Y := p1.toInt) hx hb dX6_placed_105 rfl rfl (by omega) (fun z_18 hz_18 => ?_)
              have ex_19 : Int32.toNatClampNeg z_18 = (16 * Int32.toNatClampNeg p0 + Int32.toNatClampNeg p1) := by have h0 := mm_nat z_18; have h1 := mm_nat p0; have h2 := mm_nat p1; omega
              have ey_19 : (G 47 (Int32.toNatClampNeg z_18)).toInt = (G 47 (16 * Int32.toNatClampNeg p0 + Int32.toNatClampNeg p1)).toInt := by rw [ex_19]
              refine mr_ald (X := z_18.toInt) E hM 33 32 rfl rfl rfl (by omega) dX6_placed_106 ?_
              have gq_20 : (Gc_12 47 (Int32.toNatClampNeg z_18)).toInt = (G 47 (Int32.toNatClampNeg z_18)).toInt := congrArg Int32.toInt (congrFun ((hfr_12.2 47 (by decide)).trans rfl) _)
              refine mm_icmp_ge (X := (Gc_12 46 (Int32.toNatClampNeg z_15)).toInt) (Y := (Gc_12 47 (Int32.toNatClampNeg z_18)).toInt) (tgt := 114) hx hb dX6_placed_107 (by decide) rfl rfl (fun c_21 => ?_) (fun c_21 => ?_)
              · refine lv_iconst (v := 0) hx hb dX6_placed_114 (by decide) ?_
                refine mm_iadd (X := nn.toInt) (Y := 0) hx hb dX6_placed_115 rfl num_0 (by omega) (fun z_22 hz_22 => ?_)
                refine lv_istore (lv' := [(5, .int z_22), (7, .int (Gc_12 29 (Int32.toNatClampNeg z_4))), (0, .ref h0), (1, .int p0), (2, .int p1), (3, .int p2), (4, .int ad), (6, .int i)]) hx hb dX6_placed_116 hl (by decide) rfl (fun ls hl => ?_)
                refine mm_iinc (X := i.toInt) (v := 1) (lv2 := fun z => [(6, .int z), (5, .int z_22), (7, .int (Gc_12 29 (Int32.toNatClampNeg z_4))), (0, .ref h0), (1, .int p0), (2, .int p1), (3, .int p2), (4, .int ad)]) hx hb dX6_placed_118 hl (k := 7) rfl rfl (by decide) num_1 (by omega) (by decide) (fun _ => rfl) (fun z_23 ls hz_23 hl => ?_)
                have hl : lv_has ls 8 [(6, .int z_23), (5, .int z_22), (7, .int (Gc_12 29 (Int32.toNatClampNeg z_4))), (0, .ref h0), (1, .int p0), (2, .int p1), (3, .int p2), (4, .int ad)] := hl
                refine lv_goto (tgt := 12) hx hb dX6_placed_121 (by decide) ?_
                exact ih_12 _ _ _ Fc_12 Gc_12 ad z_22 z_23 (show (0 ≤ z_23.toInt ∧ z_23.toInt ≤ 16) from by omega) (show (1 ≤ z_22.toInt ∧ z_22.toInt ≤ 17) from by omega) (show ad.toInt = 16 * p0.toInt from by omega) (show z_22.toInt = plN G p2.toInt (Int32.toNatClampNeg p0) (Int32.toNatClampNeg p1) (Int32.toNatClampNeg z_23) from by rw [show Int32.toNatClampNeg z_23 = Int32.toNatClampNeg i + 1 from by have h1 := mm_nat z_23; have h2 := mm_nat i; omega]; simp only [plN]; rw [← f12_3]; have h3 := mm_nat p1; split <;> omega) (show z_22.toInt ≤ z_23.toInt + 1 from by omega) (show z_23.toInt ≤ (G 27 (Int32.toNatClampNeg p0)).toInt from by omega) (show (16 - z_23.toInt) < ((n_12 : Nat) : Int) from by omega) hM (lv_sub hl [3, 4, 5, 6, 7, 1, 0] rfl)
              · refine lv_iconst (v := 1) hx hb dX6_placed_110 (by decide) ?_
                refine lv_goto (tgt := 115) hx hb dX6_placed_111 (by decide) ?_
                refine mm_iadd (X := nn.toInt) (Y := 1) hx hb dX6_placed_115 rfl num_1 (by omega) (fun z_24 hz_24 => ?_)
                refine lv_istore (lv' := [(5, .int z_24), (7, .int (Gc_12 29 (Int32.toNatClampNeg z_4))), (0, .ref h0), (1, .int p0), (2, .int p1), (3, .int p2), (4, .int ad), (6, .int i)]) hx hb dX6_placed_116 hl (by decide) rfl (fun ls hl => ?_)
                refine mm_iinc (X := i.toInt) (v := 1) (lv2 := fun z => [(6, .int z), (5, .int z_24), (7, .int (Gc_12 29 (Int32.toNatClampNeg z_4))), (0, .ref h0), (1, .int p0), (2, .int p1), (3, .int p2), (4, .int ad)]) hx hb dX6_placed_118 hl (k := 7) rfl rfl (by decide) num_1 (by omega) (by decide) (fun _ => rfl) (fun z_25 ls hz_25 hl => ?_)
                have hl : lv_has ls 8 [(6, .int z_25), (5, .int z_24), (7, .int (Gc_12 29 (Int32.toNatClampNeg z_4))), (0, .ref h0), (1, .int p0), (2, .int p1), (3, .int p2), (4, .int ad)] := hl
                refine lv_goto (tgt := 12) hx hb dX6_placed_121 (by decide) ?_
                exact ih_12 _ _ _ Fc_12 Gc_12 ad z_24 z_25 (show (0 ≤ z_25.toInt ∧ z_25.toInt ≤ 16) from by omega) (show (1 ≤ z_24.toInt ∧ z_24.toInt ≤ 17) from by omega) (show ad.toInt = 16 * p0.toInt from by omega) (show z_24.toInt = plN G p2.toInt (Int32.toNatClampNeg p0) (Int32.toNatClampNeg p1) (Int32.toNatClampNeg z_25) from by rw [show Int32.toNatClampNeg z_25 = Int32.toNatClampNeg i + 1 from by have h1 := mm_nat z_25; have h2 := mm_nat i; omega]; simp only [plN]; rw [← f12_3]; have h3 := mm_nat p1; split <;> omega) (show z_24.toInt ≤ z_25.toInt + 1 from by omega) (show z_25.toInt ≤ (G 27 (Int32.toNatClampNeg p0)).toInt from by omega) (show (16 - z_25.toInt) < ((n_12 : Nat) : Int) from by omega) hM (lv_sub hl [3, 4, 5, 6, 7, 1, 0] rfl)
            · refine lv_aload_n hx hb dX6_placed_63 rfl (lv_at hl 1 rfl) ?_
              refine mr_get (v := .ref (q 47)) E hM 47 (by decide) (index := 111) (mm_at 4 rfl) rfl rfl dX6_placed_64 ?_
              refine lv_iload hx hb dX6_placed_67 (lv_at hl 5 rfl) ?_
              refine lv_iload hx hb dX6_placed_69 (lv_at hl 0 rfl) ?_
              refine mm_iadd (X := ad.toInt) (Y := (Gc_12 29 (Int32.toNatClampNeg z_4)).toInt) hx hb dX6_placed_71 rfl rfl (by omega) (fun z_26 hz_26 => ?_)
              have ex_27 : Int32.toNatClampNeg z_26 = (16 * Int32.toNatClampNeg p0 + (G 29 (16 * Int32.toNatClampNeg p0 + Int32.toNatClampNeg i)).toInt.toNat) := by have h0 := mm_nat z_26; have h1 := mm_nat p0; omega
              have ey_27 : (G 47 (Int32.toNatClampNeg z_26)).toInt = (G 47 (16 * Int32.toNatClampNeg p0 + (G 29 (16 * Int32.toNatClampNeg p0 + Int32.toNatClampNeg i)).toInt.toNat)).toInt := by rw [ex_27]
              refine mr_ald (X := z_26.toInt) E hM 33 32 rfl rfl rfl (by omega) dX6_placed_72 ?_
              have gq_28 : (Gc_12 47 (Int32.toNatClampNeg z_26)).toInt = (G 47 (Int32.toNatClampNeg z_26)).toInt := congrArg Int32.toInt (congrFun ((hfr_12.2 47 (by decide)).trans rfl) _)
              refine lv_aload_n hx hb dX6_placed_73 rfl (lv_at hl 1 rfl) ?_
              refine mr_get (v := .ref (q 46)) E hM 46 (by decide) (index := 108) (mm_at 3 rfl) rfl rfl dX6_placed_74 ?_
              refine lv_iload hx hb dX6_placed_77 (lv_at hl 5 rfl) ?_
              refine lv_iload_n hx hb dX6_placed_79 rfl (lv_at hl 3 rfl) ?_
              refine mm_iadd (X := ad.toInt) (Y := p1.toInt) hx hb dX6_placed_80 rfl rfl (by omega) (fun z_29 hz_29 => ?_)
              have ex_30 : Int32.toNatClampNeg z_29 = (16 * Int32.toNatClampNeg p0 + Int32.toNatClampNeg p1) := by have h0 := mm_nat z_29; have h1 := mm_nat p0; have h2 := mm_nat p1; omega
              have ey_30 : (G 46 (Int32.toNatClampNeg z_29)).toInt = (G 46 (16 * Int32.toNatClampNeg p0 + Int32.toNatClampNeg p1)).toInt := by rw [ex_30]
              refine mr_ald (X := z_29.toInt) E hM 32 31 rfl rfl rfl (by omega) dX6_placed_81 ?_
              have gq_31 : (Gc_12 46 (Int32.toNatClampNeg z_29)).toInt = (G 46 (Int32.toNatClampNeg z_29)).toInt := congrArg Int32.toInt (congrFun ((hfr_12.2 46 (by decide)).trans rfl) _)
              refine mm_icmp_ge (X := (Gc_12 47 (Int32.toNatClampNeg z_26)).toInt) (Y := (Gc_12 46 (Int32.toNatClampNeg z_29)).toInt) (tgt := 114) hx hb dX6_placed_82 (by decide) rfl rfl (fun c_32 => ?_) (fun c_32 => ?_)
              · refine lv_iconst (v := 0) hx hb dX6_placed_114 (by decide) ?_
                refine mm_iadd (X := nn.toInt) (Y := 0) hx hb dX6_placed_115 rfl num_0 (by omega) (fun z_33 hz_33 => ?_)
                refine lv_istore (lv' := [(5, .int z_33), (7, .int (Gc_12 29 (Int32.toNatClampNeg z_4))), (0, .ref h0), (1, .int p0), (2, .int p1), (3, .int p2), (4, .int ad), (6, .int i)]) hx hb dX6_placed_116 hl (by decide) rfl (fun ls hl => ?_)
                refine mm_iinc (X := i.toInt) (v := 1) (lv2 := fun z => [(6, .int z), (5, .int z_33), (7, .int (Gc_12 29 (Int32.toNatClampNeg z_4))), (0, .ref h0), (1, .int p0), (2, .int p1), (3, .int p2), (4, .int ad)]) hx hb dX6_placed_118 hl (k := 7) rfl rfl (by decide) num_1 (by omega) (by decide) (fun _ => rfl) (fun z_34 ls hz_34 hl => ?_)
                have hl : lv_has ls 8 [(6, .int z_34), (5, .int z_33), (7, .int (Gc_12 29 (Int32.toNatClampNeg z_4))), (0, .ref h0), (1, .int p0), (2, .int p1), (3, .int p2), (4, .int ad)] := hl
                refine lv_goto (tgt := 12) hx hb dX6_placed_121 (by decide) ?_
                exact ih_12 _ _ _ Fc_12 Gc_12 ad z_33 z_34 (show (0 ≤ z_34.toInt ∧ z_34.toInt ≤ 16) from by omega) (show (1 ≤ z_33.toInt ∧ z_33.toInt ≤ 17) from by omega) (show ad.toInt = 16 * p0.toInt from by omega) (show z_33.toInt = plN G p2.toInt (Int32.toNatClampNeg p0) (Int32.toNatClampNeg p1) (Int32.toNatClampNeg z_34) from by rw [show Int32.toNatClampNeg z_34 = Int32.toNatClampNeg i + 1 from by have h1 := mm_nat z_34; have h2 := mm_nat i; omega]; simp only [plN]; rw [← f12_3]; have h3 := mm_nat p1; split <;> omega) (show z_33.toInt ≤ z_34.toInt + 1 from by omega) (show z_34.toInt ≤ (G 27 (Int32.toNatClampNeg p0)).toInt from by omega) (show (16 - z_34.toInt) < ((n_12 : Nat) : Int) from by omega) hM (lv_sub hl [3, 4, 5, 6, 7, 1, 0] rfl)
              · refine lv_goto (tgt := 110) hx hb dX6_placed_85 (by decide) ?_
                refine lv_iconst (v := 1) hx hb dX6_placed_110 (by decide) ?_
                refine lv_goto (tgt := 115) hx hb dX6_placed_111 (by decide) ?_
                refine mm_iadd (X := nn.toInt) (Y := 1) hx hb dX6_placed_115 rfl num_1 (by omega) (fun z_35 hz_35 => ?_)
                refine lv_istore (lv' := [(5, .int z_35), (7, .int (Gc_12 29 (Int32.toNatClampNeg z_4))), (0, .ref h0), (1, .int p0), (2, .int p1), (3, .int p2), (4, .int ad), (6, .int i)]) hx hb dX6_placed_116 hl (by decide) rfl (fun ls hl => ?_)
                refine mm_iinc (X := i.toInt) (v := 1) (lv2 := fun z => [(6, .int z), (5, .int z_35), (7, .int (Gc_12 29 (Int32.toNatClampNeg z_4))), (0, .ref h0), (1, .int p0), (2, .int p1), (3, .int p2), (4, .int ad)]) hx hb dX6_placed_118 hl (k := 7) rfl rfl (by decide) num_1 (by omega) (by decide) (fun _ => rfl) (fun z_36 ls hz_36 hl => ?_)
                have hl : lv_has ls 8 [(6, .int z_36), (5, .int z_35), (7, .int (Gc_12 29 (Int32.toNatClampNeg z_4))), (0, .ref h0), (1, .int p0), (2, .int p1), (3, .int p2), (4, .int ad)] := hl
                refine lv_goto (tgt := 12) hx hb dX6_placed_121 (by decide) ?_
                exact ih_12 _ _ _ Fc_12 Gc_12 ad z_35 z_36 (show (0 ≤ z_36.toInt ∧ z_36.toInt ≤ 16) from by omega) (show (1 ≤ z_35.toInt ∧ z_35.toInt ≤ 17) from by omega) (show ad.toInt = 16 * p0.toInt from by omega) (show z_35.toInt = plN G p2.toInt (Int32.toNatClampNeg p0) (Int32.toNatClampNeg p1) (Int32.toNatClampNeg z_36) from by rw [show Int32.toNatClampNeg z_36 = Int32.toNatClampNeg i + 1 from by have h1 := mm_nat z_36; have h2 := mm_nat i; omega]; simp only [plN]; rw [← f12_3]; have h3 := mm_nat p1; split <;> omega) (show z_35.toInt ≤ z_36.toInt + 1 from by omega) (show z_36.toInt ≤ (G 27 (Int32.toNatClampNeg p0)).toInt from by omega) (show (16 - z_36.toInt) < ((n_12 : Nat) : Int) from by omega) hM (lv_sub hl [3, 4, 5, 6, 7, 1, 0] rfl)
          · refine lv_goto (tgt := 118) hx hb dX6_placed_54 (by decide) ?_
            refine mm_iinc (X := i.toInt) (v := 1) (lv2 := fun z => [(6, .int z), (7, .int (Gc_12 29 (Int32.toNatClampNeg z_4))), (0, .ref h0), (1, .int p0), (2, .int p1), (3, .int p2), (4, .int ad), (5, .int nn)]) hx hb dX6_placed_118 hl (k := 7) rfl rfl (by decide) num_1 (by omega) (by decide) (fun _ => rfl) (fun z_37 ls hz_37 hl => ?_)
            have hl : lv_has ls 8 [(6, .int z_37), (7, .int (Gc_12 29 (Int32.toNatClampNeg z_4))), (0, .ref h0), (1, .int p0), (2, .int p1), (3, .int p2), (4, .int ad), (5, .int nn)] := hl
            refine lv_goto (tgt := 12) hx hb dX6_placed_121 (by decide) ?_
            exact ih_12 _ _ _ Fc_12 Gc_12 ad nn z_37 (show (0 ≤ z_37.toInt ∧ z_37.toInt ≤ 16) from by omega) (show (1 ≤ nn.toInt ∧ nn.toInt ≤ 17) from by omega) (show ad.toInt = 16 * p0.toInt from by omega) (show nn.toInt = plN G p2.toInt (Int32.toNatClampNeg p0) (Int32.toNatClampNeg p1) (Int32.toNatClampNeg z_37) from by rw [show Int32.toNatClampNeg z_37 = Int32.toNatClampNeg i + 1 from by have h1 := mm_nat z_37; have h2 := mm_nat i; omega]; simp only [plN]; rw [← f12_3]; have h3 := mm_nat p1; split <;> omega) (show nn.toInt ≤ z_37.toInt + 1 from by omega) (show z_37.toInt ≤ (G 27 (Int32.toNatClampNeg p0)).toInt from by omega) (show (16 - z_37.toInt) < ((n_12 : Nat) : Int) from by omega) hM (lv_sub hl [2, 3, 4, 5, 6, 7, 0] rfl)
  refine lv_bipush (v := 16) hx hb dX6_placed_0 (by decide) ?_
  refine lv_iload_n hx hb dX6_placed_2 rfl (lv_at hl 1 rfl) ?_
  refine mm_imul (X := 16) (Y := p0.toInt) hx hb dX6_placed_3 num_16 rfl (by omega) (fun z_38 hz_38 => ?_)
  refine lv_istore (lv' := [(4, .int z_38), (0, .ref h0), (1, .int p0), (2, .int p1), (3, .int p2)]) hx hb dX6_placed_4 hl (by decide) rfl (fun ls hl => ?_)
  refine lv_iconst (v := 1) hx hb dX6_placed_6 (by decide) ?_
  refine lv_istore (lv' := [(5, .int 1), (4, .int z_38), (0, .ref h0), (1, .int p0), (2, .int p1), (3, .int p2)]) hx hb dX6_placed_7 hl (by decide) rfl (fun ls hl => ?_)
  refine lv_iconst (v := 0) hx hb dX6_placed_9 (by decide) ?_
  refine lv_istore (lv' := [(6, .int 0), (5, .int 1), (4, .int z_38), (0, .ref h0), (1, .int p0), (2, .int p1), (3, .int p2)]) hx hb dX6_placed_10 hl (by decide) rfl (fun ls hl => ?_)
  exact B_12 4294967296 _ _ _ F G z_38 1 0 (show (0 ≤ (0 : Int32).toInt ∧ (0 : Int32).toInt ≤ 16) from by have n_1 := num_1; have n_2 := num_0; omega) (show (1 ≤ (1 : Int32).toInt ∧ (1 : Int32).toInt ≤ 17) from by have n_1 := num_1; have n_2 := num_0; omega) (show z_38.toInt = 16 * p0.toInt from by have n_1 := num_1; have n_2 := num_0; omega) (show (1 : Int32).toInt = plN G p2.toInt (Int32.toNatClampNeg p0) (Int32.toNatClampNeg p1) (Int32.toNatClampNeg (0 : Int32)) from by have n_1 := num_1; have n_2 := num_0; rw [show Int32.toNatClampNeg (0 : Int32) = 0 from by decide]; exact num_1) (show (1 : Int32).toInt ≤ (0 : Int32).toInt + 1 from by have n_1 := num_1; have n_2 := num_0; omega) (show (0 : Int32).toInt ≤ (G 27 (Int32.toNatClampNeg p0)).toInt from by have n_1 := num_1; have n_2 := num_0; omega) (show (16 - (0 : Int32).toInt) < ((4294967296 : Nat) : Int) from by have n_1 := num_1; have n_2 := num_0; omega) hM (lv_sub hl [3, 4, 5, 6, 2, 1, 0] rfl)
