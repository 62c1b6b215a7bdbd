def w7X6_stands : List Cond := .code yX6_stands cX6_stands 4 (some .int) :: ([.fieldLink RX6 197 "SkiShotsModel" "racers" "I", .fieldLink RX6 123 "SkiShotsModel" "sums" "[I"] ++ wsX60)
set_option maxHeartbeats 4000000 in
set_option maxRecDepth 100000 in
theorem g7_X6_stands (l : Launch) (D : va_G) (h0 : Nat) (q : Nat → Nat) (cq : Nat → ClassId) (F : Nat → Int32) (G : Nat → Nat → Int32) (sz : Nat) (p0 : Int32) (hI : mI F G) (k0 : 0 ≤ p0.toInt ∧ p0.toInt < 16) : Met l yX6_stands w7X6_stands ({ frames := 0, cells := 0, slots := 0, locals := 0 }) (mPre D h0 q cq F G sz [.ref h0, .int p0]) (mQi D h0 q cq F G sz [] [] (fun r F' G' => r.toInt = stF (fun j => (G 51 j).toInt) (G 51 (Int32.toNatClampNeg p0)).toInt (Int32.toNatClampNeg (F 15)))) 0 0 (va_A (mW h0 q cq F G) sz) := by
  refine mr_met (WF := []) (WG := []) (cc := cX6_stands) (maxL := 4) (ret := (some .int)) (by decide) rfl rfl (by decide +kernel) (Nat.le_of_ble_eq_true rfl) hI ?_
  intro p e s m args below meth c ls E hml hr hlk hsz hA hM hl
  have hx := E.1
  have hb := E.2.1
  have hts := E.2.2.1
  have hown := E.2.2.2.2.1
  have hl : lv_has ls 4 [(0, .ref h0), (1, .int p0)] := hl
  have b15 : 0 ≤ (F 15).toInt ∧ (F 15).toInt ≤ 16 := hI.1 15 (0, 16) rfl
  have B_4 : ∀ n_4 : Nat, ∀ (H : Heap) (locs : List Loc) (ls : Array Slot) (Fc_4 : Nat → Int32) (Gc_4 : Nat → Nat → Int32) (nn w : Int32), (0 ≤ w.toInt ∧ w.toInt ≤ 16) → (1 ≤ nn.toInt ∧ nn.toInt ≤ 17) → w.toInt ≤ (F 15).toInt → nn.toInt ≤ w.toInt + 1 → nn.toInt = stF (fun j => (G 51 j).toInt) (G 51 (Int32.toNatClampNeg p0)).toInt (Int32.toNatClampNeg w) → (16 - w.toInt) < (n_4 : Int) → mQ D h0 q cq (va_A (mW h0 q cq F G) sz) s.heap [] [] F G H locs Fc_4 Gc_4 → lv_has ls 4 [(0, .ref h0), (1, .int p0), (2, .int nn), (3, .int w)] → W p l e ({ frames := 0, cells := 0, slots := 0, locals := 0 }) s m args below meth c H locs 0 0 (MQ below (mQi D h0 q cq F G sz [] [] (fun r F' G' => r.toInt = stF (fun j => (G 51 j).toInt) (G 51 (Int32.toNatClampNeg p0)).toInt (Int32.toNatClampNeg (F 15)))) args s 0 0 (va_A (mW h0 q cq F G) sz)) (F0 m 4 ls []) := by
    intro n_4
    induction n_4 with
    | zero => intro H locs ls Fc_4 Gc_4 nn w f4_0 f4_1 f4_2 f4_3 f4_4 hn hM hl; exact False.elim (by have hfr_4 := hM.fr; omega)
    | succ n_4 ih_4 =>
      intro H locs ls Fc_4 Gc_4 nn w f4_0 f4_1 f4_2 f4_3 f4_4 hn hM hl
      have hfr_4 := hM.fr
      refine lv_iload_n hx hb dX6_stands_4 rfl (lv_at hl 3 rfl) ?_
      refine lv_aload_n hx hb dX6_stands_5 rfl (lv_at hl 0 rfl) ?_
      have b_1 : 0 ≤ (Fc_4 15).toInt ∧ (Fc_4 15).toInt ≤ 16 := hM.fb 15 rfl
      have e_2 : (Fc_4 15).toInt = (F 15).toInt := (congrArg Int32.toInt (hfr_4.1 15 (by decide))).trans rfl
      refine mr_get (v := .int (Fc_4 15)) E hM 15 (by decide) (index := 197) (mm_at 1 rfl) rfl rfl dX6_stands_6 ?_
      refine mm_icmp_ge (X := w.toInt) (Y := (Fc_4 15).toInt) (tgt := 41) hx hb dX6_stands_9 (by decide) rfl rfl (fun c_3 => ?_) (fun c_3 => ?_)
      · refine lv_iload_n hx hb dX6_stands_41 rfl (lv_at hl 2 rfl) ?_
        exact mr_ri E hr hlk hsz hM (show nn.toInt = stF (fun j => (G 51 j).toInt) (G 51 (Int32.toNatClampNeg p0)).toInt (Int32.toNatClampNeg (F 15)) from by rw [show Int32.toNatClampNeg (F 15) = Int32.toNatClampNeg w from by have h1 := mm_nat (F 15); have h2 := mm_nat w; omega]; exact f4_4) dX6_stands_42
      · refine lv_iload_n hx hb dX6_stands_12 rfl (lv_at hl 2 rfl) ?_
        refine lv_aload_n hx hb dX6_stands_13 rfl (lv_at hl 0 rfl) ?_
        refine mr_get (v := .ref (q 51)) E hM 51 (by decide) (index := 123) (mm_at 2 rfl) rfl rfl dX6_stands_14 ?_
        refine lv_iload_n hx hb dX6_stands_17 rfl (lv_at hl 3 rfl) ?_
        refine mr_ald (X := w.toInt) E hM 37 36 rfl rfl rfl (by omega) dX6_stands_18 ?_
        have gq_4 : (Gc_4 51 (Int32.toNatClampNeg w)).toInt = (G 51 (Int32.toNatClampNeg w)).toInt := congrArg Int32.toInt (congrFun ((hfr_4.2 51 (by decide)).trans rfl) _)
        refine lv_aload_n hx hb dX6_stands_19 rfl (lv_at hl 0 rfl) ?_
        refine mr_get (v := .ref (q 51)) E hM 51 (by decide) (index := 123) (mm_at 2 rfl) rfl rfl dX6_stands_20 ?_
        refine lv_iload_n hx hb dX6_stands_23 rfl (lv_at hl 1 rfl) ?_
        refine mr_ald (X := p0.toInt) E hM 37 36 rfl rfl rfl (by omega) dX6_stands_24 ?_
        have gq_5 : (Gc_4 51 (Int32.toNatClampNeg p0)).toInt = (G 51 (Int32.toNatClampNeg p0)).toInt := congrArg Int32.toInt (congrFun ((hfr_4.2 51 (by decide)).trans rfl) _)
        refine mm_icmp_le (X := (Gc_4 51 (Int32.toNatClampNeg w)).toInt) (Y := (Gc_4 51 (Int32.toNatClampNeg p0)).toInt) (tgt := 32) hx hb dX6_stands_25 (by decide) rfl rfl (fun c_6 => ?_) (fun c_6 => ?_)
        · refine lv_iconst (v := 0) hx hb dX6_stands_32 (by decide) ?_
          refine mm_iadd (X := nn.toInt) (Y := 0) hx hb dX6_stands_33 rfl num_0 (by omega) (fun z_7 hz_7 => ?_)
          refine lv_istore_n (lv' := [(2, .int z_7), (0, .ref h0), (1, .int p0), (3, .int w)]) hx hb dX6_stands_34 rfl hl (by decide) rfl (fun ls hl => ?_)
          refine mm_iinc (X := w.toInt) (v := 1) (lv2 := fun z => [(3, .int z), (2, .int z_7), (0, .ref h0), (1, .int p0)]) hx hb dX6_stands_35 hl (k := 3) rfl rfl (by decide) num_1 (by omega) (by decide) (fun _ => rfl) (fun z_8 ls hz_8 hl => ?_)
          have hl : lv_has ls 4 [(3, .int z_8), (2, .int z_7), (0, .ref h0), (1, .int p0)] := hl
          refine lv_goto (tgt := 4) hx hb dX6_stands_38 (by decide) ?_
          exact ih_4 _ _ _ Fc_4 Gc_4 z_7 z_8 (show (0 ≤ z_8.toInt ∧ z_8.toInt ≤ 16) from by omega) (show (1 ≤ z_7.toInt ∧ z_7.toInt ≤ 17) from by omega) (show z_8.toInt ≤ (F 15).toInt from by omega) (show z_7.toInt ≤ z_8.toInt + 1 from by omega) (show z_7.toInt = stF (fun j => (G 51 j).toInt) (G 51 (Int32.toNatClampNeg p0)).toInt (Int32.toNatClampNeg z_8) from by rw [show Int32.toNatClampNeg z_8 = Int32.toNatClampNeg w + 1 from by have h1 := mm_nat z_8; have h2 := mm_nat w; omega]; show _ = stF _ _ (Int32.toNatClampNeg w) + (if (G 51 (Int32.toNatClampNeg w)).toInt > (G 51 (Int32.toNatClampNeg p0)).toInt then 1 else 0); rw [← f4_4]; split <;> omega) (show (16 - z_8.toInt) < ((n_4 : Nat) : Int) from by omega) hM (lv_sub hl [2, 3, 1, 0] rfl)
        · refine lv_iconst (v := 1) hx hb dX6_stands_28 (by decide) ?_
          refine lv_goto (tgt := 33) hx hb dX6_stands_29 (by decide) ?_
          refine mm_iadd (X := nn.toInt) (Y := 1) hx hb dX6_stands_33 rfl num_1 (by omega) (fun z_9 hz_9 => ?_)
          refine lv_istore_n (lv' := [(2, .int z_9), (0, .ref h0), (1, .int p0), (3, .int w)]) hx hb dX6_stands_34 rfl hl (by decide) rfl (fun ls hl => ?_)
          refine mm_iinc (X := w.toInt) (v := 1) (lv2 := fun z => [(3, .int z), (2, .int z_9), (0, .ref h0), (1, .int p0)]) hx hb dX6_stands_35 hl (k := 3) rfl rfl (by decide) num_1 (by omega) (by decide) (fun _ => rfl) (fun z_10 ls hz_10 hl => ?_)
          have hl : lv_has ls 4 [(3, .int z_10), (2, .int z_9), (0, .ref h0), (1, .int p0)] := hl
          refine lv_goto (tgt := 4) hx hb dX6_stands_38 (by decide) ?_
          exact ih_4 _ _ _ Fc_4 Gc_4 z_9 z_10 (show (0 ≤ z_10.toInt ∧ z_10.toInt ≤ 16) from by omega) (show (1 ≤ z_9.toInt ∧ z_9.toInt ≤ 17) from by omega) (show z_10.toInt ≤ (F 15).toInt from by omega) (show z_9.toInt ≤ z_10.toInt + 1 from by omega) (show z_9.toInt = stF (fun j => (G 51 j).toInt) (G 51 (Int32.toNatClampNeg p0)).toInt (Int32.toNatClampNeg z_10) from by rw [show Int32.toNatClampNeg z_10 = Int32.toNatClampNeg w + 1 from by have h1 := mm_nat z_10; have h2 := mm_nat w; omega]; show _ = stF _ _ (Int32.toNatClampNeg w) + (if (G 51 (Int32.toNatClampNeg w)).toInt > (G 51 (Int32.toNatClampNeg p0)).toInt then 1 else 0); rw [← f4_4]; split <;> omega) (show (16 - z_10.toInt) < ((n_4 : Nat) : Int) from by omega) hM (lv_sub hl [2, 3, 1, 0] rfl)
  refine lv_iconst (v := 1) hx hb dX6_stands_0 (by decide) ?_
  refine lv_istore_n (lv' := [(2, .int 1), (0, .ref h0), (1, .int p0)]) hx hb dX6_stands_1 rfl hl (by decide) rfl (fun ls hl => ?_)
  refine lv_iconst (v := 0) hx hb dX6_stands_2 (by decide) ?_
  refine lv_istore_n (lv' := [(3, .int 0), (2, .int 1), (0, .ref h0), (1, .int p0)]) hx hb dX6_stands_3 rfl hl (by decide) rfl (fun ls hl => ?_)
  have b_11 : 0 ≤ (F 15).toInt ∧ (F 15).toInt ≤ 16 := hM.fb 15 rfl
  exact B_4 4294967296 _ _ _ F G 1 0 (show (0 ≤ (0 : Int32).toInt ∧ (0 : Int32).toInt ≤ 16) from by have n_0 := num_1; have n_1 := num_0; omega) (show (1 ≤ (1 : Int32).toInt ∧ (1 : Int32).toInt ≤ 17) from by have n_0 := num_1; have n_1 := num_0; omega) (show (0 : Int32).toInt ≤ (F 15).toInt from by have n_0 := num_1; have n_1 := num_0; omega) (show (1 : Int32).toInt ≤ (0 : Int32).toInt + 1 from by have n_0 := num_1; have n_1 := num_0; omega) (show (1 : Int32).toInt = stF (fun j => (G 51 j).toInt) (G 51 (Int32.toNatClampNeg p0)).toInt (Int32.toNatClampNeg (0 : Int32)) from by have n_0 := num_1; have n_1 := num_0; rw [show Int32.toNatClampNeg (0 : Int32) = 0 from by decide]; exact num_1) (show (16 - (0 : Int32).toInt) < ((4294967296 : Nat) : Int) from by have n_0 := num_1; have n_1 := num_0; omega) hM (lv_sub hl [2, 3, 1, 0] rfl)
def w7X6_standing : List Cond := .code yX6_standing cX6_standing 3 (some .int) :: ([.fieldLink RX6 126 "SkiShotsModel" "thrown" "I", .methodLink RX6 206 yX6_isRacer, .instanceMethod yX6_isRacer, .selects RX6 yX6_isRacer yX6_isRacer, .initialized RX6, .code yX6_isRacer cX6_isRacer 2 (some .boolean), .fieldLink RX6 197 "SkiShotsModel" "racers" "I", .methodLink RX6 241 yX6_isDay, .instanceMethod yX6_isDay, .selects RX6 yX6_isDay yX6_isDay, .code yX6_isDay cX6_isDay 2 (some .boolean), .fieldLink RX6 194 "SkiShotsModel" "today" "I", .methodLink RX6 252 yX6_cup, .instanceMethod yX6_cup, .selects RX6 yX6_cup yX6_cup, .code yX6_cup cX6_cup 6 none, .fieldLink RX6 72 "SkiShotsModel" "rEntries" "[I", .fieldLink RX6 78 "SkiShotsModel" "entries" "[I", .fieldLink RX6 108 "SkiShotsModel" "low" "[I", .methodLink RX6 248 yX6_placed, .instanceMethod yX6_placed, .selects RX6 yX6_placed yX6_placed, .code yX6_placed cX6_placed 8 (some .int), .fieldLink RX6 111 "SkiShotsModel" "high" "[I", .fieldLink RX6 123 "SkiShotsModel" "sums" "[I", .fieldLink RX6 200 "SkiShotsModel" "races" "I", .methodLink RX6 244 yX6_workAll, .instanceMethod yX6_workAll, .selects RX6 yX6_workAll yX6_workAll, .code yX6_workAll cX6_workAll 5 none, .methodLink RX6 237 yX6_work, .instanceMethod yX6_work, .selects RX6 yX6_work yX6_work, .code yX6_work cX6_work 12 none, .fieldLink RX6 51 "SkiShotsModel" "rShoots" "[I", .fieldLink RX6 48 "SkiShotsModel" "rLaps" "[I", .methodLink RX6 230 yX6_known, .instanceMethod yX6_known, .selects RX6 yX6_known yX6_known, .code yX6_known cX6_known 7 (some .int), .fieldLink RX6 99 "SkiShotsModel" "tDay" "[I", .fieldLink RX6 84 "SkiShotsModel" "tRace" "[I", .fieldLink RX6 87 "SkiShotsModel" "tRacer" "[I", .fieldLink RX6 90 "SkiShotsModel" "tSort" "[I", .fieldLink RX6 93 "SkiShotsModel" "tK" "[I", .fieldLink RX6 96 "SkiShotsModel" "tV" "[I", .fieldLink RX6 217 "SkiShotsModel" "told" "I", .fieldLink RX6 105 "SkiShotsModel" "start" "[I", .methodLink RX6 234 yX6_hits, .static yX6_hits, .code yX6_hits cX6_hits 3 (some .int), .fieldLink RX6 114 "SkiShotsModel" "missLow" "[I", .fieldLink RX6 117 "SkiShotsModel" "missHigh" "[I", .fieldLink RX6 57 "SkiShotsModel" "rLoop" "[Z", .fieldLink RX6 60 "SkiShotsModel" "rCost" "[I", .methodLink RX6 227 yX6_startOf, .instanceMethod yX6_startOf, .selects RX6 yX6_startOf yX6_startOf, .code yX6_startOf cX6_startOf 5 (some .int), .fieldLink RX6 63 "SkiShotsModel" "rHow" "[I", .fieldLink RX6 69 "SkiShotsModel" "rBy" "[I", .fieldLink RX6 81 "SkiShotsModel" "entryOf" "[I", .methodLink RX6 224 yX6_least, .instanceMethod yX6_least, .selects RX6 yX6_least yX6_least, .code yX6_least cX6_least 4 (some .int), .fieldLink RX6 66 "SkiShotsModel" "rNumber" "[I", .methodLink RX6 256 yX6_stands, .instanceMethod yX6_stands, .selects RX6 yX6_stands yX6_stands, .code yX6_stands cX6_stands 4 (some .int)] ++ wsX60)
set_option maxRecDepth 20000 in
theorem g8_X6_standing_X6_isRacer_1 : GoodIn w7X6_standing (wsV RX6 206 RX6 yX6_isRacer w3X6_isRacer) := goodIn_p _ [6] rfl (by decide +kernel)
set_option maxRecDepth 20000 in
theorem g8_X6_standing_X6_isDay_6 : GoodIn w7X6_standing (wsV RX6 241 RX6 yX6_isDay w3X6_isDay) := goodIn_p _ [11] rfl (by decide +kernel)
set_option maxRecDepth 20000 in
theorem g8_X6_standing_X6_cup_11 : GoodIn w7X6_standing (wsV RX6 252 RX6 yX6_cup w7X6_cup) := goodIn_p _ [16, 23, 30, 34, 40, 51, 59, 66] rfl (by decide +kernel)
set_option maxRecDepth 20000 in
theorem g8_X6_standing_X6_stands_17 : GoodIn w7X6_standing (wsV RX6 256 RX6 yX6_stands w7X6_stands) := goodIn_p _ [71] rfl (by decide +kernel)
set_option maxHeartbeats 4000000 in
set_option maxRecDepth 100000 in
theorem g7_X6_standing (l : Launch) (D : va_G) (h0 : Nat) (q : Nat → Nat) (cq : Nat → ClassId) (F : Nat → Int32) (G : Nat → Nat → Int32) (sz : Nat) (p0 : Int32) (p1 : Int32) (hI : mI F G) (hW : lWr F G) : Met l yX6_standing w7X6_standing ({ frames := 5, cells := 0, slots := 0, locals := 127 }) (mPre D h0 q cq F G sz [.ref h0, .int p0, .int p1]) (mQi D h0 q cq F G sz [2] [45, 46, 47, 48, 49, 51] (fun r F' G' => (r.toInt = -1 ∧ ¬ ((0 ≤ p0.toInt ∧ p0.toInt < (F 15).toInt) ∧ (0 ≤ p1.toInt ∧ p1.toInt ≤ (F 3).toInt))) ∨ (((0 ≤ p0.toInt ∧ p0.toInt < (F 15).toInt) ∧ (0 ≤ p1.toInt ∧ p1.toInt ≤ (F 3).toInt)) ∧ ∃ Gw : Nat → Nat → Int32, (∀ u t : Nat, (u : Int) < (F 17).toInt → (t : Int) < (G 27 u).toInt → wkP F Gw p1.toInt u t) ∧ (∀ k : Nat, 16 ≤ k → k ≤ 37 → Gw k = G k) ∧ r.toInt = stF (fun j => cuA Gw (j : Int) (F 17).toInt.toNat) (cuA Gw p0.toInt (F 17).toInt.toNat) (Int32.toNatClampNeg (F 15))))) 0 0 (va_A (mW h0 q cq F G) sz) := by
  refine mr_met (WF := [2]) (WG := [45, 46, 47, 48, 49, 51]) (cc := cX6_standing) (maxL := 3) (ret := (some .int)) (by decide) rfl rfl (by decide +kernel) (Nat.le_of_ble_eq_true rfl) hI ?_
  intro p e s m args below meth c ls E hml hr hlk hsz hA hM hl
  have hx := E.1
  have hb := E.2.1
  have hts := E.2.2.1
  have hown := E.2.2.2.2.1
  have hl : lv_has ls 3 [(0, .ref h0), (1, .int p0), (2, .int p1)] := hl
  refine lv_aload_n hx hb dX6_standing_0 rfl (lv_at hl 0 rfl) ?_
  refine lv_iconst (v := 0) hx hb dX6_standing_1 (by decide) ?_
  refine mr_put (v := 0) E hM 2 (by decide) (index := 126) (mm_at 1 rfl) rfl rfl (by decide +kernel) ms_2 (mm_nb rfl) (by decide) dX6_standing_2 (fun H locs hM => ?_)
  refine lv_aload_n hx hb dX6_standing_5 rfl (lv_at hl 0 rfl) ?_
  refine lv_iload_n hx hb dX6_standing_6 rfl (lv_at hl 1 rfl) ?_
  have b_2 : 0 ≤ (F 15).toInt ∧ (F 15).toInt ≤ 16 := hM.fb 15 rfl
  refine mr_callp (av := [.int p0]) (rest := []) E hA hml hM (g3_X6_isRacer l D h0 q cq (upd F 2 0) G _ p0 hM.2.2.2.1 ) (cwV 1 hts g8_X6_standing_X6_isRacer_1 rfl rfl rfl (by decide +kernel) ⟨Nat.le_of_ble_eq_true rfl, Nat.le_of_ble_eq_true rfl⟩) rfl hl.1 rfl (Nat.le_of_ble_eq_true rfl) dX6_standing_7 ⟨Nat.le_of_ble_eq_true rfl, Nat.le_of_ble_eq_true rfl⟩ (fun r_3 H locs p_4 hM => ?_)
  replace p_4 : (r_3.toInt = 1 ∧ 0 ≤ p0.toInt ∧ p0.toInt < (F 15).toInt) ∨ (r_3.toInt = 0 ∧ ¬ (0 ≤ p0.toInt ∧ p0.toInt < (F 15).toInt)) := p_4
  refine mm_if_eq (X := r_3.toInt) (tgt := 21) hx hb dX6_standing_10 (by decide) rfl (fun c_5 => ?_) (fun c_5 => ?_)
  · refine lv_iconst (v := (-1)) hx hb dX6_standing_21 (by decide) ?_
    exact mr_ri E hr hlk hsz hM (show (((-1) : Int32).toInt = -1 ∧ ¬ ((0 ≤ p0.toInt ∧ p0.toInt < (F 15).toInt) ∧ (0 ≤ p1.toInt ∧ p1.toInt ≤ (F 3).toInt))) ∨ (((0 ≤ p0.toInt ∧ p0.toInt < (F 15).toInt) ∧ (0 ≤ p1.toInt ∧ p1.toInt ≤ (F 3).toInt)) ∧ ∃ Gw : Nat → Nat → Int32, (∀ u t : Nat, (u : Int) < (F 17).toInt → (t : Int) < (G 27 u).toInt → wkP F Gw p1.toInt u t) ∧ (∀ k : Nat, 16 ≤ k → k ≤ 37 → Gw k = G k) ∧ ((-1) : Int32).toInt = stF (fun j => cuA Gw (j : Int) (F 17).toInt.toNat) (cuA Gw p0.toInt (F 17).toInt.toNat) (Int32.toNatClampNeg (F 15))) from by have n9 := num_m1; exact Or.inl ⟨by omega, by omega⟩) dX6_standing_22
  · refine lv_aload_n hx hb dX6_standing_13 rfl (lv_at hl 0 rfl) ?_
    refine lv_iload_n hx hb dX6_standing_14 rfl (lv_at hl 2 rfl) ?_
    have b_7 : 0 ≤ (F 3).toInt ∧ (F 3).toInt ≤ 200 := hM.fb 3 rfl
    refine mr_callp (av := [.int p1]) (rest := []) E hA hml hM (g3_X6_isDay l D h0 q cq (upd F 2 0) G _ p1 hM.2.2.2.1 ) (cwV 1 hts g8_X6_standing_X6_isDay_6 rfl rfl rfl (by decide +kernel) ⟨Nat.le_of_ble_eq_true rfl, Nat.le_of_ble_eq_true rfl⟩) rfl hl.1 rfl (Nat.le_of_ble_eq_true rfl) dX6_standing_15 ⟨Nat.le_of_ble_eq_true rfl, Nat.le_of_ble_eq_true rfl⟩ (fun r_8 H locs p_9 hM => ?_)
    replace p_9 : (r_8.toInt = 1 ∧ 0 ≤ p1.toInt ∧ p1.toInt ≤ (F 3).toInt) ∨ (r_8.toInt = 0 ∧ ¬ (0 ≤ p1.toInt ∧ p1.toInt ≤ (F 3).toInt)) := p_9
    refine mm_if_ne (X := r_8.toInt) (tgt := 23) hx hb dX6_standing_18 (by decide) rfl (fun c_10 => ?_) (fun c_10 => ?_)
    · refine lv_aload_n hx hb dX6_standing_23 rfl (lv_at hl 0 rfl) ?_
      refine lv_iload_n hx hb dX6_standing_24 rfl (lv_at hl 2 rfl) ?_
      refine mr_callv (av := [.int p1]) (rest := []) E hA hml hM (g7_X6_cup l D h0 q cq (upd F 2 0) G _ p1 hM.2.2.2.1 hW) (cwV 1 hts g8_X6_standing_X6_cup_11 rfl rfl rfl (by decide +kernel) ⟨Nat.le_of_ble_eq_true rfl, Nat.le_of_ble_eq_true rfl⟩) rfl hl.1 rfl (Nat.le_of_ble_eq_true rfl) dX6_standing_25 ⟨Nat.le_of_ble_eq_true rfl, Nat.le_of_ble_eq_true rfl⟩ (by decide) (by decide) (fun F_14 G_15 H locs fr_16 p_13 hM => ?_)
      replace p_13 : ∃ Gw : Nat → Nat → Int32, (∀ u t : Nat, (u : Int) < ((upd F 2 0) 17).toInt → (t : Int) < (G 27 u).toInt → wkP (upd F 2 0) Gw p1.toInt u t) ∧ (∀ k : Nat, 16 ≤ k → k ≤ 37 → Gw k = G k) ∧ ∀ j : Nat, j < 16 → (G_15 51 j).toInt = cuA Gw (j : Int) ((upd F 2 0) 17).toInt.toNat := p_13
      obtain ⟨Gw9, hw9, hg9, hz9⟩ := p_13
      have hp9 := mm_nat p0
      refine lv_aload_n hx hb dX6_standing_28 rfl (lv_at hl 0 rfl) ?_
      refine lv_iload_n hx hb dX6_standing_29 rfl (lv_at hl 1 rfl) ?_
      refine mr_callp (av := [.int p0]) (rest := []) E hA hml hM (g7_X6_stands l D h0 q cq F_14 G_15 _ p0 hM.2.2.2.1 (show 0 ≤ p0.toInt ∧ p0.toInt < 16 from by omega)) (cwV 1 hts g8_X6_standing_X6_stands_17 rfl rfl rfl (by decide +kernel) ⟨Nat.le_of_ble_eq_true rfl, Nat.le_of_ble_eq_true rfl⟩) rfl hl.1 rfl (Nat.le_of_ble_eq_true rfl) dX6_standing_30 ⟨Nat.le_of_ble_eq_true rfl, Nat.le_of_ble_eq_true rfl⟩ (fun r_18 H locs p_19 hM => ?_)
      replace p_19 : r_18.toInt = stF (fun j => (G_15 51 j).toInt) (G_15 51 (Int32.toNatClampNeg p0)).toInt (Int32.toNatClampNeg (F_14 15)) := p_19
      exact mr_ri E hr hlk hsz hM (show (r_18.toInt = -1 ∧ ¬ ((0 ≤ p0.toInt ∧ p0.toInt < (F 15).toInt) ∧ (0 ≤ p1.toInt ∧ p1.toInt ≤ (F 3).toInt))) ∨ (((0 ≤ p0.toInt ∧ p0.toInt < (F 15).toInt) ∧ (0 ≤ p1.toInt ∧ p1.toInt ≤ (F 3).toInt)) ∧ ∃ Gw : Nat → Nat → Int32, (∀ u t : Nat, (u : Int) < (F 17).toInt → (t : Int) < (G 27 u).toInt → wkP F Gw p1.toInt u t) ∧ (∀ k : Nat, 16 ≤ k → k ≤ 37 → Gw k = G k) ∧ r_18.toInt = stF (fun j => cuA Gw (j : Int) (F 17).toInt.toNat) (cuA Gw p0.toInt (F 17).toInt.toNat) (Int32.toNatClampNeg (F 15))) from by have h9 := hz9 (Int32.toNatClampNeg p0) (by omega); rw [show ((Int32.toNatClampNeg p0 : Nat) : Int) = p0.toInt from by omega] at h9; exact Or.inr ⟨⟨by omega, by omega⟩, Gw9, (fun u t h1 h2 => wkP_F rfl rfl (hw9 u t h1 h2)), hg9, (by rw [p_19, h9, show F_14 15 = F 15 from (fr_16.1 15 (by decide)).trans rfl]; exact stF_cg (fun j hj => hz9 j (by have h1 := mm_nat (F 15); omega)))⟩) dX6_standing_33
    · refine lv_iconst (v := (-1)) hx hb dX6_standing_21 (by decide) ?_
      exact mr_ri E hr hlk hsz hM (show (((-1) : Int32).toInt = -1 ∧ ¬ ((0 ≤ p0.toInt ∧ p0.toInt < (F 15).toInt) ∧ (0 ≤ p1.toInt ∧ p1.toInt ≤ (F 3).toInt))) ∨ (((0 ≤ p0.toInt ∧ p0.toInt < (F 15).toInt) ∧ (0 ≤ p1.toInt ∧ p1.toInt ≤ (F 3).toInt)) ∧ ∃ Gw : Nat → Nat → Int32, (∀ u t : Nat, (u : Int) < (F 17).toInt → (t : Int) < (G 27 u).toInt → wkP F Gw p1.toInt u t) ∧ (∀ k : Nat, 16 ≤ k → k ≤ 37 → Gw k = G k) ∧ ((-1) : Int32).toInt = stF (fun j => cuA Gw (j : Int) (F 17).toInt.toNat) (cuA Gw p0.toInt (F 17).toInt.toNat) (Int32.toNatClampNeg (F 15))) from by have n9 := num_m1; exact Or.inl ⟨by omega, by omega⟩) dX6_standing_22
