theorem num_3 : (3 : Int32).toInt = 3 := by decide
theorem num_10 : (10 : Int32).toInt = 10 := by decide
def mR3 (F : Nat → Int32) (G : Nat → Nat → Int32) : Prop := ∀ r : Nat, (r : Int) < (F 17).toInt → ((G 24 r).toInt = 9 ∨ (G 24 r).toInt = 10 ∨ 0 ≤ (G 26 r).toInt)
def w3X6_startOf : List Cond := .code yX6_startOf cX6_startOf 5 (some .int) :: ([.fieldLink RX6 63 "SkiShotsModel" "rHow" "[I", .fieldLink RX6 69 "SkiShotsModel" "rBy" "[I", .fieldLink RX6 81 "SkiShotsModel" "entryOf" "[I", .fieldLink RX6 108 "SkiShotsModel" "low" "[I", .methodLink RX6 224 yX6_least, .instanceMethod yX6_least, .selects RX6 yX6_least yX6_least, .initialized RX6, .code yX6_least cX6_least 4 (some .int), .fieldLink RX6 197 "SkiShotsModel" "racers" "I", .fieldLink RX6 66 "SkiShotsModel" "rNumber" "[I"] ++ wsX60)
set_option maxRecDepth 20000 in
theorem gc_X6_startOf_X6_least_9 : GoodIn w3X6_startOf (wsV RX6 224 RX6 yX6_least w3X6_least) := goodIn_p _ [9] rfl (by decide +kernel)
set_option maxHeartbeats 4000000 in
set_option maxRecDepth 100000 in
theorem g3_X6_startOf (l : Launch) (D : va_G) (h0 : Nat) (q : Nat → Nat) (cq : Nat → ClassId) (F : Nat → Int32) (G : Nat → Nat → Int32) (sz : Nat) (p0 : Int32) (p1 : Int32) (hI : mI F G) (k0 : 0 ≤ p0.toInt ∧ p0.toInt < 8) (k1 : 0 ≤ p1.toInt ∧ p1.toInt < 16) (hby : (G 24 (Int32.toNatClampNeg p0)).toInt = 9 ∨ (G 24 (Int32.toNatClampNeg p0)).toInt = 10 ∨ 0 ≤ (G 26 (Int32.toNatClampNeg p0)).toInt) : Met l yX6_startOf w3X6_startOf ({ frames := 1, cells := 0, slots := 0, locals := 23 }) (mPre D h0 q cq F G sz [.ref h0, .int p0, .int p1]) (mQi D h0 q cq F G sz [] [] (fun r F' G' => True)) 0 0 (va_A (mW h0 q cq F G) sz) := by
  refine mr_met (WF := []) (WG := []) (cc := cX6_startOf) (maxL := 5) (ret := (some .int)) (by decide) rfl rfl (by decide +kernel) (Nat.le_of_ble_eq_true rfl) hI ?_
  intro p e s m args below meth c ls E hml hr hlk hsz hA hM hl
  have hx := E.1
  have hb := E.2.1
  have hts := E.2.2.1
  have hown := E.2.2.2.2.1
  have hl : lv_has ls 5 [(0, .ref h0), (1, .int p0), (2, .int p1)] := hl
  refine lv_aload_n hx hb dX6_startOf_0 rfl (lv_at hl 0 rfl) ?_
  refine mr_get (v := .ref (q 24)) E hM 24 (by decide) (index := 63) (mm_at 1 rfl) rfl rfl dX6_startOf_1 ?_
  refine lv_iload_n hx hb dX6_startOf_4 rfl (lv_at hl 1 rfl) ?_
  refine mr_ald (X := p0.toInt) E hM 17 16 rfl rfl rfl (by omega) dX6_startOf_5 ?_
  refine lv_bipush (v := 9) hx hb dX6_startOf_6 (by decide) ?_
  refine mm_icmp_ne (X := (G 24 (Int32.toNatClampNeg p0)).toInt) (Y := 9) (tgt := 13) hx hb dX6_startOf_8 (by decide) rfl num_9 (fun c_1 => ?_) (fun c_1 => ?_)
  · refine lv_aload_n hx hb dX6_startOf_13 rfl (lv_at hl 0 rfl) ?_
    refine mr_get (v := .ref (q 24)) E hM 24 (by decide) (index := 63) (mm_at 1 rfl) rfl rfl dX6_startOf_14 ?_
    refine lv_iload_n hx hb dX6_startOf_17 rfl (lv_at hl 1 rfl) ?_
    refine mr_ald (X := p0.toInt) E hM 17 16 rfl rfl rfl (by omega) dX6_startOf_18 ?_
    refine lv_bipush (v := 10) hx hb dX6_startOf_19 (by decide) ?_
    refine mm_icmp_ne (X := (G 24 (Int32.toNatClampNeg p0)).toInt) (Y := 10) (tgt := 46) hx hb dX6_startOf_21 (by decide) rfl num_10 (fun c_2 => ?_) (fun c_2 => ?_)
    · refine lv_bipush (v := 16) hx hb dX6_startOf_46 (by decide) ?_
      refine lv_aload_n hx hb dX6_startOf_48 rfl (lv_at hl 0 rfl) ?_
      refine mr_get (v := .ref (q 26)) E hM 26 (by decide) (index := 69) (mm_at 2 rfl) rfl rfl dX6_startOf_49 ?_
      refine lv_iload_n hx hb dX6_startOf_52 rfl (lv_at hl 1 rfl) ?_
      refine mr_ald (X := p0.toInt) E hM 19 18 rfl rfl rfl (by omega) dX6_startOf_53 ?_
      have b_3 : -1 ≤ (G 26 (Int32.toNatClampNeg p0)).toInt ∧ (G 26 (Int32.toNatClampNeg p0)).toInt ≤ 7 := hM.ab 26 rfl _
      refine mm_imul (X := 16) (Y := (G 26 (Int32.toNatClampNeg p0)).toInt) hx hb dX6_startOf_54 num_16 rfl (by omega) (fun z_4 hz_4 => ?_)
      refine lv_iload_n hx hb dX6_startOf_55 rfl (lv_at hl 2 rfl) ?_
      refine mm_iadd (X := z_4.toInt) (Y := p1.toInt) hx hb dX6_startOf_56 rfl rfl (by omega) (fun z_5 hz_5 => ?_)
      refine lv_istore_n (lv' := [(3, .int z_5), (0, .ref h0), (1, .int p0), (2, .int p1)]) hx hb dX6_startOf_57 rfl hl (by decide) rfl (fun ls hl => ?_)
      refine lv_aload_n hx hb dX6_startOf_58 rfl (lv_at hl 1 rfl) ?_
      refine mr_get (v := .ref (q 30)) E hM 30 (by decide) (index := 81) (mm_at 3 rfl) rfl rfl dX6_startOf_59 ?_
      refine lv_iload_n hx hb dX6_startOf_62 rfl (lv_at hl 0 rfl) ?_
      refine mr_ald (X := z_5.toInt) E hM 23 22 rfl rfl rfl (by omega) dX6_startOf_63 ?_
      have b_6 : -1 ≤ (G 30 (Int32.toNatClampNeg z_5)).toInt ∧ (G 30 (Int32.toNatClampNeg z_5)).toInt ≤ 15 := hM.ab 30 rfl _
      refine mm_if_lt (X := (G 30 (Int32.toNatClampNeg z_5)).toInt) (tgt := 76) hx hb dX6_startOf_64 (by decide) rfl (fun c_7 => ?_) (fun c_7 => ?_)
      · refine lv_iconst (v := (-1)) hx hb dX6_startOf_76 (by decide) ?_
        exact mr_ri E hr hlk hsz hM trivial dX6_startOf_77
      · refine lv_aload_n hx hb dX6_startOf_67 rfl (lv_at hl 1 rfl) ?_
        refine mr_get (v := .ref (q 46)) E hM 46 (by decide) (index := 108) (mm_at 4 rfl) rfl rfl dX6_startOf_68 ?_
        refine lv_iload_n hx hb dX6_startOf_71 rfl (lv_at hl 0 rfl) ?_
        refine mr_ald (X := z_5.toInt) E hM 32 31 rfl rfl rfl (by omega) dX6_startOf_72 ?_
        refine mm_if_ge (X := (G 46 (Int32.toNatClampNeg z_5)).toInt) (tgt := 78) hx hb dX6_startOf_73 (by decide) rfl (fun c_8 => ?_) (fun c_8 => ?_)
        · refine lv_aload_n hx hb dX6_startOf_78 rfl (lv_at hl 1 rfl) ?_
          refine mr_get (v := .ref (q 46)) E hM 46 (by decide) (index := 108) (mm_at 4 rfl) rfl rfl dX6_startOf_79 ?_
          refine lv_iload_n hx hb dX6_startOf_82 rfl (lv_at hl 0 rfl) ?_
          refine mr_ald (X := z_5.toInt) E hM 32 31 rfl rfl rfl (by omega) dX6_startOf_83 ?_
          refine lv_aload_n hx hb dX6_startOf_84 rfl (lv_at hl 1 rfl) ?_
          refine lv_aload_n hx hb dX6_startOf_85 rfl (lv_at hl 1 rfl) ?_
          refine mr_get (v := .ref (q 26)) E hM 26 (by decide) (index := 69) (mm_at 2 rfl) rfl rfl dX6_startOf_86 ?_
          refine lv_iload_n hx hb dX6_startOf_89 rfl (lv_at hl 2 rfl) ?_
          refine mr_ald (X := p0.toInt) E hM 19 18 rfl rfl rfl (by omega) dX6_startOf_90 ?_
          refine mr_callp (av := [.int (G 26 (Int32.toNatClampNeg p0))]) (rest := [.int (G 46 (Int32.toNatClampNeg z_5))]) E hA hml hM (g3_X6_least l D h0 q cq F G _ (G 26 (Int32.toNatClampNeg p0)) hM.2.2.2.1 (show 0 ≤ (G 26 (Int32.toNatClampNeg p0)).toInt ∧ (G 26 (Int32.toNatClampNeg p0)).toInt < 8 from by omega)) (cwV 1 hts gc_X6_startOf_X6_least_9 rfl rfl rfl (by decide +kernel) ⟨Nat.le_of_ble_eq_true rfl, Nat.le_of_ble_eq_true rfl⟩) rfl hl.1 rfl (Nat.le_of_ble_eq_true rfl) dX6_startOf_91 ⟨Nat.le_of_ble_eq_true rfl, Nat.le_of_ble_eq_true rfl⟩ (fun r_10 H locs p_11 hM => ?_)
          refine mm_isubU hx hb dX6_startOf_94 (fun z_12 => ?_)
          refine lv_bipush (v := 10) hx hb dX6_startOf_95 (by decide) ?_
          refine mm_idivU (Y := 10) hx hb dX6_startOf_97 num_10 (by omega) (fun z_13 => ?_)
          refine lv_bipush (v := 10) hx hb dX6_startOf_98 (by decide) ?_
          refine mm_imulU hx hb dX6_startOf_100 (fun z_14 => ?_)
          refine lv_istore (lv' := [(4, .int z_14), (3, .int z_5), (0, .ref h0), (1, .int p0), (2, .int p1)]) hx hb dX6_startOf_101 hl (by decide) rfl (fun ls hl => ?_)
          refine lv_iload hx hb dX6_startOf_103 (lv_at hl 0 rfl) ?_
          refine lv_bipush (v := 10) hx hb dX6_startOf_105 (by decide) ?_
          refine lv_aload_n hx hb dX6_startOf_107 rfl (lv_at hl 2 rfl) ?_
          refine mr_get (v := .ref (q 25)) E hM 25 (by decide) (index := 66) (mm_at 11 rfl) rfl rfl dX6_startOf_108 ?_
          refine lv_iload_n hx hb dX6_startOf_111 rfl (lv_at hl 3 rfl) ?_
          refine mr_ald (X := p0.toInt) E hM 18 17 rfl rfl rfl (by omega) dX6_startOf_112 ?_
          refine mm_imulU hx hb dX6_startOf_113 (fun z_15 => ?_)
          refine mm_icmp_ge (X := z_14.toInt) (Y := z_15.toInt) (tgt := 122) hx hb dX6_startOf_114 (by decide) rfl rfl (fun c_16 => ?_) (fun c_16 => ?_)
          · refine lv_bipush (v := 10) hx hb dX6_startOf_122 (by decide) ?_
            refine lv_aload_n hx hb dX6_startOf_124 rfl (lv_at hl 2 rfl) ?_
            refine mr_get (v := .ref (q 25)) E hM 25 (by decide) (index := 66) (mm_at 11 rfl) rfl rfl dX6_startOf_125 ?_
            refine lv_iload_n hx hb dX6_startOf_128 rfl (lv_at hl 3 rfl) ?_
            refine mr_ald (X := p0.toInt) E hM 18 17 rfl rfl rfl (by omega) dX6_startOf_129 ?_
            refine mm_imulU hx hb dX6_startOf_130 (fun z_17 => ?_)
            exact mr_ri E hr hlk hsz hM trivial dX6_startOf_131
          · refine lv_iload hx hb dX6_startOf_117 (lv_at hl 0 rfl) ?_
            refine lv_goto (tgt := 131) hx hb dX6_startOf_119 (by decide) ?_
            exact mr_ri E hr hlk hsz hM trivial dX6_startOf_131
        · refine lv_iconst (v := (-1)) hx hb dX6_startOf_76 (by decide) ?_
          exact mr_ri E hr hlk hsz hM trivial dX6_startOf_77
    · refine lv_bipush (v := 10) hx hb dX6_startOf_24 (by decide) ?_
      refine lv_aload_n hx hb dX6_startOf_26 rfl (lv_at hl 0 rfl) ?_
      refine mr_get (v := .ref (q 25)) E hM 25 (by decide) (index := 66) (mm_at 11 rfl) rfl rfl dX6_startOf_27 ?_
      refine lv_iload_n hx hb dX6_startOf_30 rfl (lv_at hl 1 rfl) ?_
      refine mr_ald (X := p0.toInt) E hM 18 17 rfl rfl rfl (by omega) dX6_startOf_31 ?_
      refine mm_imulU hx hb dX6_startOf_32 (fun z_18 => ?_)
      refine lv_aload_n hx hb dX6_startOf_33 rfl (lv_at hl 0 rfl) ?_
      refine mr_get (v := .ref (q 30)) E hM 30 (by decide) (index := 81) (mm_at 3 rfl) rfl rfl dX6_startOf_34 ?_
      refine lv_bipush (v := 16) hx hb dX6_startOf_37 (by decide) ?_
      refine lv_iload_n hx hb dX6_startOf_39 rfl (lv_at hl 1 rfl) ?_
      refine mm_imul (X := 16) (Y := p0.toInt) hx hb dX6_startOf_40 num_16 rfl (by omega) (fun z_19 hz_19 => ?_)
      refine lv_iload_n hx hb dX6_startOf_41 rfl (lv_at hl 2 rfl) ?_
      refine mm_iadd (X := z_19.toInt) (Y := p1.toInt) hx hb dX6_startOf_42 rfl rfl (by omega) (fun z_20 hz_20 => ?_)
      refine mr_ald (X := z_20.toInt) E hM 23 22 rfl rfl rfl (by omega) dX6_startOf_43 ?_
      have b_21 : -1 ≤ (G 30 (Int32.toNatClampNeg z_20)).toInt ∧ (G 30 (Int32.toNatClampNeg z_20)).toInt ≤ 15 := hM.ab 30 rfl _
      refine mm_imulU hx hb dX6_startOf_44 (fun z_22 => ?_)
      exact mr_ri E hr hlk hsz hM trivial dX6_startOf_45
  · refine lv_iconst (v := 0) hx hb dX6_startOf_11 (by decide) ?_
    exact mr_ri E hr hlk hsz hM trivial dX6_startOf_12
def w3X6_work : List Cond := .code yX6_work cX6_work 12 none :: ([.fieldLink RX6 108 "SkiShotsModel" "low" "[I", .fieldLink RX6 111 "SkiShotsModel" "high" "[I", .fieldLink RX6 105 "SkiShotsModel" "start" "[I", .fieldLink RX6 60 "SkiShotsModel" "rCost" "[I", .fieldLink RX6 114 "SkiShotsModel" "missLow" "[I", .fieldLink RX6 117 "SkiShotsModel" "missHigh" "[I", .fieldLink RX6 57 "SkiShotsModel" "rLoop" "[Z", .methodLink RX6 230 yX6_known, .instanceMethod yX6_known, .selects RX6 yX6_known yX6_known, .initialized RX6, .code yX6_known cX6_known 7 (some .int), .fieldLink RX6 99 "SkiShotsModel" "tDay" "[I", .fieldLink RX6 84 "SkiShotsModel" "tRace" "[I", .fieldLink RX6 87 "SkiShotsModel" "tRacer" "[I", .fieldLink RX6 90 "SkiShotsModel" "tSort" "[I", .fieldLink RX6 93 "SkiShotsModel" "tK" "[I", .fieldLink RX6 96 "SkiShotsModel" "tV" "[I", .fieldLink RX6 217 "SkiShotsModel" "told" "I", .fieldLink RX6 51 "SkiShotsModel" "rShoots" "[I", .fieldLink RX6 48 "SkiShotsModel" "rLaps" "[I", .methodLink RX6 234 yX6_hits, .static yX6_hits, .code yX6_hits cX6_hits 3 (some .int), .methodLink RX6 227 yX6_startOf, .instanceMethod yX6_startOf, .selects RX6 yX6_startOf yX6_startOf, .code yX6_startOf cX6_startOf 5 (some .int), .fieldLink RX6 63 "SkiShotsModel" "rHow" "[I", .fieldLink RX6 69 "SkiShotsModel" "rBy" "[I", .fieldLink RX6 81 "SkiShotsModel" "entryOf" "[I", .methodLink RX6 224 yX6_least, .instanceMethod yX6_least, .selects RX6 yX6_least yX6_least, .code yX6_least cX6_least 4 (some .int), .fieldLink RX6 197 "SkiShotsModel" "racers" "I", .fieldLink RX6 66 "SkiShotsModel" "rNumber" "[I"] ++ wsX60)
set_option maxRecDepth 20000 in
theorem gc_X6_work_X6_known_27 : GoodIn w3X6_work (wsV RX6 230 RX6 yX6_known w3X6_known) := goodIn_p _ [12] rfl (by decide +kernel)
set_option maxRecDepth 20000 in
theorem gc_X6_work_X6_known_39 : GoodIn w3X6_work (wsV RX6 230 RX6 yX6_known w3X6_known) := goodIn_p _ [12] rfl (by decide +kernel)
set_option maxRecDepth 20000 in
theorem gc_X6_work_X6_known_42 : GoodIn w3X6_work (wsV RX6 230 RX6 yX6_known w3X6_known) := goodIn_p _ [12] rfl (by decide +kernel)
set_option maxRecDepth 20000 in
theorem gc_X6_work_X6_known_48 : GoodIn w3X6_work (wsV RX6 230 RX6 yX6_known w3X6_known) := goodIn_p _ [12] rfl (by decide +kernel)
set_option maxRecDepth 20000 in
theorem gc_X6_work_X6_hits_52 : GoodIn w3X6_work (va_wsS RX6 234 yX6_hits w3X6_hits) := goodIn_p _ [24] rfl (by decide +kernel)
set_option maxRecDepth 20000 in
theorem gc_X6_work_X6_startOf_60 : GoodIn w3X6_work (wsV RX6 227 RX6 yX6_startOf w3X6_startOf) := goodIn_p _ [28, 35] rfl (by decide +kernel)
set_option maxHeartbeats 4000000 in
set_option maxRecDepth 100000 in
theorem g3_X6_work (l : Launch) (D : va_G) (h0 : Nat) (q : Nat → Nat) (cq : Nat → ClassId) (F : Nat → Int32) (G : Nat → Nat → Int32) (sz : Nat) (p0 : Int32) (p1 : Int32) (p2 : Int32) (hI : mI F G) (k0 : 0 ≤ p0.toInt ∧ p0.toInt < 8) (k1 : 0 ≤ p1.toInt ∧ p1.toInt < 16) (hby : (G 24 (Int32.toNatClampNeg p0)).toInt = 9 ∨ (G 24 (Int32.toNatClampNeg p0)).toInt = 10 ∨ 0 ≤ (G 26 (Int32.toNatClampNeg p0)).toInt) : Met l yX6_work w3X6_work ({ frames := 2, cells := 0, slots := 0, locals := 47 }) (mPre D h0 q cq F G sz [.ref h0, .int p0, .int p1, .int p2]) (mQv D h0 q cq F G sz [] [45, 46, 47, 48, 49] (fun F' G' => True)) 0 0 (va_A (mW h0 q cq F G) sz) := by
  refine mr_met (WF := []) (WG := [45, 46, 47, 48, 49]) (cc := cX6_work) (maxL := 12) (ret := none) (by decide) rfl rfl (by decide +kernel) (Nat.le_of_ble_eq_true rfl) hI ?_
  intro p e s m args below meth c ls E hml hr hlk hsz hA hM hl
  have hx := E.1
  have hb := E.2.1
  have hts := E.2.2.1
  have hown := E.2.2.2.2.1
  have hl : lv_has ls 12 [(0, .ref h0), (1, .int p0), (2, .int p1), (3, .int p2)] := hl
  have B_292 : ∀ (H : Heap) (locs : List Loc) (ls : Array Slot) (F_292 : Nat → Int32) (G_292 : Nat → Nat → Int32) (ad a b en is : Int32), (0 ≤ ad.toInt ∧ ad.toInt ≤ 127) → mQ D h0 q cq (va_A (mW h0 q cq F G) sz) s.heap [] [45, 46, 47, 48, 49] F G H locs F_292 G_292 → lv_has ls 12 [(0, .ref h0), (1, .int p0), (2, .int p1), (3, .int p2), (4, .int ad), (5, .int a), (6, .int b), (7, .int en)] → W p l e ({ frames := 2, cells := 0, slots := 0, locals := 47 }) s m args below meth c H locs 0 0 (MQ below (mQv D h0 q cq F G sz [] [45, 46, 47, 48, 49] (fun F' G' => True)) args s 0 0 (va_A (mW h0 q cq F G) sz)) (F0 m 292 ls [.int is]) := by
    intro H locs ls F_292 G_292 ad a b en is f292_0 hM hl
    have hfr_292 := hM.fr
    refine lv_istore (lv' := [(8, .int is), (0, .ref h0), (1, .int p0), (2, .int p1), (3, .int p2), (4, .int ad), (5, .int a), (6, .int b), (7, .int en)]) hx hb dX6_work_292 hl (by decide) rfl (fun ls hl => ?_)
    refine lv_aload_n hx hb dX6_work_294 rfl (lv_at hl 1 rfl) ?_
    refine mr_get (v := .ref (q 46)) E hM 46 (by decide) (index := 108) (mm_at 1 rfl) rfl rfl dX6_work_295 ?_
    refine lv_iload hx hb dX6_work_298 (lv_at hl 5 rfl) ?_
    refine lv_iload hx hb dX6_work_300 (lv_at hl 0 rfl) ?_
    refine mm_if_eq (X := is.toInt) (tgt := 321) hx hb dX6_work_302 (by decide) rfl (fun c_1 => ?_) (fun c_1 => ?_)
    · refine lv_iconst (v := (-1)) hx hb dX6_work_321 (by decide) ?_
      refine mr_ast (X := ad.toInt) E hM 46 32 31 rfl rfl rfl (by omega) mg_46 (by decide) (mm_nbA rfl) (by decide) dX6_work_322 (fun H locs G_2 eG_2 hM => ?_)
      refine lv_aload_n hx hb dX6_work_323 rfl (lv_at hl 1 rfl) ?_
      refine mr_get (v := .ref (q 47)) E hM 47 (by decide) (index := 111) (mm_at 2 rfl) rfl rfl dX6_work_324 ?_
      refine lv_iload hx hb dX6_work_327 (lv_at hl 5 rfl) ?_
      refine lv_iload hx hb dX6_work_329 (lv_at hl 0 rfl) ?_
      refine mm_if_eq (X := is.toInt) (tgt := 350) hx hb dX6_work_331 (by decide) rfl (fun c_3 => ?_) (fun c_3 => False.elim (by omega))
      refine lv_iconst (v := (-1)) hx hb dX6_work_350 (by decide) ?_
      refine mr_ast (X := ad.toInt) E hM 47 33 32 rfl rfl rfl (by omega) mg_47 (by decide) (mm_nbA rfl) (by decide) dX6_work_351 (fun H locs G_4 eG_4 hM => ?_)
      exact mr_rv E hr hlk hsz hM trivial dX6_work_352
    · refine lv_iload hx hb dX6_work_305 (lv_at hl 8 rfl) ?_
      refine lv_aload_n hx hb dX6_work_307 rfl (lv_at hl 1 rfl) ?_
      refine mr_get (v := .ref (q 45)) E hM 45 (by decide) (index := 105) (mm_at 3 rfl) rfl rfl dX6_work_308 ?_
      refine lv_iload hx hb dX6_work_311 (lv_at hl 5 rfl) ?_
      refine mr_ald (X := ad.toInt) E hM 31 30 rfl rfl rfl (by omega) dX6_work_313 ?_
      refine mm_isubU hx hb dX6_work_314 (fun z_5 => ?_)
      refine lv_iload hx hb dX6_work_315 (lv_at hl 6 rfl) ?_
      refine mm_iaddU hx hb dX6_work_317 (fun z_6 => ?_)
      refine lv_goto (tgt := 322) hx hb dX6_work_318 (by decide) ?_
      refine mr_ast (X := ad.toInt) E hM 46 32 31 rfl rfl rfl (by omega) mg_46 (by decide) (mm_nbA rfl) (by decide) dX6_work_322 (fun H locs G_7 eG_7 hM => ?_)
      refine lv_aload_n hx hb dX6_work_323 rfl (lv_at hl 1 rfl) ?_
      refine mr_get (v := .ref (q 47)) E hM 47 (by decide) (index := 111) (mm_at 2 rfl) rfl rfl dX6_work_324 ?_
      refine lv_iload hx hb dX6_work_327 (lv_at hl 5 rfl) ?_
      refine lv_iload hx hb dX6_work_329 (lv_at hl 0 rfl) ?_
      refine mm_if_eq (X := is.toInt) (tgt := 350) hx hb dX6_work_331 (by decide) rfl (fun c_8 => ?_) (fun c_8 => ?_)
      · refine lv_iconst (v := (-1)) hx hb dX6_work_350 (by decide) ?_
        refine mr_ast (X := ad.toInt) E hM 47 33 32 rfl rfl rfl (by omega) mg_47 (by decide) (mm_nbA rfl) (by decide) dX6_work_351 (fun H locs G_9 eG_9 hM => ?_)
        exact mr_rv E hr hlk hsz hM trivial dX6_work_352
      · refine lv_iload hx hb dX6_work_334 (lv_at hl 8 rfl) ?_
        refine lv_aload_n hx hb dX6_work_336 rfl (lv_at hl 1 rfl) ?_
        refine mr_get (v := .ref (q 45)) E hM 45 (by decide) (index := 105) (mm_at 3 rfl) rfl rfl dX6_work_337 ?_
        refine lv_iload hx hb dX6_work_340 (lv_at hl 5 rfl) ?_
        refine mr_ald (X := ad.toInt) E hM 31 30 rfl rfl rfl (by omega) dX6_work_342 ?_
        refine mm_isubU hx hb dX6_work_343 (fun z_10 => ?_)
        refine lv_iload hx hb dX6_work_344 (lv_at hl 7 rfl) ?_
        refine mm_iaddU hx hb dX6_work_346 (fun z_11 => ?_)
        refine lv_goto (tgt := 351) hx hb dX6_work_347 (by decide) ?_
        refine mr_ast (X := ad.toInt) E hM 47 33 32 rfl rfl rfl (by omega) mg_47 (by decide) (mm_nbA rfl) (by decide) dX6_work_351 (fun H locs G_12 eG_12 hM => ?_)
        exact mr_rv E hr hlk hsz hM trivial dX6_work_352
  have B_46 : ∀ n_46 : Nat, ∀ (H : Heap) (locs : List Loc) (ls : Array Slot) (F_46 : Nat → Int32) (G_46 : Nat → Nat → Int32) (ad a b k : Int32), (0 ≤ ad.toInt ∧ ad.toInt ≤ 127) → (0 ≤ k.toInt ∧ k.toInt ≤ 4) → (5 - k.toInt) < (n_46 : Int) → mQ D h0 q cq (va_A (mW h0 q cq F G) sz) s.heap [] [45, 46, 47, 48, 49] F G H locs F_46 G_46 → lv_has ls 12 [(0, .ref h0), (1, .int p0), (2, .int p1), (3, .int p2), (4, .int ad), (5, .int a), (6, .int b), (7, .int k)] → W p l e ({ frames := 2, cells := 0, slots := 0, locals := 47 }) s m args below meth c H locs 0 0 (MQ below (mQv D h0 q cq F G sz [] [45, 46, 47, 48, 49] (fun F' G' => True)) args s 0 0 (va_A (mW h0 q cq F G) sz)) (F0 m 46 ls []) := by
    intro n_46
    induction n_46 with
    | zero => intro H locs ls F_46 G_46 ad a b k f46_0 f46_1 hn hM hl; exact False.elim (by have hfr_46 := hM.fr; omega)
    | succ n_46 ih_46 =>
      intro H locs ls F_46 G_46 ad a b k f46_0 f46_1 hn hM hl
      have hfr_46 := hM.fr
      have B_227 : ∀ (H : Heap) (locs : List Loc) (ls : Array Slot) (F_227 : Nat → Int32) (G_227 : Nat → Nat → Int32) (a2 y b2 : Int32), (0 ≤ k.toInt ∧ k.toInt ≤ 3) → mQ D h0 q cq (va_A (mW h0 q cq F G) sz) s.heap [] [45, 46, 47, 48, 49] F G H locs F_227 G_227 → lv_has ls 12 [(0, .ref h0), (1, .int p0), (2, .int p1), (3, .int p2), (4, .int ad), (5, .int a2), (7, .int k)] → W p l e ({ frames := 2, cells := 0, slots := 0, locals := 47 }) s m args below meth c H locs 0 0 (MQ below (mQv D h0 q cq F G sz [] [45, 46, 47, 48, 49] (fun F' G' => True)) args s 0 0 (va_A (mW h0 q cq F G) sz)) (F0 m 227 ls [.int y, .int b2]) := by
        intro H locs ls F_227 G_227 a2 y b2 f227_0 hM hl
        have hfr_227 := hM.fr
        refine mm_iaddU hx hb dX6_work_227 (fun z_13 => ?_)
        refine lv_istore (lv' := [(6, .int z_13), (0, .ref h0), (1, .int p0), (2, .int p1), (3, .int p2), (4, .int ad), (5, .int a2), (7, .int k)]) hx hb dX6_work_228 hl (by decide) rfl (fun ls hl => ?_)
        refine mm_iinc (X := k.toInt) (v := 1) (lv2 := fun z => [(7, .int z), (6, .int z_13), (0, .ref h0), (1, .int p0), (2, .int p1), (3, .int p2), (4, .int ad), (5, .int a2)]) hx hb dX6_work_230 hl (k := 7) rfl rfl (by decide) num_1 (by omega) (by decide) (fun _ => rfl) (fun z_14 ls hz_14 hl => ?_)
        have hl : lv_has ls 12 [(7, .int z_14), (6, .int z_13), (0, .ref h0), (1, .int p0), (2, .int p1), (3, .int p2), (4, .int ad), (5, .int a2)] := hl
        refine lv_goto (tgt := 46) hx hb dX6_work_233 (by decide) ?_
        exact ih_46 _ _ _ F_227 G_227 ad a2 z_13 z_14 (show (0 ≤ ad.toInt ∧ ad.toInt ≤ 127) from by omega) (show (0 ≤ z_14.toInt ∧ z_14.toInt ≤ 4) from by omega) (show (5 - z_14.toInt) < ((n_46 : Nat) : Int) from by omega) hM (lv_sub hl [2, 3, 4, 5, 6, 7, 1, 0] rfl)
      have B_201 : ∀ (H : Heap) (locs : List Loc) (ls : Array Slot) (F_201 : Nat → Int32) (G_201 : Nat → Nat → Int32) (cx y a2 : Int32), (0 ≤ k.toInt ∧ k.toInt ≤ 3) → mQ D h0 q cq (va_A (mW h0 q cq F G) sz) s.heap [] [45, 46, 47, 48, 49] F G H locs F_201 G_201 → lv_has ls 12 [(0, .ref h0), (1, .int p0), (2, .int p1), (3, .int p2), (4, .int ad), (6, .int b), (7, .int k), (10, .int cx)] → W p l e ({ frames := 2, cells := 0, slots := 0, locals := 47 }) s m args below meth c H locs 0 0 (MQ below (mQv D h0 q cq F G sz [] [45, 46, 47, 48, 49] (fun F' G' => True)) args s 0 0 (va_A (mW h0 q cq F G) sz)) (F0 m 201 ls [.int y, .int a2]) := by
        intro H locs ls F_201 G_201 cx y a2 f201_0 hM hl
        have hfr_201 := hM.fr
        refine mm_iaddU hx hb dX6_work_201 (fun z_15 => ?_)
        refine lv_istore (lv' := [(5, .int z_15), (0, .ref h0), (1, .int p0), (2, .int p1), (3, .int p2), (4, .int ad), (6, .int b), (7, .int k), (10, .int cx)]) hx hb dX6_work_202 hl (by decide) rfl (fun ls hl => ?_)
        refine lv_iload hx hb dX6_work_204 (lv_at hl 6 rfl) ?_
        refine lv_iload hx hb dX6_work_206 (lv_at hl 8 rfl) ?_
        refine mm_if_le (X := cx.toInt) (tgt := 226) hx hb dX6_work_208 (by decide) rfl (fun c_16 => ?_) (fun c_16 => ?_)
        · refine lv_iconst (v := 0) hx hb dX6_work_226 (by decide) ?_
          exact B_227 _ _ _ F_201 G_201 z_15 0 b (show (0 ≤ k.toInt ∧ k.toInt ≤ 3) from by have n_1 := num_0; omega) hM (lv_sub hl [1, 2, 3, 4, 5, 0, 7] rfl)
        · refine lv_bipush (v := 10) hx hb dX6_work_211 (by decide) ?_
          refine lv_aload_n hx hb dX6_work_213 rfl (lv_at hl 1 rfl) ?_
          refine mr_get (v := .ref (q 23)) E hM 23 (by decide) (index := 60) (mm_at 4 rfl) rfl rfl dX6_work_214 ?_
          refine lv_iload_n hx hb dX6_work_217 rfl (lv_at hl 2 rfl) ?_
          refine mr_ald (X := p0.toInt) E hM 16 15 rfl rfl rfl (by omega) dX6_work_218 ?_
          refine mm_imulU hx hb dX6_work_219 (fun z_17 => ?_)
          refine lv_iload hx hb dX6_work_220 (lv_at hl 8 rfl) ?_
          refine mm_imulU hx hb dX6_work_222 (fun z_18 => ?_)
          refine lv_goto (tgt := 227) hx hb dX6_work_223 (by decide) ?_
          exact B_227 _ _ _ F_201 G_201 z_15 z_18 b (show (0 ≤ k.toInt ∧ k.toInt ≤ 3) from by omega) hM (lv_sub hl [1, 2, 3, 4, 5, 0, 7] rfl)
      have B_178 : ∀ (H : Heap) (locs : List Loc) (ls : Array Slot) (F_178 : Nat → Int32) (G_178 : Nat → Nat → Int32) (c9 cx : Int32), (0 ≤ k.toInt ∧ k.toInt ≤ 3) → mQ D h0 q cq (va_A (mW h0 q cq F G) sz) s.heap [] [45, 46, 47, 48, 49] F G H locs F_178 G_178 → lv_has ls 12 [(0, .ref h0), (1, .int p0), (2, .int p1), (3, .int p2), (4, .int ad), (5, .int a), (6, .int b), (7, .int k), (9, .int c9), (10, .int cx)] → W p l e ({ frames := 2, cells := 0, slots := 0, locals := 47 }) s m args below meth c H locs 0 0 (MQ below (mQv D h0 q cq F G sz [] [45, 46, 47, 48, 49] (fun F' G' => True)) args s 0 0 (va_A (mW h0 q cq F G) sz)) (F0 m 178 ls []) := by
        intro H locs ls F_178 G_178 c9 cx f178_0 hM hl
        have hfr_178 := hM.fr
        refine lv_iload hx hb dX6_work_178 (lv_at hl 5 rfl) ?_
        refine lv_iload hx hb dX6_work_180 (lv_at hl 8 rfl) ?_
        refine mm_if_le (X := c9.toInt) (tgt := 200) hx hb dX6_work_182 (by decide) rfl (fun c_19 => ?_) (fun c_19 => ?_)
        · refine lv_iconst (v := 0) hx hb dX6_work_200 (by decide) ?_
          exact B_201 _ _ _ F_178 G_178 cx 0 a (show (0 ≤ k.toInt ∧ k.toInt ≤ 3) from by have n_1 := num_0; omega) hM (lv_sub hl [0, 1, 2, 3, 4, 6, 7, 9] rfl)
        · refine lv_bipush (v := 10) hx hb dX6_work_185 (by decide) ?_
          refine lv_aload_n hx hb dX6_work_187 rfl (lv_at hl 0 rfl) ?_
          refine mr_get (v := .ref (q 23)) E hM 23 (by decide) (index := 60) (mm_at 4 rfl) rfl rfl dX6_work_188 ?_
          refine lv_iload_n hx hb dX6_work_191 rfl (lv_at hl 1 rfl) ?_
          refine mr_ald (X := p0.toInt) E hM 16 15 rfl rfl rfl (by omega) dX6_work_192 ?_
          refine mm_imulU hx hb dX6_work_193 (fun z_20 => ?_)
          refine lv_iload hx hb dX6_work_194 (lv_at hl 8 rfl) ?_
          refine mm_imulU hx hb dX6_work_196 (fun z_21 => ?_)
          refine lv_goto (tgt := 201) hx hb dX6_work_197 (by decide) ?_
          exact B_201 _ _ _ F_178 G_178 cx z_21 a (show (0 ≤ k.toInt ∧ k.toInt ≤ 3) from by omega) hM (lv_sub hl [0, 1, 2, 3, 4, 6, 7, 9] rfl)
      have B_98 : ∀ (H : Heap) (locs : List Loc) (ls : Array Slot) (F_98 : Nat → Int32) (G_98 : Nat → Nat → Int32) (c8 c9 cx : Int32), (0 ≤ k.toInt ∧ k.toInt ≤ 3) → mQ D h0 q cq (va_A (mW h0 q cq F G) sz) s.heap [] [45, 46, 47, 48, 49] F G H locs F_98 G_98 → lv_has ls 12 [(0, .ref h0), (1, .int p0), (2, .int p1), (3, .int p2), (4, .int ad), (5, .int a), (6, .int b), (7, .int k), (8, .int c8), (9, .int c9)] → W p l e ({ frames := 2, cells := 0, slots := 0, locals := 47 }) s m args below meth c H locs 0 0 (MQ below (mQv D h0 q cq F G sz [] [45, 46, 47, 48, 49] (fun F' G' => True)) args s 0 0 (va_A (mW h0 q cq F G) sz)) (F0 m 98 ls [.int cx]) := by
        intro H locs ls F_98 G_98 c8 c9 cx f98_0 hM hl
        have hfr_98 := hM.fr
        refine lv_istore (lv' := [(10, .int cx), (0, .ref h0), (1, .int p0), (2, .int p1), (3, .int p2), (4, .int ad), (5, .int a), (6, .int b), (7, .int k), (8, .int c8), (9, .int c9)]) hx hb dX6_work_98 hl (by decide) rfl (fun ls hl => ?_)
        refine lv_aload_n hx hb dX6_work_100 rfl (lv_at hl 1 rfl) ?_
        refine mr_get (v := .ref (q 48)) E hM 48 (by decide) (index := 114) (mm_at 5 rfl) rfl rfl dX6_work_101 ?_
        refine lv_iload hx hb dX6_work_104 (lv_at hl 5 rfl) ?_
        refine lv_dup2_11 hx hb dX6_work_106 rfl rfl ?_
        refine mr_ald (X := ad.toInt) E hM 34 33 rfl rfl rfl (by omega) dX6_work_107 ?_
        refine lv_iload hx hb dX6_work_108 (lv_at hl 10 rfl) ?_
        refine mm_iaddU hx hb dX6_work_110 (fun z_22 => ?_)
        refine mr_ast (X := ad.toInt) E hM 48 34 33 rfl rfl rfl (by omega) mg_48 (by decide) (mm_nbA rfl) (by decide) dX6_work_111 (fun H locs G_23 eG_23 hM => ?_)
        refine lv_aload_n hx hb dX6_work_112 rfl (lv_at hl 1 rfl) ?_
        refine mr_get (v := .ref (q 49)) E hM 49 (by decide) (index := 117) (mm_at 6 rfl) rfl rfl dX6_work_113 ?_
        refine lv_iload hx hb dX6_work_116 (lv_at hl 5 rfl) ?_
        refine lv_dup2_11 hx hb dX6_work_118 rfl rfl ?_
        refine mr_ald (X := ad.toInt) E hM 35 34 rfl rfl rfl (by omega) dX6_work_119 ?_
        refine lv_iload hx hb dX6_work_120 (lv_at hl 0 rfl) ?_
        refine mm_iaddU hx hb dX6_work_122 (fun z_24 => ?_)
        refine mr_ast (X := ad.toInt) E hM 49 35 34 rfl rfl rfl (by omega) mg_49 (by decide) (mm_nbA rfl) (by decide) dX6_work_123 (fun H locs G_25 eG_25 hM => ?_)
        refine lv_aload_n hx hb dX6_work_124 rfl (lv_at hl 1 rfl) ?_
        refine mr_get (v := .ref (q 22)) E hM 22 (by decide) (index := 57) (mm_at 7 rfl) rfl rfl dX6_work_125 ?_
        refine lv_iload_n hx hb dX6_work_128 rfl (lv_at hl 2 rfl) ?_
        refine mr_zld (X := p0.toInt) E hM 15 14 rfl rfl rfl (by omega) dX6_work_129 ?_
        refine mm_if_eq (X := (G_25 22 (Int32.toNatClampNeg p0)).toInt) (tgt := 178) hx hb dX6_work_130 (by decide) rfl (fun c_26 => ?_) (fun c_26 => ?_)
        · exact B_178 _ _ _ F_98 G_25 c9 cx (show (0 ≤ k.toInt ∧ k.toInt ≤ 3) from by omega) hM (lv_sub hl [1, 2, 3, 4, 5, 6, 7, 8, 10, 0] rfl)
        · refine lv_aload_n hx hb dX6_work_133 rfl (lv_at hl 1 rfl) ?_
          refine lv_iload_n hx hb dX6_work_134 rfl (lv_at hl 2 rfl) ?_
          refine lv_iload_n hx hb dX6_work_135 rfl (lv_at hl 3 rfl) ?_
          refine lv_iconst (v := 2) hx hb dX6_work_136 (by decide) ?_
          refine lv_iload hx hb dX6_work_137 (lv_at hl 8 rfl) ?_
          refine lv_iload_n hx hb dX6_work_139 rfl (lv_at hl 4 rfl) ?_
          refine mr_callp (av := [.int p0, .int p1, .int 2, .int k, .int p2]) (rest := []) E hA hml hM (g3_X6_known l D h0 q cq F_98 G_25 _ p0 p1 2 k p2 hM.2.2.2.1 ) (cwV 5 hts gc_X6_work_X6_known_27 rfl rfl rfl (by decide +kernel) ⟨Nat.le_of_ble_eq_true rfl, Nat.le_of_ble_eq_true rfl⟩) rfl hl.1 rfl (Nat.le_of_ble_eq_true rfl) dX6_work_140 ⟨Nat.le_of_ble_eq_true rfl, Nat.le_of_ble_eq_true rfl⟩ (fun r_28 H locs p_29 hM => ?_)
          refine lv_istore (lv' := [(11, .int r_28), (10, .int cx), (0, .ref h0), (1, .int p0), (2, .int p1), (3, .int p2), (4, .int ad), (5, .int a), (6, .int b), (7, .int k), (8, .int c8), (9, .int c9)]) hx hb dX6_work_143 hl (by decide) rfl (fun ls hl => ?_)
          refine lv_iload hx hb dX6_work_145 (lv_at hl 11 rfl) ?_
          refine lv_iload hx hb dX6_work_147 (lv_at hl 0 rfl) ?_
          refine mm_if_ge (X := r_28.toInt) (tgt := 157) hx hb dX6_work_149 (by decide) rfl (fun c_30 => ?_) (fun c_30 => ?_)
          · refine lv_iload hx hb dX6_work_157 (lv_at hl 0 rfl) ?_
            refine mm_isubU hx hb dX6_work_159 (fun z_31 => ?_)
            refine lv_istore (lv' := [(9, .int z_31), (11, .int r_28), (10, .int cx), (0, .ref h0), (1, .int p0), (2, .int p1), (3, .int p2), (4, .int ad), (5, .int a), (6, .int b), (7, .int k), (8, .int c8)]) hx hb dX6_work_160 hl (by decide) rfl (fun ls hl => ?_)
            refine lv_iload hx hb dX6_work_162 (lv_at hl 2 rfl) ?_
            refine lv_iload hx hb dX6_work_164 (lv_at hl 1 rfl) ?_
            refine mm_if_ge (X := r_28.toInt) (tgt := 173) hx hb dX6_work_166 (by decide) rfl (fun c_32 => ?_) (fun c_32 => False.elim (by omega))
            refine lv_iload hx hb dX6_work_173 (lv_at hl 1 rfl) ?_
            refine mm_isubU hx hb dX6_work_175 (fun z_33 => ?_)
            refine lv_istore (lv' := [(10, .int z_33), (9, .int z_31), (11, .int r_28), (0, .ref h0), (1, .int p0), (2, .int p1), (3, .int p2), (4, .int ad), (5, .int a), (6, .int b), (7, .int k), (8, .int c8)]) hx hb dX6_work_176 hl (by decide) rfl (fun ls hl => ?_)
            exact B_178 _ _ _ F_98 G_25 z_31 z_33 (show (0 ≤ k.toInt ∧ k.toInt ≤ 3) from by omega) hM (lv_sub hl [3, 4, 5, 6, 7, 8, 9, 10, 1, 0] rfl)
          · refine lv_bipush (v := 9) hx hb dX6_work_152 (by decide) ?_
            refine lv_goto (tgt := 159) hx hb dX6_work_154 (by decide) ?_
            refine mm_isubU hx hb dX6_work_159 (fun z_34 => ?_)
            refine lv_istore (lv' := [(9, .int z_34), (11, .int r_28), (10, .int cx), (0, .ref h0), (1, .int p0), (2, .int p1), (3, .int p2), (4, .int ad), (5, .int a), (6, .int b), (7, .int k), (8, .int c8)]) hx hb dX6_work_160 hl (by decide) rfl (fun ls hl => ?_)
            refine lv_iload hx hb dX6_work_162 (lv_at hl 2 rfl) ?_
            refine lv_iload hx hb dX6_work_164 (lv_at hl 1 rfl) ?_
            refine mm_if_ge (X := r_28.toInt) (tgt := 173) hx hb dX6_work_166 (by decide) rfl (fun c_35 => False.elim (by omega)) (fun c_35 => ?_)
            refine lv_iconst (v := 0) hx hb dX6_work_169 (by decide) ?_
            refine lv_goto (tgt := 175) hx hb dX6_work_170 (by decide) ?_
            refine mm_isubU hx hb dX6_work_175 (fun z_36 => ?_)
            refine lv_istore (lv' := [(10, .int z_36), (9, .int z_34), (11, .int r_28), (0, .ref h0), (1, .int p0), (2, .int p1), (3, .int p2), (4, .int ad), (5, .int a), (6, .int b), (7, .int k), (8, .int c8)]) hx hb dX6_work_176 hl (by decide) rfl (fun ls hl => ?_)
            exact B_178 _ _ _ F_98 G_25 z_34 z_36 (show (0 ≤ k.toInt ∧ k.toInt ≤ 3) from by omega) hM (lv_sub hl [3, 4, 5, 6, 7, 8, 9, 10, 1, 0] rfl)
      refine lv_iload hx hb dX6_work_46 (lv_at hl 7 rfl) ?_
      refine lv_aload_n hx hb dX6_work_48 rfl (lv_at hl 0 rfl) ?_
      refine mr_get (v := .ref (q 20)) E hM 20 (by decide) (index := 51) (mm_at 20 rfl) rfl rfl dX6_work_49 ?_
      refine lv_iload_n hx hb dX6_work_52 rfl (lv_at hl 1 rfl) ?_
      refine mr_ald (X := p0.toInt) E hM 13 12 rfl rfl rfl (by omega) dX6_work_53 ?_
      have b_37 : 0 ≤ (G_46 20 (Int32.toNatClampNeg p0)).toInt ∧ (G_46 20 (Int32.toNatClampNeg p0)).toInt ≤ 4 := hM.ab 20 rfl _
      refine mm_icmp_ge (X := k.toInt) (Y := (G_46 20 (Int32.toNatClampNeg p0)).toInt) (tgt := 236) hx hb dX6_work_54 (by decide) rfl rfl (fun c_38 => ?_) (fun c_38 => ?_)
      · refine lv_aload_n hx hb dX6_work_236 rfl (lv_at hl 0 rfl) ?_
        refine lv_iload_n hx hb dX6_work_237 rfl (lv_at hl 1 rfl) ?_
        refine lv_iload_n hx hb dX6_work_238 rfl (lv_at hl 2 rfl) ?_
        refine lv_iconst (v := 0) hx hb dX6_work_239 (by decide) ?_
        refine lv_aload_n hx hb dX6_work_240 rfl (lv_at hl 0 rfl) ?_
        refine mr_get (v := .ref (q 19)) E hM 19 (by decide) (index := 48) (mm_at 21 rfl) rfl rfl dX6_work_241 ?_
        refine lv_iload_n hx hb dX6_work_244 rfl (lv_at hl 1 rfl) ?_
        refine mr_ald (X := p0.toInt) E hM 12 11 rfl rfl rfl (by omega) dX6_work_245 ?_
        refine lv_iload_n hx hb dX6_work_246 rfl (lv_at hl 3 rfl) ?_
        refine mr_callp (av := [.int p0, .int p1, .int 0, .int (G_46 19 (Int32.toNatClampNeg p0)), .int p2]) (rest := []) E hA hml hM (g3_X6_known l D h0 q cq F_46 G_46 _ p0 p1 0 (G_46 19 (Int32.toNatClampNeg p0)) p2 hM.2.2.2.1 ) (cwV 5 hts gc_X6_work_X6_known_39 rfl rfl rfl (by decide +kernel) ⟨Nat.le_of_ble_eq_true rfl, Nat.le_of_ble_eq_true rfl⟩) rfl hl.1 rfl (Nat.le_of_ble_eq_true rfl) dX6_work_247 ⟨Nat.le_of_ble_eq_true rfl, Nat.le_of_ble_eq_true rfl⟩ (fun r_40 H locs p_41 hM => ?_)
        refine lv_istore (lv' := [(7, .int r_40), (0, .ref h0), (1, .int p0), (2, .int p1), (3, .int p2), (4, .int ad), (5, .int a), (6, .int b)]) hx hb dX6_work_250 hl (by decide) rfl (fun ls hl => ?_)
        refine lv_aload_n hx hb dX6_work_252 rfl (lv_at hl 1 rfl) ?_
        refine lv_iload_n hx hb dX6_work_253 rfl (lv_at hl 2 rfl) ?_
        refine lv_iload_n hx hb dX6_work_254 rfl (lv_at hl 3 rfl) ?_
        refine lv_iconst (v := 3) hx hb dX6_work_255 (by decide) ?_
        refine lv_iconst (v := 0) hx hb dX6_work_256 (by decide) ?_
        refine lv_iload_n hx hb dX6_work_257 rfl (lv_at hl 4 rfl) ?_
        refine mr_callp (av := [.int p0, .int p1, .int 3, .int 0, .int p2]) (rest := []) E hA hml hM (g3_X6_known l D h0 q cq F_46 G_46 _ p0 p1 3 0 p2 hM.2.2.2.1 ) (cwV 5 hts gc_X6_work_X6_known_42 rfl rfl rfl (by decide +kernel) ⟨Nat.le_of_ble_eq_true rfl, Nat.le_of_ble_eq_true rfl⟩) rfl hl.1 rfl (Nat.le_of_ble_eq_true rfl) dX6_work_258 ⟨Nat.le_of_ble_eq_true rfl, Nat.le_of_ble_eq_true rfl⟩ (fun r_43 H locs p_44 hM => ?_)
        refine lv_iconst (v := 1) hx hb dX6_work_261 (by decide) ?_
        refine mm_icmp_eq (X := r_43.toInt) (Y := 1) (tgt := 291) hx hb dX6_work_262 (by decide) rfl num_1 (fun c_45 => ?_) (fun c_45 => ?_)
        · refine lv_iconst (v := 0) hx hb dX6_work_291 (by decide) ?_
          exact B_292 _ _ _ F_46 G_46 ad a b r_40 0 (show (0 ≤ ad.toInt ∧ ad.toInt ≤ 127) from by have n_4 := num_0; omega) hM (lv_sub hl [1, 2, 3, 4, 5, 6, 7, 0] rfl)
        · refine lv_aload_n hx hb dX6_work_265 rfl (lv_at hl 1 rfl) ?_
          refine mr_get (v := .ref (q 45)) E hM 45 (by decide) (index := 105) (mm_at 3 rfl) rfl rfl dX6_work_266 ?_
          refine lv_iload hx hb dX6_work_269 (lv_at hl 5 rfl) ?_
          refine mr_ald (X := ad.toInt) E hM 31 30 rfl rfl rfl (by omega) dX6_work_271 ?_
          refine mm_if_lt (X := (G_46 45 (Int32.toNatClampNeg ad)).toInt) (tgt := 291) hx hb dX6_work_272 (by decide) rfl (fun c_46 => ?_) (fun c_46 => ?_)
          · refine lv_iconst (v := 0) hx hb dX6_work_291 (by decide) ?_
            exact B_292 _ _ _ F_46 G_46 ad a b r_40 0 (show (0 ≤ ad.toInt ∧ ad.toInt ≤ 127) from by have n_4 := num_0; omega) hM (lv_sub hl [1, 2, 3, 4, 5, 6, 7, 0] rfl)
          · refine lv_iload hx hb dX6_work_275 (lv_at hl 0 rfl) ?_
            refine lv_aload_n hx hb dX6_work_277 rfl (lv_at hl 1 rfl) ?_
            refine mr_get (v := .ref (q 45)) E hM 45 (by decide) (index := 105) (mm_at 3 rfl) rfl rfl dX6_work_278 ?_
            refine lv_iload hx hb dX6_work_281 (lv_at hl 5 rfl) ?_
            refine mr_ald (X := ad.toInt) E hM 31 30 rfl rfl rfl (by omega) dX6_work_283 ?_
            refine mm_icmp_lt (X := r_40.toInt) (Y := (G_46 45 (Int32.toNatClampNeg ad)).toInt) (tgt := 291) hx hb dX6_work_284 (by decide) rfl rfl (fun c_47 => ?_) (fun c_47 => ?_)
            · refine lv_iconst (v := 0) hx hb dX6_work_291 (by decide) ?_
              exact B_292 _ _ _ F_46 G_46 ad a b r_40 0 (show (0 ≤ ad.toInt ∧ ad.toInt ≤ 127) from by have n_4 := num_0; omega) hM (lv_sub hl [1, 2, 3, 4, 5, 6, 7, 0] rfl)
            · refine lv_iconst (v := 1) hx hb dX6_work_287 (by decide) ?_
              refine lv_goto (tgt := 292) hx hb dX6_work_288 (by decide) ?_
              exact B_292 _ _ _ F_46 G_46 ad a b r_40 1 (show (0 ≤ ad.toInt ∧ ad.toInt ≤ 127) from by have n_4 := num_1; omega) hM (lv_sub hl [1, 2, 3, 4, 5, 6, 7, 0] rfl)
      · refine lv_aload_n hx hb dX6_work_57 rfl (lv_at hl 0 rfl) ?_
        refine lv_iload_n hx hb dX6_work_58 rfl (lv_at hl 1 rfl) ?_
        refine lv_iload_n hx hb dX6_work_59 rfl (lv_at hl 2 rfl) ?_
        refine lv_iconst (v := 1) hx hb dX6_work_60 (by decide) ?_
        refine lv_iload hx hb dX6_work_61 (lv_at hl 7 rfl) ?_
        refine lv_iload_n hx hb dX6_work_63 rfl (lv_at hl 3 rfl) ?_
        refine mr_callp (av := [.int p0, .int p1, .int 1, .int k, .int p2]) (rest := []) E hA hml hM (g3_X6_known l D h0 q cq F_46 G_46 _ p0 p1 1 k p2 hM.2.2.2.1 ) (cwV 5 hts gc_X6_work_X6_known_48 rfl rfl rfl (by decide +kernel) ⟨Nat.le_of_ble_eq_true rfl, Nat.le_of_ble_eq_true rfl⟩) rfl hl.1 rfl (Nat.le_of_ble_eq_true rfl) dX6_work_64 ⟨Nat.le_of_ble_eq_true rfl, Nat.le_of_ble_eq_true rfl⟩ (fun r_49 H locs p_50 hM => ?_)
        refine lv_istore (lv' := [(8, .int r_49), (0, .ref h0), (1, .int p0), (2, .int p1), (3, .int p2), (4, .int ad), (5, .int a), (6, .int b), (7, .int k)]) hx hb dX6_work_67 hl (by decide) rfl (fun ls hl => ?_)
        refine lv_iload hx hb dX6_work_69 (lv_at hl 0 rfl) ?_
        refine mm_if_ge (X := r_49.toInt) (tgt := 78) hx hb dX6_work_71 (by decide) rfl (fun c_51 => ?_) (fun c_51 => ?_)
        · refine lv_iconst (v := 5) hx hb dX6_work_78 (by decide) ?_
          refine lv_iload hx hb dX6_work_79 (lv_at hl 0 rfl) ?_
          refine mr_calls (av := [.int r_49]) (rest := [.int 5]) E hA hml hM (g3_X6_hits l D h0 q cq F_46 G_46 _ r_49 hM.2.2.2.1 ) (va_cwS 1 hts gc_X6_work_X6_hits_52 rfl rfl rfl (by decide +kernel) ⟨Nat.le_of_ble_eq_true rfl, Nat.le_of_ble_eq_true rfl⟩) rfl hl.1 rfl (Nat.le_of_ble_eq_true rfl) dX6_work_81 ⟨Nat.le_of_ble_eq_true rfl, Nat.le_of_ble_eq_true rfl⟩ (fun r_53 H locs p_54 hM => ?_)
          refine mm_isubU hx hb dX6_work_84 (fun z_55 => ?_)
          refine lv_istore (lv' := [(9, .int z_55), (8, .int r_49), (0, .ref h0), (1, .int p0), (2, .int p1), (3, .int p2), (4, .int ad), (5, .int a), (6, .int b), (7, .int k)]) hx hb dX6_work_85 hl (by decide) rfl (fun ls hl => ?_)
          refine lv_iload hx hb dX6_work_87 (lv_at hl 1 rfl) ?_
          refine mm_if_ge (X := r_49.toInt) (tgt := 96) hx hb dX6_work_89 (by decide) rfl (fun c_56 => ?_) (fun c_56 => False.elim (by omega))
          refine lv_iload hx hb dX6_work_96 (lv_at hl 0 rfl) ?_
          exact B_98 _ _ _ F_46 G_46 r_49 z_55 z_55 (show (0 ≤ k.toInt ∧ k.toInt ≤ 3) from by omega) hM (lv_sub hl [2, 3, 4, 5, 6, 7, 8, 9, 1, 0] rfl)
        · refine lv_iconst (v := 0) hx hb dX6_work_74 (by decide) ?_
          refine lv_goto (tgt := 85) hx hb dX6_work_75 (by decide) ?_
          refine lv_istore (lv' := [(9, .int 0), (8, .int r_49), (0, .ref h0), (1, .int p0), (2, .int p1), (3, .int p2), (4, .int ad), (5, .int a), (6, .int b), (7, .int k)]) hx hb dX6_work_85 hl (by decide) rfl (fun ls hl => ?_)
          refine lv_iload hx hb dX6_work_87 (lv_at hl 1 rfl) ?_
          refine mm_if_ge (X := r_49.toInt) (tgt := 96) hx hb dX6_work_89 (by decide) rfl (fun c_57 => False.elim (by omega)) (fun c_57 => ?_)
          refine lv_iconst (v := 5) hx hb dX6_work_92 (by decide) ?_
          refine lv_goto (tgt := 98) hx hb dX6_work_93 (by decide) ?_
          exact B_98 _ _ _ F_46 G_46 r_49 0 5 (show (0 ≤ k.toInt ∧ k.toInt ≤ 3) from by have n_1 := num_0; have n_2 := num_5; omega) hM (lv_sub hl [2, 3, 4, 5, 6, 7, 8, 9, 1, 0] rfl)
  refine lv_bipush (v := 16) hx hb dX6_work_0 (by decide) ?_
  refine lv_iload_n hx hb dX6_work_2 rfl (lv_at hl 1 rfl) ?_
  refine mm_imul (X := 16) (Y := p0.toInt) hx hb dX6_work_3 num_16 rfl (by omega) (fun z_58 hz_58 => ?_)
  refine lv_iload_n hx hb dX6_work_4 rfl (lv_at hl 2 rfl) ?_
  refine mm_iadd (X := z_58.toInt) (Y := p1.toInt) hx hb dX6_work_5 rfl rfl (by omega) (fun z_59 hz_59 => ?_)
  refine lv_istore (lv' := [(4, .int z_59), (0, .ref h0), (1, .int p0), (2, .int p1), (3, .int p2)]) hx hb dX6_work_6 hl (by decide) rfl (fun ls hl => ?_)
  refine lv_aload_n hx hb dX6_work_8 rfl (lv_at hl 1 rfl) ?_
  refine mr_get (v := .ref (q 45)) E hM 45 (by decide) (index := 105) (mm_at 3 rfl) rfl rfl dX6_work_9 ?_
  refine lv_iload hx hb dX6_work_12 (lv_at hl 0 rfl) ?_
  refine lv_aload_n hx hb dX6_work_14 rfl (lv_at hl 1 rfl) ?_
  refine lv_iload_n hx hb dX6_work_15 rfl (lv_at hl 2 rfl) ?_
  refine lv_iload_n hx hb dX6_work_16 rfl (lv_at hl 3 rfl) ?_
  refine mr_callp (av := [.int p0, .int p1]) (rest := [.int z_59, .ref (q 45)]) E hA hml hM (g3_X6_startOf l D h0 q cq F G _ p0 p1 hM.2.2.2.1 (show 0 ≤ p0.toInt ∧ p0.toInt < 8 from by omega) (show 0 ≤ p1.toInt ∧ p1.toInt < 16 from by omega) hby) (cwV 2 hts gc_X6_work_X6_startOf_60 rfl rfl rfl (by decide +kernel) ⟨Nat.le_of_ble_eq_true rfl, Nat.le_of_ble_eq_true rfl⟩) rfl hl.1 rfl (Nat.le_of_ble_eq_true rfl) dX6_work_17 ⟨Nat.le_of_ble_eq_true rfl, Nat.le_of_ble_eq_true rfl⟩ (fun r_61 H locs p_62 hM => ?_)
  refine mr_ast (X := z_59.toInt) E hM 45 31 30 rfl rfl rfl (by omega) mg_45 (by decide) (mm_nbA rfl) (by decide) dX6_work_20 (fun H locs G_63 eG_63 hM => ?_)
  refine lv_aload_n hx hb dX6_work_21 rfl (lv_at hl 1 rfl) ?_
  refine mr_get (v := .ref (q 48)) E hM 48 (by decide) (index := 114) (mm_at 5 rfl) rfl rfl dX6_work_22 ?_
  refine lv_iload hx hb dX6_work_25 (lv_at hl 0 rfl) ?_
  refine lv_iconst (v := 0) hx hb dX6_work_27 (by decide) ?_
  refine mr_ast (X := z_59.toInt) E hM 48 34 33 rfl rfl rfl (by omega) mg_48 (by decide) (mm_nbA rfl) (by decide) dX6_work_28 (fun H locs G_64 eG_64 hM => ?_)
  refine lv_aload_n hx hb dX6_work_29 rfl (lv_at hl 1 rfl) ?_
  refine mr_get (v := .ref (q 49)) E hM 49 (by decide) (index := 117) (mm_at 6 rfl) rfl rfl dX6_work_30 ?_
  refine lv_iload hx hb dX6_work_33 (lv_at hl 0 rfl) ?_
  refine lv_iconst (v := 0) hx hb dX6_work_35 (by decide) ?_
  refine mr_ast (X := z_59.toInt) E hM 49 35 34 rfl rfl rfl (by omega) mg_49 (by decide) (mm_nbA rfl) (by decide) dX6_work_36 (fun H locs G_65 eG_65 hM => ?_)
  refine lv_iconst (v := 0) hx hb dX6_work_37 (by decide) ?_
  refine lv_istore (lv' := [(5, .int 0), (4, .int z_59), (0, .ref h0), (1, .int p0), (2, .int p1), (3, .int p2)]) hx hb dX6_work_38 hl (by decide) rfl (fun ls hl => ?_)
  refine lv_iconst (v := 0) hx hb dX6_work_40 (by decide) ?_
  refine lv_istore (lv' := [(6, .int 0), (5, .int 0), (4, .int z_59), (0, .ref h0), (1, .int p0), (2, .int p1), (3, .int p2)]) hx hb dX6_work_41 hl (by decide) rfl (fun ls hl => ?_)
  refine lv_iconst (v := 0) hx hb dX6_work_43 (by decide) ?_
  refine lv_istore (lv' := [(7, .int 0), (6, .int 0), (5, .int 0), (4, .int z_59), (0, .ref h0), (1, .int p0), (2, .int p1), (3, .int p2)]) hx hb dX6_work_44 hl (by decide) rfl (fun ls hl => ?_)
  exact B_46 4294967296 _ _ _ F G_65 z_59 0 0 0 (show (0 ≤ z_59.toInt ∧ z_59.toInt ≤ 127) from by have n_1 := num_0; have n_2 := num_0; have n_3 := num_0; omega) (show (0 ≤ (0 : Int32).toInt ∧ (0 : Int32).toInt ≤ 4) from by have n_1 := num_0; have n_2 := num_0; have n_3 := num_0; omega) (show (5 - (0 : Int32).toInt) < ((4294967296 : Nat) : Int) from by have n_1 := num_0; have n_2 := num_0; have n_3 := num_0; omega) hM (lv_sub hl [4, 5, 6, 7, 3, 2, 1, 0] rfl)
def w3X6_workAll : List Cond := .code yX6_workAll cX6_workAll 5 none :: ([.fieldLink RX6 72 "SkiShotsModel" "rEntries" "[I", .fieldLink RX6 78 "SkiShotsModel" "entries" "[I", .methodLink RX6 237 yX6_work, .instanceMethod yX6_work, .selects RX6 yX6_work yX6_work, .initialized RX6, .code yX6_work cX6_work 12 none, .fieldLink RX6 108 "SkiShotsModel" "low" "[I", .fieldLink RX6 111 "SkiShotsModel" "high" "[I", .fieldLink RX6 105 "SkiShotsModel" "start" "[I", .fieldLink RX6 60 "SkiShotsModel" "rCost" "[I", .fieldLink RX6 114 "SkiShotsModel" "missLow" "[I", .fieldLink RX6 117 "SkiShotsModel" "missHigh" "[I", .fieldLink RX6 57 "SkiShotsModel" "rLoop" "[Z", .methodLink RX6 230 yX6_known, .instanceMethod yX6_known, .selects RX6 yX6_known yX6_known, .code yX6_known cX6_known 7 (some .int), .fieldLink RX6 99 "SkiShotsModel" "tDay" "[I", .fieldLink RX6 84 "SkiShotsModel" "tRace" "[I", .fieldLink RX6 87 "SkiShotsModel" "tRacer" "[I", .fieldLink RX6 90 "SkiShotsModel" "tSort" "[I", .fieldLink RX6 93 "SkiShotsModel" "tK" "[I", .fieldLink RX6 96 "SkiShotsModel" "tV" "[I", .fieldLink RX6 217 "SkiShotsModel" "told" "I", .fieldLink RX6 51 "SkiShotsModel" "rShoots" "[I", .fieldLink RX6 48 "SkiShotsModel" "rLaps" "[I", .methodLink RX6 234 yX6_hits, .static yX6_hits, .code yX6_hits cX6_hits 3 (some .int), .methodLink RX6 227 yX6_startOf, .instanceMethod yX6_startOf, .selects RX6 yX6_startOf yX6_startOf, .code yX6_startOf cX6_startOf 5 (some .int), .fieldLink RX6 63 "SkiShotsModel" "rHow" "[I", .fieldLink RX6 69 "SkiShotsModel" "rBy" "[I", .fieldLink RX6 81 "SkiShotsModel" "entryOf" "[I", .methodLink RX6 224 yX6_least, .instanceMethod yX6_least, .selects RX6 yX6_least yX6_least, .code yX6_least cX6_least 4 (some .int), .fieldLink RX6 197 "SkiShotsModel" "racers" "I", .fieldLink RX6 66 "SkiShotsModel" "rNumber" "[I"] ++ wsX60)
set_option maxRecDepth 20000 in
theorem gc_X6_workAll_X6_work_7 : GoodIn w3X6_workAll (wsV RX6 237 RX6 yX6_work w3X6_work) := goodIn_p _ [7, 18, 30, 34, 41] rfl (by decide +kernel)
set_option maxHeartbeats 4000000 in
set_option maxRecDepth 100000 in
theorem g3_X6_workAll (l : Launch) (D : va_G) (h0 : Nat) (q : Nat → Nat) (cq : Nat → ClassId) (F : Nat → Int32) (G : Nat → Nat → Int32) (sz : Nat) (p0 : Int32) (p1 : Int32) (hI : mI F G) (k0 : -1 ≤ p0.toInt ∧ p0.toInt < 8) (k1 : p0.toInt < (F 17).toInt) (hR3 : mR3 F G) : Met l yX6_workAll w3X6_workAll ({ frames := 3, cells := 0, slots := 0, locals := 78 }) (mPre D h0 q cq F G sz [.ref h0, .int p0, .int p1]) (mQv D h0 q cq F G sz [] [45, 46, 47, 48, 49] (fun F' G' => True)) 0 0 (va_A (mW h0 q cq F G) sz) := by
  refine mr_met (WF := []) (WG := [45, 46, 47, 48, 49]) (cc := cX6_workAll) (maxL := 5) (ret := none) (by decide) rfl rfl (by decide +kernel) (Nat.le_of_ble_eq_true rfl) hI ?_
  intro p e s m args below meth c ls E hml hr hlk hsz hA hM hl
  have hx := E.1
  have hb := E.2.1
  have hts := E.2.2.1
  have hown := E.2.2.2.2.1
  have hl : lv_has ls 5 [(0, .ref h0), (1, .int p0), (2, .int p1)] := hl
  have B_2 : ∀ n_2 : Nat, ∀ (H : Heap) (locs : List Loc) (ls : Array Slot) (F_2 : Nat → Int32) (G_2 : Nat → Nat → Int32) (r : Int32), (0 ≤ r.toInt ∧ r.toInt ≤ 8) → (8 - r.toInt) < (n_2 : Int) → mQ D h0 q cq (va_A (mW h0 q cq F G) sz) s.heap [] [45, 46, 47, 48, 49] F G H locs F_2 G_2 → lv_has ls 5 [(0, .ref h0), (1, .int p0), (2, .int p1), (3, .int r)] → W p l e ({ frames := 3, cells := 0, slots := 0, locals := 78 }) s m args below meth c H locs 0 0 (MQ below (mQv D h0 q cq F G sz [] [45, 46, 47, 48, 49] (fun F' G' => True)) args s 0 0 (va_A (mW h0 q cq F G) sz)) (F0 m 2 ls []) := by
    intro n_2
    induction n_2 with
    | zero => intro H locs ls F_2 G_2 r f2_0 hn hM hl; exact False.elim (by have hfr_2 := hM.fr; omega)
    | succ n_2 ih_2 =>
      intro H locs ls F_2 G_2 r f2_0 hn hM hl
      have hfr_2 := hM.fr
      have B_10 : ∀ n_10 : Nat, ∀ (H : Heap) (locs : List Loc) (ls : Array Slot) (F_10 : Nat → Int32) (G_10 : Nat → Nat → Int32) (i : Int32), (0 ≤ i.toInt ∧ i.toInt ≤ 16) → (0 ≤ r.toInt ∧ r.toInt ≤ 7) → r.toInt ≤ p0.toInt → (16 - i.toInt) < (n_10 : Int) → mQ D h0 q cq (va_A (mW h0 q cq F G) sz) s.heap [] [45, 46, 47, 48, 49] F G H locs F_10 G_10 → lv_has ls 5 [(0, .ref h0), (1, .int p0), (2, .int p1), (3, .int r), (4, .int i)] → W p l e ({ frames := 3, cells := 0, slots := 0, locals := 78 }) s m args below meth c H locs 0 0 (MQ below (mQv D h0 q cq F G sz [] [45, 46, 47, 48, 49] (fun F' G' => True)) args s 0 0 (va_A (mW h0 q cq F G) sz)) (F0 m 10 ls []) := by
        intro n_10
        induction n_10 with
        | zero => intro H locs ls F_10 G_10 i f10_0 f10_1 f10_2 hn hM hl; exact False.elim (by have hfr_10 := hM.fr; omega)
        | succ n_10 ih_10 =>
          intro H locs ls F_10 G_10 i f10_0 f10_1 f10_2 hn hM hl
          have hfr_10 := hM.fr
          refine lv_iload hx hb dX6_workAll_10 (lv_at hl 4 rfl) ?_
          refine lv_aload_n hx hb dX6_workAll_12 rfl (lv_at hl 0 rfl) ?_
          refine mr_get (v := .ref (q 27)) E hM 27 (by decide) (index := 72) (mm_at 1 rfl) rfl rfl dX6_workAll_13 ?_
          refine lv_iload_n hx hb dX6_workAll_16 rfl (lv_at hl 3 rfl) ?_
          refine mr_ald (X := r.toInt) E hM 20 19 rfl rfl rfl (by omega) dX6_workAll_17 ?_
          have b_1 : 0 ≤ (G_10 27 (Int32.toNatClampNeg r)).toInt ∧ (G_10 27 (Int32.toNatClampNeg r)).toInt ≤ 16 := hM.ab 27 rfl _
          refine mm_icmp_ge (X := i.toInt) (Y := (G_10 27 (Int32.toNatClampNeg r)).toInt) (tgt := 45) hx hb dX6_workAll_18 (by decide) rfl rfl (fun c_2 => ?_) (fun c_2 => ?_)
          · refine mm_iinc (X := r.toInt) (v := 1) (lv2 := fun z => [(3, .int z), (0, .ref h0), (1, .int p0), (2, .int p1), (4, .int i)]) hx hb dX6_workAll_45 hl (k := 3) rfl rfl (by decide) num_1 (by omega) (by decide) (fun _ => rfl) (fun z_3 ls hz_3 hl => ?_)
            have hl : lv_has ls 5 [(3, .int z_3), (0, .ref h0), (1, .int p0), (2, .int p1), (4, .int i)] := hl
            refine lv_goto (tgt := 2) hx hb dX6_workAll_48 (by decide) ?_
            exact ih_2 _ _ _ F_10 G_10 z_3 (show (0 ≤ z_3.toInt ∧ z_3.toInt ≤ 8) from by omega) (show (8 - z_3.toInt) < ((n_2 : Nat) : Int) from by omega) hM (lv_sub hl [1, 2, 3, 0] rfl)
          · refine lv_aload_n hx hb dX6_workAll_21 rfl (lv_at hl 0 rfl) ?_
            refine lv_iload_n hx hb dX6_workAll_22 rfl (lv_at hl 3 rfl) ?_
            refine lv_aload_n hx hb dX6_workAll_23 rfl (lv_at hl 0 rfl) ?_
            refine mr_get (v := .ref (q 29)) E hM 29 (by decide) (index := 78) (mm_at 2 rfl) rfl rfl dX6_workAll_24 ?_
            refine lv_bipush (v := 16) hx hb dX6_workAll_27 (by decide) ?_
            refine lv_iload_n hx hb dX6_workAll_29 rfl (lv_at hl 3 rfl) ?_
            refine mm_imul (X := 16) (Y := r.toInt) hx hb dX6_workAll_30 num_16 rfl (by omega) (fun z_4 hz_4 => ?_)
            refine lv_iload hx hb dX6_workAll_31 (lv_at hl 4 rfl) ?_
            refine mm_iadd (X := z_4.toInt) (Y := i.toInt) hx hb dX6_workAll_33 rfl rfl (by omega) (fun z_5 hz_5 => ?_)
            refine mr_ald (X := z_5.toInt) E hM 22 21 rfl rfl rfl (by omega) dX6_workAll_34 ?_
            have b_6 : 0 ≤ (G_10 29 (Int32.toNatClampNeg z_5)).toInt ∧ (G_10 29 (Int32.toNatClampNeg z_5)).toInt ≤ 15 := hM.ab 29 rfl _
            refine lv_iload_n hx hb dX6_workAll_35 rfl (lv_at hl 2 rfl) ?_
            refine mr_callv (av := [.int r, .int (G_10 29 (Int32.toNatClampNeg z_5)), .int p1]) (rest := []) E hA hml hM (g3_X6_work l D h0 q cq F_10 G_10 _ r (G_10 29 (Int32.toNatClampNeg z_5)) p1 hM.2.2.2.1 (show 0 ≤ r.toInt ∧ r.toInt < 8 from by omega) (show 0 ≤ (G_10 29 (Int32.toNatClampNeg z_5)).toInt ∧ (G_10 29 (Int32.toNatClampNeg z_5)).toInt < 16 from by omega) (by rw [hfr_10.2 24 (by decide), hfr_10.2 26 (by decide)]; exact hR3 _ (by rw [mm_nat]; omega))) (cwV 3 hts gc_X6_workAll_X6_work_7 rfl rfl rfl (by decide +kernel) ⟨Nat.le_of_ble_eq_true rfl, Nat.le_of_ble_eq_true rfl⟩) rfl hl.1 rfl (Nat.le_of_ble_eq_true rfl) dX6_workAll_36 ⟨Nat.le_of_ble_eq_true rfl, Nat.le_of_ble_eq_true rfl⟩ (by decide) (by decide) (fun F_10 G_11 H locs fr_12 p_9 hM => ?_)
            refine mm_iinc (X := i.toInt) (v := 1) (lv2 := fun z => [(4, .int z), (0, .ref h0), (1, .int p0), (2, .int p1), (3, .int r)]) hx hb dX6_workAll_39 hl (k := 4) rfl rfl (by decide) num_1 (by omega) (by decide) (fun _ => rfl) (fun z_13 ls hz_13 hl => ?_)
            have hl : lv_has ls 5 [(4, .int z_13), (0, .ref h0), (1, .int p0), (2, .int p1), (3, .int r)] := hl
            refine lv_goto (tgt := 10) hx hb dX6_workAll_42 (by decide) ?_
            exact ih_10 _ _ _ F_10 G_11 z_13 (show (0 ≤ z_13.toInt ∧ z_13.toInt ≤ 16) from by omega) (show (0 ≤ r.toInt ∧ r.toInt ≤ 7) from by omega) (show r.toInt ≤ p0.toInt from by omega) (show (16 - z_13.toInt) < ((n_10 : Nat) : Int) from by omega) hM (lv_sub hl [1, 2, 3, 4, 0] rfl)
      refine lv_iload_n hx hb dX6_workAll_2 rfl (lv_at hl 3 rfl) ?_
      refine lv_iload_n hx hb dX6_workAll_3 rfl (lv_at hl 1 rfl) ?_
      refine mm_icmp_gt (X := r.toInt) (Y := p0.toInt) (tgt := 51) hx hb dX6_workAll_4 (by decide) rfl rfl (fun c_14 => ?_) (fun c_14 => ?_)
      · exact mr_rv E hr hlk hsz hM trivial dX6_workAll_51
      · refine lv_iconst (v := 0) hx hb dX6_workAll_7 (by decide) ?_
        refine lv_istore (lv' := [(4, .int 0), (0, .ref h0), (1, .int p0), (2, .int p1), (3, .int r)]) hx hb dX6_workAll_8 hl (by decide) rfl (fun ls hl => ?_)
        exact B_10 4294967296 _ _ _ F_2 G_2 0 (show (0 ≤ (0 : Int32).toInt ∧ (0 : Int32).toInt ≤ 16) from by have n_0 := num_0; omega) (show (0 ≤ r.toInt ∧ r.toInt ≤ 7) from by have n_0 := num_0; omega) (show r.toInt ≤ p0.toInt from by have n_0 := num_0; omega) (show (16 - (0 : Int32).toInt) < ((4294967296 : Nat) : Int) from by have n_0 := num_0; omega) hM (lv_sub hl [1, 2, 3, 4, 0] rfl)
  refine lv_iconst (v := 0) hx hb dX6_workAll_0 (by decide) ?_
  refine lv_istore_n (lv' := [(3, .int 0), (0, .ref h0), (1, .int p0), (2, .int p1)]) hx hb dX6_workAll_1 rfl hl (by decide) rfl (fun ls hl => ?_)
  exact B_2 4294967296 _ _ _ F G 0 (show (0 ≤ (0 : Int32).toInt ∧ (0 : Int32).toInt ≤ 8) from by have n_0 := num_0; omega) (show (8 - (0 : Int32).toInt) < ((4294967296 : Nat) : Int) from by have n_0 := num_0; omega) hM (lv_sub hl [1, 2, 3, 0] rfl)
