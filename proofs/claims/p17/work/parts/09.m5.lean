theorem num_m2 : ((-2) : Int32).toInt = -2 := by decide
theorem num_21 : (21 : Int32).toInt = 21 := by decide
def w3X6_time : List Cond := .code yX6_time cX6_time 6 (some .int) :: ([.fieldLink RX6 126 "SkiShotsModel" "thrown" "I", .methodLink RX6 210 yX6_isIn, .instanceMethod yX6_isIn, .selects RX6 yX6_isIn yX6_isIn, .initialized RX6, .code yX6_isIn cX6_isIn 3 (some .boolean), .methodLink RX6 203 yX6_isRace, .instanceMethod yX6_isRace, .selects RX6 yX6_isRace yX6_isRace, .code yX6_isRace cX6_isRace 2 (some .boolean), .fieldLink RX6 200 "SkiShotsModel" "races" "I", .methodLink RX6 206 yX6_isRacer, .instanceMethod yX6_isRacer, .selects RX6 yX6_isRacer yX6_isRacer, .code yX6_isRacer cX6_isRacer 2 (some .boolean), .fieldLink RX6 197 "SkiShotsModel" "racers" "I", .fieldLink RX6 81 "SkiShotsModel" "entryOf" "[I", .methodLink RX6 241 yX6_isDay, .instanceMethod yX6_isDay, .selects RX6 yX6_isDay yX6_isDay, .code yX6_isDay cX6_isDay 2 (some .boolean), .fieldLink RX6 194 "SkiShotsModel" "today" "I", .methodLink RX6 244 yX6_workAll, .instanceMethod yX6_workAll, .selects RX6 yX6_workAll yX6_workAll, .code yX6_workAll cX6_workAll 5 none, .fieldLink RX6 72 "SkiShotsModel" "rEntries" "[I", .fieldLink RX6 78 "SkiShotsModel" "entries" "[I", .methodLink RX6 237 yX6_work, .instanceMethod yX6_work, .selects RX6 yX6_work yX6_work, .code yX6_work cX6_work 12 none, .fieldLink RX6 108 "SkiShotsModel" "low" "[I", .fieldLink RX6 111 "SkiShotsModel" "high" "[I", .fieldLink RX6 105 "SkiShotsModel" "start" "[I", .fieldLink RX6 60 "SkiShotsModel" "rCost" "[I", .fieldLink RX6 114 "SkiShotsModel" "missLow" "[I", .fieldLink RX6 117 "SkiShotsModel" "missHigh" "[I", .fieldLink RX6 57 "SkiShotsModel" "rLoop" "[Z", .methodLink RX6 230 yX6_known, .instanceMethod yX6_known, .selects RX6 yX6_known yX6_known, .code yX6_known cX6_known 7 (some .int), .fieldLink RX6 99 "SkiShotsModel" "tDay" "[I", .fieldLink RX6 84 "SkiShotsModel" "tRace" "[I", .fieldLink RX6 87 "SkiShotsModel" "tRacer" "[I", .fieldLink RX6 90 "SkiShotsModel" "tSort" "[I", .fieldLink RX6 93 "SkiShotsModel" "tK" "[I", .fieldLink RX6 96 "SkiShotsModel" "tV" "[I", .fieldLink RX6 217 "SkiShotsModel" "told" "I", .fieldLink RX6 51 "SkiShotsModel" "rShoots" "[I", .fieldLink RX6 48 "SkiShotsModel" "rLaps" "[I", .methodLink RX6 234 yX6_hits, .static yX6_hits, .code yX6_hits cX6_hits 3 (some .int), .methodLink RX6 227 yX6_startOf, .instanceMethod yX6_startOf, .selects RX6 yX6_startOf yX6_startOf, .code yX6_startOf cX6_startOf 5 (some .int), .fieldLink RX6 63 "SkiShotsModel" "rHow" "[I", .fieldLink RX6 69 "SkiShotsModel" "rBy" "[I", .methodLink RX6 224 yX6_least, .instanceMethod yX6_least, .selects RX6 yX6_least yX6_least, .code yX6_least cX6_least 4 (some .int), .fieldLink RX6 66 "SkiShotsModel" "rNumber" "[I", .methodLink RX6 248 yX6_placed, .instanceMethod yX6_placed, .selects RX6 yX6_placed yX6_placed, .code yX6_placed cX6_placed 8 (some .int)] ++ wsX60)
set_option maxRecDepth 20000 in
theorem gc_X6_time_X6_isIn_1 : GoodIn w3X6_time (wsV RX6 210 RX6 yX6_isIn w3X6_isIn) := goodIn_p _ [6, 10, 15] rfl (by decide +kernel)
set_option maxRecDepth 20000 in
theorem gc_X6_time_X6_isDay_7 : GoodIn w3X6_time (wsV RX6 241 RX6 yX6_isDay w3X6_isDay) := goodIn_p _ [21] rfl (by decide +kernel)
set_option maxRecDepth 20000 in
theorem gc_X6_time_X6_workAll_14 : GoodIn w3X6_time (wsV RX6 244 RX6 yX6_workAll w3X6_workAll) := goodIn_p _ [26, 32, 43, 55, 59, 65] rfl (by decide +kernel)
set_option maxRecDepth 20000 in
theorem gc_X6_time_X6_placed_27 : GoodIn w3X6_time (wsV RX6 248 RX6 yX6_placed w3X6_placed) := goodIn_p _ [70] rfl (by decide +kernel)
set_option maxRecDepth 20000 in
theorem gc_X6_time_X6_placed_32 : GoodIn w3X6_time (wsV RX6 248 RX6 yX6_placed w3X6_placed) := goodIn_p _ [70] rfl (by decide +kernel)
set_option maxRecDepth 20000 in
theorem gc_X6_time_X6_known_36 : GoodIn w3X6_time (wsV RX6 230 RX6 yX6_known w3X6_known) := goodIn_p _ [43] rfl (by decide +kernel)
set_option maxHeartbeats 4000000 in
set_option maxRecDepth 100000 in
theorem g3_X6_time (l : Launch) (D : va_G) (h0 : Nat) (q : Nat → Nat) (cq : Nat → ClassId) (F : Nat → Int32) (G : Nat → Nat → Int32) (sz : Nat) (p0 : Int32) (p1 : Int32) (p2 : Int32) (p3 : Int32) (hI : mI F G) (hR3 : mR3 F G) : Met l yX6_time w3X6_time ({ frames := 4, cells := 0, slots := 0, locals := 102 }) (mPre D h0 q cq F G sz [.ref h0, .int p0, .int p1, .int p2, .int p3]) (mQi D h0 q cq F G sz [2] [45, 46, 47, 48, 49] (fun r F' G' => True)) 0 0 (va_A (mW h0 q cq F G) sz) := by
  refine mr_met (WF := [2]) (WG := [45, 46, 47, 48, 49]) (cc := cX6_time) (maxL := 6) (ret := (some .int)) (by decide) rfl rfl (by decide +kernel) (Nat.le_of_ble_eq_true rfl) hI ?_
  intro p e s m args below meth c ls E hml hr hlk hsz hA hM hl
  have hx := E.1
  have hb := E.2.1
  have hts := E.2.2.1
  have hown := E.2.2.2.2.1
  have hl : lv_has ls 6 [(0, .ref h0), (1, .int p0), (2, .int p1), (3, .int p2), (4, .int p3)] := hl
  refine lv_aload_n hx hb dX6_time_0 rfl (lv_at hl 0 rfl) ?_
  refine lv_iconst (v := 0) hx hb dX6_time_1 (by decide) ?_
  refine mr_put (v := 0) E hM 2 (by decide) (index := 126) (mm_at 1 rfl) rfl rfl (by decide +kernel) ms_2 (mm_nb rfl) (by decide) dX6_time_2 (fun H locs hM => ?_)
  refine lv_aload_n hx hb dX6_time_5 rfl (lv_at hl 0 rfl) ?_
  refine lv_iload_n hx hb dX6_time_6 rfl (lv_at hl 1 rfl) ?_
  refine lv_iload_n hx hb dX6_time_7 rfl (lv_at hl 2 rfl) ?_
  have b_2 : 0 ≤ (F 15).toInt ∧ (F 15).toInt ≤ 16 := hM.fb 15 rfl
  have b_3 : 0 ≤ (F 17).toInt ∧ (F 17).toInt ≤ 8 := hM.fb 17 rfl
  refine mr_callp (av := [.int p0, .int p1]) (rest := []) E hA hml hM (g3_X6_isIn l D h0 q cq (upd F 2 0) G _ p0 p1 hM.2.2.2.1 ) (cwV 2 hts gc_X6_time_X6_isIn_1 rfl rfl rfl (by decide +kernel) ⟨Nat.le_of_ble_eq_true rfl, Nat.le_of_ble_eq_true rfl⟩) rfl hl.1 rfl (Nat.le_of_ble_eq_true rfl) dX6_time_8 ⟨Nat.le_of_ble_eq_true rfl, Nat.le_of_ble_eq_true rfl⟩ (fun r_4 H locs p_5 hM => ?_)
  replace p_5 : (r_4.toInt = 1 ∧ 0 ≤ p0.toInt ∧ p0.toInt < (F 17).toInt ∧ 0 ≤ p1.toInt ∧ p1.toInt < (F 15).toInt) ∨ r_4.toInt = 0 := p_5
  refine mm_if_eq (X := r_4.toInt) (tgt := 34) hx hb dX6_time_11 (by decide) rfl (fun c_6 => ?_) (fun c_6 => ?_)
  · refine lv_bipush (v := (-2)) hx hb dX6_time_34 (by decide) ?_
    exact mr_ri E hr hlk hsz hM trivial dX6_time_36
  · refine lv_aload_n hx hb dX6_time_14 rfl (lv_at hl 0 rfl) ?_
    refine lv_iload_n hx hb dX6_time_15 rfl (lv_at hl 3 rfl) ?_
    have b_8 : 0 ≤ (F 3).toInt ∧ (F 3).toInt ≤ 200 := hM.fb 3 rfl
    refine mr_callp (av := [.int p2]) (rest := []) E hA hml hM (g3_X6_isDay l D h0 q cq (upd F 2 0) G _ p2 hM.2.2.2.1 ) (cwV 1 hts gc_X6_time_X6_isDay_7 rfl rfl rfl (by decide +kernel) ⟨Nat.le_of_ble_eq_true rfl, Nat.le_of_ble_eq_true rfl⟩) rfl hl.1 rfl (Nat.le_of_ble_eq_true rfl) dX6_time_16 ⟨Nat.le_of_ble_eq_true rfl, Nat.le_of_ble_eq_true rfl⟩ (fun r_9 H locs p_10 hM => ?_)
    replace p_10 : (r_9.toInt = 1 ∧ 0 ≤ p2.toInt ∧ p2.toInt ≤ (F 3).toInt) ∨ (r_9.toInt = 0 ∧ ¬ (0 ≤ p2.toInt ∧ p2.toInt ≤ (F 3).toInt)) := p_10
    refine mm_if_eq (X := r_9.toInt) (tgt := 34) hx hb dX6_time_19 (by decide) rfl (fun c_11 => ?_) (fun c_11 => ?_)
    · refine lv_bipush (v := (-2)) hx hb dX6_time_34 (by decide) ?_
      exact mr_ri E hr hlk hsz hM trivial dX6_time_36
    · refine lv_iload hx hb dX6_time_22 (lv_at hl 4 rfl) ?_
      refine mm_if_lt (X := p3.toInt) (tgt := 34) hx hb dX6_time_24 (by decide) rfl (fun c_12 => ?_) (fun c_12 => ?_)
      · refine lv_bipush (v := (-2)) hx hb dX6_time_34 (by decide) ?_
        exact mr_ri E hr hlk hsz hM trivial dX6_time_36
      · refine lv_iload hx hb dX6_time_27 (lv_at hl 4 rfl) ?_
        refine lv_bipush (v := 7) hx hb dX6_time_29 (by decide) ?_
        refine mm_icmp_le (X := p3.toInt) (Y := 7) (tgt := 37) hx hb dX6_time_31 (by decide) rfl num_7 (fun c_13 => ?_) (fun c_13 => ?_)
        · refine lv_aload_n hx hb dX6_time_37 rfl (lv_at hl 0 rfl) ?_
          refine lv_iload_n hx hb dX6_time_38 rfl (lv_at hl 1 rfl) ?_
          refine lv_iload_n hx hb dX6_time_39 rfl (lv_at hl 3 rfl) ?_
          refine mr_callv (av := [.int p0, .int p2]) (rest := []) E hA hml hM (g3_X6_workAll l D h0 q cq (upd F 2 0) G _ p0 p2 hM.2.2.2.1 (show -1 ≤ p0.toInt ∧ p0.toInt < 8 from by have n9_0 := num_0; omega) (show p0.toInt < (F 17).toInt from by have n9_0 := num_0; omega) hR3) (cwV 2 hts gc_X6_time_X6_workAll_14 rfl rfl rfl (by decide +kernel) ⟨Nat.le_of_ble_eq_true rfl, Nat.le_of_ble_eq_true rfl⟩) rfl hl.1 rfl (Nat.le_of_ble_eq_true rfl) dX6_time_40 ⟨Nat.le_of_ble_eq_true rfl, Nat.le_of_ble_eq_true rfl⟩ (by decide) (by decide) (fun F_17 G_18 H locs fr_19 p_16 hM => ?_)
          refine lv_bipush (v := 16) hx hb dX6_time_43 (by decide) ?_
          refine lv_iload_n hx hb dX6_time_45 rfl (lv_at hl 1 rfl) ?_
          refine mm_imul (X := 16) (Y := p0.toInt) hx hb dX6_time_46 num_16 rfl (by omega) (fun z_20 hz_20 => ?_)
          refine lv_iload_n hx hb dX6_time_47 rfl (lv_at hl 2 rfl) ?_
          refine mm_iadd (X := z_20.toInt) (Y := p1.toInt) hx hb dX6_time_48 rfl rfl (by omega) (fun z_21 hz_21 => ?_)
          refine lv_istore (lv' := [(5, .int z_21), (0, .ref h0), (1, .int p0), (2, .int p1), (3, .int p2), (4, .int p3)]) hx hb dX6_time_49 hl (by decide) rfl (fun ls hl => ?_)
          refine lv_iload hx hb dX6_time_51 (lv_at hl 5 rfl) ?_
          by_cases s_22 : p3.toInt = 0
          · refine lv_tableIn (tgt := 96) (off := 43) hx hb dX6_time_53 (by omega) (by omega) (by rw [s_22]; rfl) (by decide) ?_
            refine lv_aload_n hx hb dX6_time_96 rfl (lv_at hl 1 rfl) ?_
            refine mr_get (v := .ref (q 45)) E hM 45 (by decide) (index := 105) (mm_at 35 rfl) rfl rfl dX6_time_97 ?_
            refine lv_iload hx hb dX6_time_100 (lv_at hl 0 rfl) ?_
            refine mr_ald (X := z_21.toInt) E hM 31 30 rfl rfl rfl (by omega) dX6_time_102 ?_
            exact mr_ri E hr hlk hsz hM trivial dX6_time_103
          by_cases s_23 : p3.toInt = 1
          · refine lv_tableIn (tgt := 104) (off := 51) hx hb dX6_time_53 (by omega) (by omega) (by rw [s_23]; rfl) (by decide) ?_
            refine lv_aload_n hx hb dX6_time_104 rfl (lv_at hl 1 rfl) ?_
            refine mr_get (v := .ref (q 46)) E hM 46 (by decide) (index := 108) (mm_at 33 rfl) rfl rfl dX6_time_105 ?_
            refine lv_iload hx hb dX6_time_108 (lv_at hl 0 rfl) ?_
            refine mr_ald (X := z_21.toInt) E hM 32 31 rfl rfl rfl (by omega) dX6_time_110 ?_
            exact mr_ri E hr hlk hsz hM trivial dX6_time_111
          by_cases s_24 : p3.toInt = 2
          · refine lv_tableIn (tgt := 112) (off := 59) hx hb dX6_time_53 (by omega) (by omega) (by rw [s_24]; rfl) (by decide) ?_
            refine lv_aload_n hx hb dX6_time_112 rfl (lv_at hl 1 rfl) ?_
            refine mr_get (v := .ref (q 47)) E hM 47 (by decide) (index := 111) (mm_at 34 rfl) rfl rfl dX6_time_113 ?_
            refine lv_iload hx hb dX6_time_116 (lv_at hl 0 rfl) ?_
            refine mr_ald (X := z_21.toInt) E hM 33 32 rfl rfl rfl (by omega) dX6_time_118 ?_
            exact mr_ri E hr hlk hsz hM trivial dX6_time_119
          by_cases s_25 : p3.toInt = 3
          · refine lv_tableIn (tgt := 120) (off := 67) hx hb dX6_time_53 (by omega) (by omega) (by rw [s_25]; rfl) (by decide) ?_
            refine lv_aload_n hx hb dX6_time_120 rfl (lv_at hl 1 rfl) ?_
            refine mr_get (v := .ref (q 46)) E hM 46 (by decide) (index := 108) (mm_at 33 rfl) rfl rfl dX6_time_121 ?_
            refine lv_iload hx hb dX6_time_124 (lv_at hl 0 rfl) ?_
            refine mr_ald (X := z_21.toInt) E hM 32 31 rfl rfl rfl (by omega) dX6_time_126 ?_
            refine mm_if_ge (X := (G_18 46 (Int32.toNatClampNeg z_21)).toInt) (tgt := 134) hx hb dX6_time_127 (by decide) rfl (fun c_26 => ?_) (fun c_26 => ?_)
            · refine lv_aload_n hx hb dX6_time_134 rfl (lv_at hl 1 rfl) ?_
              refine lv_iload_n hx hb dX6_time_135 rfl (lv_at hl 2 rfl) ?_
              refine lv_iload_n hx hb dX6_time_136 rfl (lv_at hl 3 rfl) ?_
              refine lv_iconst (v := 1) hx hb dX6_time_137 (by decide) ?_
              refine mr_callp (av := [.int p0, .int p1, .int 1]) (rest := []) E hA hml hM (g3_X6_placed l D h0 q cq F_17 G_18 _ p0 p1 1 hM.2.2.2.1 (show 0 ≤ p0.toInt ∧ p0.toInt < 8 from by have n_2 := num_1; omega) (show 0 ≤ p1.toInt ∧ p1.toInt < 16 from by have n_2 := num_1; omega)) (cwV 3 hts gc_X6_time_X6_placed_27 rfl rfl rfl (by decide +kernel) ⟨Nat.le_of_ble_eq_true rfl, Nat.le_of_ble_eq_true rfl⟩) rfl hl.1 rfl (Nat.le_of_ble_eq_true rfl) dX6_time_138 ⟨Nat.le_of_ble_eq_true rfl, Nat.le_of_ble_eq_true rfl⟩ (fun r_28 H locs p_29 hM => ?_)
              exact mr_ri E hr hlk hsz hM trivial dX6_time_141
            · refine lv_iconst (v := (-1)) hx hb dX6_time_130 (by decide) ?_
              refine lv_goto (tgt := 141) hx hb dX6_time_131 (by decide) ?_
              exact mr_ri E hr hlk hsz hM trivial dX6_time_141
          by_cases s_30 : p3.toInt = 4
          · refine lv_tableIn (tgt := 142) (off := 89) hx hb dX6_time_53 (by omega) (by omega) (by rw [s_30]; rfl) (by decide) ?_
            refine lv_aload_n hx hb dX6_time_142 rfl (lv_at hl 1 rfl) ?_
            refine mr_get (v := .ref (q 46)) E hM 46 (by decide) (index := 108) (mm_at 33 rfl) rfl rfl dX6_time_143 ?_
            refine lv_iload hx hb dX6_time_146 (lv_at hl 0 rfl) ?_
            refine mr_ald (X := z_21.toInt) E hM 32 31 rfl rfl rfl (by omega) dX6_time_148 ?_
            refine mm_if_ge (X := (G_18 46 (Int32.toNatClampNeg z_21)).toInt) (tgt := 156) hx hb dX6_time_149 (by decide) rfl (fun c_31 => ?_) (fun c_31 => ?_)
            · refine lv_aload_n hx hb dX6_time_156 rfl (lv_at hl 1 rfl) ?_
              refine lv_iload_n hx hb dX6_time_157 rfl (lv_at hl 2 rfl) ?_
              refine lv_iload_n hx hb dX6_time_158 rfl (lv_at hl 3 rfl) ?_
              refine lv_iconst (v := 0) hx hb dX6_time_159 (by decide) ?_
              refine mr_callp (av := [.int p0, .int p1, .int 0]) (rest := []) E hA hml hM (g3_X6_placed l D h0 q cq F_17 G_18 _ p0 p1 0 hM.2.2.2.1 (show 0 ≤ p0.toInt ∧ p0.toInt < 8 from by have n_2 := num_0; omega) (show 0 ≤ p1.toInt ∧ p1.toInt < 16 from by have n_2 := num_0; omega)) (cwV 3 hts gc_X6_time_X6_placed_32 rfl rfl rfl (by decide +kernel) ⟨Nat.le_of_ble_eq_true rfl, Nat.le_of_ble_eq_true rfl⟩) rfl hl.1 rfl (Nat.le_of_ble_eq_true rfl) dX6_time_160 ⟨Nat.le_of_ble_eq_true rfl, Nat.le_of_ble_eq_true rfl⟩ (fun r_33 H locs p_34 hM => ?_)
              exact mr_ri E hr hlk hsz hM trivial dX6_time_163
            · refine lv_iconst (v := (-1)) hx hb dX6_time_152 (by decide) ?_
              refine lv_goto (tgt := 163) hx hb dX6_time_153 (by decide) ?_
              exact mr_ri E hr hlk hsz hM trivial dX6_time_163
          by_cases s_35 : p3.toInt = 5
          · refine lv_tableIn (tgt := 164) (off := 111) hx hb dX6_time_53 (by omega) (by omega) (by rw [s_35]; rfl) (by decide) ?_
            refine lv_aload_n hx hb dX6_time_164 rfl (lv_at hl 1 rfl) ?_
            refine lv_iload_n hx hb dX6_time_165 rfl (lv_at hl 2 rfl) ?_
            refine lv_iload_n hx hb dX6_time_166 rfl (lv_at hl 3 rfl) ?_
            refine lv_iconst (v := 3) hx hb dX6_time_167 (by decide) ?_
            refine lv_iconst (v := 0) hx hb dX6_time_168 (by decide) ?_
            refine lv_iload_n hx hb dX6_time_169 rfl (lv_at hl 4 rfl) ?_
            refine mr_callp (av := [.int p0, .int p1, .int 3, .int 0, .int p2]) (rest := []) E hA hml hM (g3_X6_known l D h0 q cq F_17 G_18 _ p0 p1 3 0 p2 hM.2.2.2.1 ) (cwV 5 hts gc_X6_time_X6_known_36 rfl rfl rfl (by decide +kernel) ⟨Nat.le_of_ble_eq_true rfl, Nat.le_of_ble_eq_true rfl⟩) rfl hl.1 rfl (Nat.le_of_ble_eq_true rfl) dX6_time_170 ⟨Nat.le_of_ble_eq_true rfl, Nat.le_of_ble_eq_true rfl⟩ (fun r_37 H locs p_38 hM => ?_)
            refine lv_iconst (v := 1) hx hb dX6_time_173 (by decide) ?_
            refine mm_icmp_ne (X := r_37.toInt) (Y := 1) (tgt := 181) hx hb dX6_time_174 (by decide) rfl num_1 (fun c_39 => ?_) (fun c_39 => ?_)
            · refine lv_iconst (v := 0) hx hb dX6_time_181 (by decide) ?_
              exact mr_ri E hr hlk hsz hM trivial dX6_time_182
            · refine lv_iconst (v := 1) hx hb dX6_time_177 (by decide) ?_
              refine lv_goto (tgt := 182) hx hb dX6_time_178 (by decide) ?_
              exact mr_ri E hr hlk hsz hM trivial dX6_time_182
          by_cases s_40 : p3.toInt = 6
          · refine lv_tableIn (tgt := 183) (off := 130) hx hb dX6_time_53 (by omega) (by omega) (by rw [s_40]; rfl) (by decide) ?_
            refine lv_aload_n hx hb dX6_time_183 rfl (lv_at hl 1 rfl) ?_
            refine mr_get (v := .ref (q 48)) E hM 48 (by decide) (index := 114) (mm_at 37 rfl) rfl rfl dX6_time_184 ?_
            refine lv_iload hx hb dX6_time_187 (lv_at hl 0 rfl) ?_
            refine mr_ald (X := z_21.toInt) E hM 34 33 rfl rfl rfl (by omega) dX6_time_189 ?_
            exact mr_ri E hr hlk hsz hM trivial dX6_time_190
          · refine lv_tableOut (tgt := 191) hx hb dX6_time_53 (by omega) (by decide) ?_
            refine lv_aload_n hx hb dX6_time_191 rfl (lv_at hl 1 rfl) ?_
            refine mr_get (v := .ref (q 49)) E hM 49 (by decide) (index := 117) (mm_at 38 rfl) rfl rfl dX6_time_192 ?_
            refine lv_iload hx hb dX6_time_195 (lv_at hl 0 rfl) ?_
            refine mr_ald (X := z_21.toInt) E hM 35 34 rfl rfl rfl (by omega) dX6_time_197 ?_
            exact mr_ri E hr hlk hsz hM trivial dX6_time_198
        · refine lv_bipush (v := (-2)) hx hb dX6_time_34 (by decide) ?_
          exact mr_ri E hr hlk hsz hM trivial dX6_time_36
def w3X6_split : List Cond := .code yX6_split cX6_split 7 (some .int) :: ([.fieldLink RX6 126 "SkiShotsModel" "thrown" "I", .methodLink RX6 210 yX6_isIn, .instanceMethod yX6_isIn, .selects RX6 yX6_isIn yX6_isIn, .initialized RX6, .code yX6_isIn cX6_isIn 3 (some .boolean), .methodLink RX6 203 yX6_isRace, .instanceMethod yX6_isRace, .selects RX6 yX6_isRace yX6_isRace, .code yX6_isRace cX6_isRace 2 (some .boolean), .fieldLink RX6 200 "SkiShotsModel" "races" "I", .methodLink RX6 206 yX6_isRacer, .instanceMethod yX6_isRacer, .selects RX6 yX6_isRacer yX6_isRacer, .code yX6_isRacer cX6_isRacer 2 (some .boolean), .fieldLink RX6 197 "SkiShotsModel" "racers" "I", .fieldLink RX6 81 "SkiShotsModel" "entryOf" "[I", .methodLink RX6 241 yX6_isDay, .instanceMethod yX6_isDay, .selects RX6 yX6_isDay yX6_isDay, .code yX6_isDay cX6_isDay 2 (some .boolean), .fieldLink RX6 194 "SkiShotsModel" "today" "I", .fieldLink RX6 48 "SkiShotsModel" "rLaps" "[I", .methodLink RX6 244 yX6_workAll, .instanceMethod yX6_workAll, .selects RX6 yX6_workAll yX6_workAll, .code yX6_workAll cX6_workAll 5 none, .fieldLink RX6 72 "SkiShotsModel" "rEntries" "[I", .fieldLink RX6 78 "SkiShotsModel" "entries" "[I", .methodLink RX6 237 yX6_work, .instanceMethod yX6_work, .selects RX6 yX6_work yX6_work, .code yX6_work cX6_work 12 none, .fieldLink RX6 108 "SkiShotsModel" "low" "[I", .fieldLink RX6 111 "SkiShotsModel" "high" "[I", .fieldLink RX6 105 "SkiShotsModel" "start" "[I", .fieldLink RX6 60 "SkiShotsModel" "rCost" "[I", .fieldLink RX6 114 "SkiShotsModel" "missLow" "[I", .fieldLink RX6 117 "SkiShotsModel" "missHigh" "[I", .fieldLink RX6 57 "SkiShotsModel" "rLoop" "[Z", .methodLink RX6 230 yX6_known, .instanceMethod yX6_known, .selects RX6 yX6_known yX6_known, .code yX6_known cX6_known 7 (some .int), .fieldLink RX6 99 "SkiShotsModel" "tDay" "[I", .fieldLink RX6 84 "SkiShotsModel" "tRace" "[I", .fieldLink RX6 87 "SkiShotsModel" "tRacer" "[I", .fieldLink RX6 90 "SkiShotsModel" "tSort" "[I", .fieldLink RX6 93 "SkiShotsModel" "tK" "[I", .fieldLink RX6 96 "SkiShotsModel" "tV" "[I", .fieldLink RX6 217 "SkiShotsModel" "told" "I", .fieldLink RX6 51 "SkiShotsModel" "rShoots" "[I", .methodLink RX6 234 yX6_hits, .static yX6_hits, .code yX6_hits cX6_hits 3 (some .int), .methodLink RX6 227 yX6_startOf, .instanceMethod yX6_startOf, .selects RX6 yX6_startOf yX6_startOf, .code yX6_startOf cX6_startOf 5 (some .int), .fieldLink RX6 63 "SkiShotsModel" "rHow" "[I", .fieldLink RX6 69 "SkiShotsModel" "rBy" "[I", .methodLink RX6 224 yX6_least, .instanceMethod yX6_least, .selects RX6 yX6_least yX6_least, .code yX6_least cX6_least 4 (some .int), .fieldLink RX6 66 "SkiShotsModel" "rNumber" "[I"] ++ wsX60)
set_option maxRecDepth 20000 in
theorem gc_X6_split_X6_isIn_1 : GoodIn w3X6_split (wsV RX6 210 RX6 yX6_isIn w3X6_isIn) := goodIn_p _ [6, 10, 15] rfl (by decide +kernel)
set_option maxRecDepth 20000 in
theorem gc_X6_split_X6_isDay_7 : GoodIn w3X6_split (wsV RX6 241 RX6 yX6_isDay w3X6_isDay) := goodIn_p _ [21] rfl (by decide +kernel)
set_option maxRecDepth 20000 in
theorem gc_X6_split_X6_workAll_14 : GoodIn w3X6_split (wsV RX6 244 RX6 yX6_workAll w3X6_workAll) := goodIn_p _ [27, 33, 44, 55, 59, 65] rfl (by decide +kernel)
set_option maxRecDepth 20000 in
theorem gc_X6_split_X6_known_20 : GoodIn w3X6_split (wsV RX6 230 RX6 yX6_known w3X6_known) := goodIn_p _ [44] rfl (by decide +kernel)
set_option maxHeartbeats 4000000 in
set_option maxRecDepth 100000 in
theorem g3_X6_split (l : Launch) (D : va_G) (h0 : Nat) (q : Nat → Nat) (cq : Nat → ClassId) (F : Nat → Int32) (G : Nat → Nat → Int32) (sz : Nat) (p0 : Int32) (p1 : Int32) (p2 : Int32) (p3 : Int32) (hI : mI F G) (hR3 : mR3 F G) : Met l yX6_split w3X6_split ({ frames := 4, cells := 0, slots := 0, locals := 102 }) (mPre D h0 q cq F G sz [.ref h0, .int p0, .int p1, .int p2, .int p3]) (mQi D h0 q cq F G sz [2] [45, 46, 47, 48, 49] (fun r F' G' => True)) 0 0 (va_A (mW h0 q cq F G) sz) := by
  refine mr_met (WF := [2]) (WG := [45, 46, 47, 48, 49]) (cc := cX6_split) (maxL := 7) (ret := (some .int)) (by decide) rfl rfl (by decide +kernel) (Nat.le_of_ble_eq_true rfl) hI ?_
  intro p e s m args below meth c ls E hml hr hlk hsz hA hM hl
  have hx := E.1
  have hb := E.2.1
  have hts := E.2.2.1
  have hown := E.2.2.2.2.1
  have hl : lv_has ls 7 [(0, .ref h0), (1, .int p0), (2, .int p1), (3, .int p2), (4, .int p3)] := hl
  refine lv_aload_n hx hb dX6_split_0 rfl (lv_at hl 0 rfl) ?_
  refine lv_iconst (v := 0) hx hb dX6_split_1 (by decide) ?_
  refine mr_put (v := 0) E hM 2 (by decide) (index := 126) (mm_at 1 rfl) rfl rfl (by decide +kernel) ms_2 (mm_nb rfl) (by decide) dX6_split_2 (fun H locs hM => ?_)
  refine lv_aload_n hx hb dX6_split_5 rfl (lv_at hl 0 rfl) ?_
  refine lv_iload_n hx hb dX6_split_6 rfl (lv_at hl 1 rfl) ?_
  refine lv_iload_n hx hb dX6_split_7 rfl (lv_at hl 2 rfl) ?_
  have b_2 : 0 ≤ (F 15).toInt ∧ (F 15).toInt ≤ 16 := hM.fb 15 rfl
  have b_3 : 0 ≤ (F 17).toInt ∧ (F 17).toInt ≤ 8 := hM.fb 17 rfl
  refine mr_callp (av := [.int p0, .int p1]) (rest := []) E hA hml hM (g3_X6_isIn l D h0 q cq (upd F 2 0) G _ p0 p1 hM.2.2.2.1 ) (cwV 2 hts gc_X6_split_X6_isIn_1 rfl rfl rfl (by decide +kernel) ⟨Nat.le_of_ble_eq_true rfl, Nat.le_of_ble_eq_true rfl⟩) rfl hl.1 rfl (Nat.le_of_ble_eq_true rfl) dX6_split_8 ⟨Nat.le_of_ble_eq_true rfl, Nat.le_of_ble_eq_true rfl⟩ (fun r_4 H locs p_5 hM => ?_)
  replace p_5 : (r_4.toInt = 1 ∧ 0 ≤ p0.toInt ∧ p0.toInt < (F 17).toInt ∧ 0 ≤ p1.toInt ∧ p1.toInt < (F 15).toInt) ∨ r_4.toInt = 0 := p_5
  refine mm_if_eq (X := r_4.toInt) (tgt := 38) hx hb dX6_split_11 (by decide) rfl (fun c_6 => ?_) (fun c_6 => ?_)
  · refine lv_bipush (v := (-2)) hx hb dX6_split_38 (by decide) ?_
    exact mr_ri E hr hlk hsz hM trivial dX6_split_40
  · refine lv_aload_n hx hb dX6_split_14 rfl (lv_at hl 0 rfl) ?_
    refine lv_iload hx hb dX6_split_15 (lv_at hl 4 rfl) ?_
    have b_8 : 0 ≤ (F 3).toInt ∧ (F 3).toInt ≤ 200 := hM.fb 3 rfl
    refine mr_callp (av := [.int p3]) (rest := []) E hA hml hM (g3_X6_isDay l D h0 q cq (upd F 2 0) G _ p3 hM.2.2.2.1 ) (cwV 1 hts gc_X6_split_X6_isDay_7 rfl rfl rfl (by decide +kernel) ⟨Nat.le_of_ble_eq_true rfl, Nat.le_of_ble_eq_true rfl⟩) rfl hl.1 rfl (Nat.le_of_ble_eq_true rfl) dX6_split_17 ⟨Nat.le_of_ble_eq_true rfl, Nat.le_of_ble_eq_true rfl⟩ (fun r_9 H locs p_10 hM => ?_)
    replace p_10 : (r_9.toInt = 1 ∧ 0 ≤ p3.toInt ∧ p3.toInt ≤ (F 3).toInt) ∨ (r_9.toInt = 0 ∧ ¬ (0 ≤ p3.toInt ∧ p3.toInt ≤ (F 3).toInt)) := p_10
    refine mm_if_eq (X := r_9.toInt) (tgt := 38) hx hb dX6_split_20 (by decide) rfl (fun c_11 => ?_) (fun c_11 => ?_)
    · refine lv_bipush (v := (-2)) hx hb dX6_split_38 (by decide) ?_
      exact mr_ri E hr hlk hsz hM trivial dX6_split_40
    · refine lv_iload_n hx hb dX6_split_23 rfl (lv_at hl 3 rfl) ?_
      refine lv_iconst (v := 1) hx hb dX6_split_24 (by decide) ?_
      refine mm_icmp_lt (X := p2.toInt) (Y := 1) (tgt := 38) hx hb dX6_split_25 (by decide) rfl num_1 (fun c_12 => ?_) (fun c_12 => ?_)
      · refine lv_bipush (v := (-2)) hx hb dX6_split_38 (by decide) ?_
        exact mr_ri E hr hlk hsz hM trivial dX6_split_40
      · refine lv_iload_n hx hb dX6_split_28 rfl (lv_at hl 3 rfl) ?_
        refine lv_aload_n hx hb dX6_split_29 rfl (lv_at hl 0 rfl) ?_
        refine mr_get (v := .ref (q 19)) E hM 19 (by decide) (index := 48) (mm_at 23 rfl) rfl rfl dX6_split_30 ?_
        refine lv_iload_n hx hb dX6_split_33 rfl (lv_at hl 1 rfl) ?_
        refine mr_ald (X := p0.toInt) E hM 12 11 rfl rfl rfl (by omega) dX6_split_34 ?_
        refine mm_icmp_le (X := p2.toInt) (Y := (G 19 (Int32.toNatClampNeg p0)).toInt) (tgt := 41) hx hb dX6_split_35 (by decide) rfl rfl (fun c_13 => ?_) (fun c_13 => ?_)
        · refine lv_aload_n hx hb dX6_split_41 rfl (lv_at hl 0 rfl) ?_
          refine lv_iload_n hx hb dX6_split_42 rfl (lv_at hl 1 rfl) ?_
          refine lv_iload hx hb dX6_split_43 (lv_at hl 4 rfl) ?_
          refine mr_callv (av := [.int p0, .int p3]) (rest := []) E hA hml hM (g3_X6_workAll l D h0 q cq (upd F 2 0) G _ p0 p3 hM.2.2.2.1 (show -1 ≤ p0.toInt ∧ p0.toInt < 8 from by have n9_0 := num_0; omega) (show p0.toInt < (F 17).toInt from by have n9_0 := num_0; omega) hR3) (cwV 2 hts gc_X6_split_X6_workAll_14 rfl rfl rfl (by decide +kernel) ⟨Nat.le_of_ble_eq_true rfl, Nat.le_of_ble_eq_true rfl⟩) rfl hl.1 rfl (Nat.le_of_ble_eq_true rfl) dX6_split_45 ⟨Nat.le_of_ble_eq_true rfl, Nat.le_of_ble_eq_true rfl⟩ (by decide) (by decide) (fun F_17 G_18 H locs fr_19 p_16 hM => ?_)
          refine lv_aload_n hx hb dX6_split_48 rfl (lv_at hl 0 rfl) ?_
          refine lv_iload_n hx hb dX6_split_49 rfl (lv_at hl 1 rfl) ?_
          refine lv_iload_n hx hb dX6_split_50 rfl (lv_at hl 2 rfl) ?_
          refine lv_iconst (v := 0) hx hb dX6_split_51 (by decide) ?_
          refine lv_iload_n hx hb dX6_split_52 rfl (lv_at hl 3 rfl) ?_
          refine lv_iload hx hb dX6_split_53 (lv_at hl 4 rfl) ?_
          refine mr_callp (av := [.int p0, .int p1, .int 0, .int p2, .int p3]) (rest := []) E hA hml hM (g3_X6_known l D h0 q cq F_17 G_18 _ p0 p1 0 p2 p3 hM.2.2.2.1 ) (cwV 5 hts gc_X6_split_X6_known_20 rfl rfl rfl (by decide +kernel) ⟨Nat.le_of_ble_eq_true rfl, Nat.le_of_ble_eq_true rfl⟩) rfl hl.1 rfl (Nat.le_of_ble_eq_true rfl) dX6_split_55 ⟨Nat.le_of_ble_eq_true rfl, Nat.le_of_ble_eq_true rfl⟩ (fun r_21 H locs p_22 hM => ?_)
          refine lv_istore (lv' := [(5, .int r_21), (0, .ref h0), (1, .int p0), (2, .int p1), (3, .int p2), (4, .int p3)]) hx hb dX6_split_58 hl (by decide) rfl (fun ls hl => ?_)
          refine lv_aload_n hx hb dX6_split_60 rfl (lv_at hl 1 rfl) ?_
          refine mr_get (v := .ref (q 45)) E hM 45 (by decide) (index := 105) (mm_at 36 rfl) rfl rfl dX6_split_61 ?_
          refine lv_bipush (v := 16) hx hb dX6_split_64 (by decide) ?_
          refine lv_iload_n hx hb dX6_split_66 rfl (lv_at hl 2 rfl) ?_
          refine mm_imul (X := 16) (Y := p0.toInt) hx hb dX6_split_67 num_16 rfl (by omega) (fun z_23 hz_23 => ?_)
          refine lv_iload_n hx hb dX6_split_68 rfl (lv_at hl 3 rfl) ?_
          refine mm_iadd (X := z_23.toInt) (Y := p1.toInt) hx hb dX6_split_69 rfl rfl (by omega) (fun z_24 hz_24 => ?_)
          refine mr_ald (X := z_24.toInt) E hM 31 30 rfl rfl rfl (by omega) dX6_split_70 ?_
          refine lv_istore (lv' := [(6, .int (G_18 45 (Int32.toNatClampNeg z_24))), (5, .int r_21), (0, .ref h0), (1, .int p0), (2, .int p1), (3, .int p2), (4, .int p3)]) hx hb dX6_split_71 hl (by decide) rfl (fun ls hl => ?_)
          refine lv_iload hx hb dX6_split_73 (lv_at hl 1 rfl) ?_
          refine mm_if_lt (X := r_21.toInt) (tgt := 90) hx hb dX6_split_75 (by decide) rfl (fun c_25 => ?_) (fun c_25 => ?_)
          · refine lv_iconst (v := (-1)) hx hb dX6_split_90 (by decide) ?_
            refine lv_goto (tgt := 99) hx hb dX6_split_91 (by decide) ?_
            exact mr_ri E hr hlk hsz hM trivial dX6_split_99
          · refine lv_iload hx hb dX6_split_78 (lv_at hl 0 rfl) ?_
            refine mm_if_lt (X := (G_18 45 (Int32.toNatClampNeg z_24)).toInt) (tgt := 90) hx hb dX6_split_80 (by decide) rfl (fun c_26 => ?_) (fun c_26 => ?_)
            · refine lv_iconst (v := (-1)) hx hb dX6_split_90 (by decide) ?_
              refine lv_goto (tgt := 99) hx hb dX6_split_91 (by decide) ?_
              exact mr_ri E hr hlk hsz hM trivial dX6_split_99
            · refine lv_iload hx hb dX6_split_83 (lv_at hl 1 rfl) ?_
              refine lv_iload hx hb dX6_split_85 (lv_at hl 0 rfl) ?_
              refine mm_icmp_ge (X := r_21.toInt) (Y := (G_18 45 (Int32.toNatClampNeg z_24)).toInt) (tgt := 94) hx hb dX6_split_87 (by decide) rfl rfl (fun c_27 => ?_) (fun c_27 => ?_)
              · refine lv_iload hx hb dX6_split_94 (lv_at hl 1 rfl) ?_
                refine lv_iload hx hb dX6_split_96 (lv_at hl 0 rfl) ?_
                refine mm_isubU hx hb dX6_split_98 (fun z_28 => ?_)
                exact mr_ri E hr hlk hsz hM trivial dX6_split_99
              · refine lv_iconst (v := (-1)) hx hb dX6_split_90 (by decide) ?_
                refine lv_goto (tgt := 99) hx hb dX6_split_91 (by decide) ?_
                exact mr_ri E hr hlk hsz hM trivial dX6_split_99
        · refine lv_bipush (v := (-2)) hx hb dX6_split_38 (by decide) ?_
          exact mr_ri E hr hlk hsz hM trivial dX6_split_40
def w3X6_order : List Cond := .code yX6_order cX6_order 8 (some .int) :: ([.fieldLink RX6 120 "SkiShotsModel" "line" "[I", .fieldLink RX6 108 "SkiShotsModel" "low" "[I", .fieldLink RX6 72 "SkiShotsModel" "rEntries" "[I", .fieldLink RX6 78 "SkiShotsModel" "entries" "[I", .fieldLink RX6 126 "SkiShotsModel" "thrown" "I", .methodLink RX6 203 yX6_isRace, .instanceMethod yX6_isRace, .selects RX6 yX6_isRace yX6_isRace, .initialized RX6, .code yX6_isRace cX6_isRace 2 (some .boolean), .fieldLink RX6 200 "SkiShotsModel" "races" "I", .methodLink RX6 241 yX6_isDay, .instanceMethod yX6_isDay, .selects RX6 yX6_isDay yX6_isDay, .code yX6_isDay cX6_isDay 2 (some .boolean), .fieldLink RX6 194 "SkiShotsModel" "today" "I", .methodLink RX6 244 yX6_workAll, .instanceMethod yX6_workAll, .selects RX6 yX6_workAll yX6_workAll, .code yX6_workAll cX6_workAll 5 none, .methodLink RX6 237 yX6_work, .instanceMethod yX6_work, .selects RX6 yX6_work yX6_work, .code yX6_work cX6_work 12 none, .fieldLink RX6 111 "SkiShotsModel" "high" "[I", .fieldLink RX6 105 "SkiShotsModel" "start" "[I", .fieldLink RX6 60 "SkiShotsModel" "rCost" "[I", .fieldLink RX6 114 "SkiShotsModel" "missLow" "[I", .fieldLink RX6 117 "SkiShotsModel" "missHigh" "[I", .fieldLink RX6 57 "SkiShotsModel" "rLoop" "[Z", .methodLink RX6 230 yX6_known, .instanceMethod yX6_known, .selects RX6 yX6_known yX6_known, .code yX6_known cX6_known 7 (some .int), .fieldLink RX6 99 "SkiShotsModel" "tDay" "[I", .fieldLink RX6 84 "SkiShotsModel" "tRace" "[I", .fieldLink RX6 87 "SkiShotsModel" "tRacer" "[I", .fieldLink RX6 90 "SkiShotsModel" "tSort" "[I", .fieldLink RX6 93 "SkiShotsModel" "tK" "[I", .fieldLink RX6 96 "SkiShotsModel" "tV" "[I", .fieldLink RX6 217 "SkiShotsModel" "told" "I", .fieldLink RX6 51 "SkiShotsModel" "rShoots" "[I", .fieldLink RX6 48 "SkiShotsModel" "rLaps" "[I", .methodLink RX6 234 yX6_hits, .static yX6_hits, .code yX6_hits cX6_hits 3 (some .int), .methodLink RX6 227 yX6_startOf, .instanceMethod yX6_startOf, .selects RX6 yX6_startOf yX6_startOf, .code yX6_startOf cX6_startOf 5 (some .int), .fieldLink RX6 63 "SkiShotsModel" "rHow" "[I", .fieldLink RX6 69 "SkiShotsModel" "rBy" "[I", .fieldLink RX6 81 "SkiShotsModel" "entryOf" "[I", .methodLink RX6 224 yX6_least, .instanceMethod yX6_least, .selects RX6 yX6_least yX6_least, .code yX6_least cX6_least 4 (some .int), .fieldLink RX6 197 "SkiShotsModel" "racers" "I", .fieldLink RX6 66 "SkiShotsModel" "rNumber" "[I"] ++ wsX60)
set_option maxRecDepth 20000 in
theorem gc_X6_order_X6_isRace_31 : GoodIn w3X6_order (wsV RX6 203 RX6 yX6_isRace w3X6_isRace) := goodIn_p _ [10] rfl (by decide +kernel)
set_option maxRecDepth 20000 in
theorem gc_X6_order_X6_isDay_36 : GoodIn w3X6_order (wsV RX6 241 RX6 yX6_isDay w3X6_isDay) := goodIn_p _ [15] rfl (by decide +kernel)
set_option maxRecDepth 20000 in
theorem gc_X6_order_X6_workAll_41 : GoodIn w3X6_order (wsV RX6 244 RX6 yX6_workAll w3X6_workAll) := goodIn_p _ [20, 24, 34, 46, 50, 57] rfl (by decide +kernel)
set_option maxHeartbeats 4000000 in
set_option maxRecDepth 100000 in
theorem g3_X6_order (l : Launch) (D : va_G) (h0 : Nat) (q : Nat → Nat) (cq : Nat → ClassId) (F : Nat → Int32) (G : Nat → Nat → Int32) (sz : Nat) (p0 : Int32) (p1 : Int32) (p2 : Int32) (hI : mI F G) (hR3 : mR3 F G) : Met l yX6_order w3X6_order ({ frames := 4, cells := 0, slots := 0, locals := 102 }) (mPre D h0 q cq F G sz [.ref h0, .int p0, .int p1, .int p2]) (mQi D h0 q cq F G sz [2] [45, 46, 47, 48, 49, 50] (fun r F' G' => True)) 0 0 (va_A (mW h0 q cq F G) sz) := by
  refine mr_met (WF := [2]) (WG := [45, 46, 47, 48, 49, 50]) (cc := cX6_order) (maxL := 8) (ret := (some .int)) (by decide) rfl rfl (by decide +kernel) (Nat.le_of_ble_eq_true rfl) hI ?_
  intro p e s m args below meth c ls E hml hr hlk hsz hA hM hl
  have hx := E.1
  have hb := E.2.1
  have hts := E.2.2.1
  have hown := E.2.2.2.2.1
  have hl : lv_has ls 8 [(0, .ref h0), (1, .int p0), (2, .int p1), (3, .int p2)] := hl
  have B_35 : ∀ n_35 : Nat, ∀ (H : Heap) (locs : List Loc) (ls : Array Slot) (F_35 : Nat → Int32) (G_35 : Nat → Nat → Int32) (many i : Int32), (0 ≤ i.toInt ∧ i.toInt ≤ 16) → (0 ≤ many.toInt ∧ many.toInt ≤ 16) → 0 ≤ p0.toInt ∧ p0.toInt < 8 → many.toInt ≤ i.toInt → (16 - i.toInt) < (n_35 : Int) → mQ D h0 q cq (va_A (mW h0 q cq F G) sz) s.heap [2] [45, 46, 47, 48, 49, 50] F G H locs F_35 G_35 → lv_has ls 8 [(0, .ref h0), (1, .int p0), (2, .int p1), (3, .int p2), (4, .int many), (5, .int i)] → W p l e ({ frames := 4, cells := 0, slots := 0, locals := 102 }) s m args below meth c H locs 0 0 (MQ below (mQi D h0 q cq F G sz [2] [45, 46, 47, 48, 49, 50] (fun r F' G' => True)) args s 0 0 (va_A (mW h0 q cq F G) sz)) (F0 m 35 ls []) := by
    intro n_35
    induction n_35 with
    | zero => intro H locs ls F_35 G_35 many i f35_0 f35_1 f35_2 f35_3 hn hM hl; exact False.elim (by have hfr_35 := hM.fr; omega)
    | succ n_35 ih_35 =>
      intro H locs ls F_35 G_35 many i f35_0 f35_1 f35_2 f35_3 hn hM hl
      have hfr_35 := hM.fr
      have B_82 : ∀ n_82 : Nat, ∀ (H : Heap) (locs : List Loc) (ls : Array Slot) (F_82 : Nat → Int32) (G_82 : Nat → Nat → Int32) (w ad : Int32), (0 ≤ w.toInt ∧ w.toInt ≤ 15) → (0 ≤ ad.toInt ∧ ad.toInt ≤ 15) → (0 ≤ i.toInt ∧ i.toInt ≤ 15) → (ad.toInt) < (n_82 : Int) → mQ D h0 q cq (va_A (mW h0 q cq F G) sz) s.heap [2] [45, 46, 47, 48, 49, 50] F G H locs F_82 G_82 → lv_has ls 8 [(0, .ref h0), (1, .int p0), (2, .int p1), (3, .int p2), (4, .int many), (5, .int i), (6, .int w), (7, .int ad)] → W p l e ({ frames := 4, cells := 0, slots := 0, locals := 102 }) s m args below meth c H locs 0 0 (MQ below (mQi D h0 q cq F G sz [2] [45, 46, 47, 48, 49, 50] (fun r F' G' => True)) args s 0 0 (va_A (mW h0 q cq F G) sz)) (F0 m 82 ls []) := by
        intro n_82
        induction n_82 with
        | zero => intro H locs ls F_82 G_82 w ad f82_0 f82_1 f82_2 hn hM hl; exact False.elim (by have hfr_82 := hM.fr; omega)
        | succ n_82 ih_82 =>
          intro H locs ls F_82 G_82 w ad f82_0 f82_1 f82_2 hn hM hl
          have hfr_82 := hM.fr
          refine lv_iload hx hb dX6_order_82 (lv_at hl 7 rfl) ?_
          refine mm_if_le (X := ad.toInt) (tgt := 143) hx hb dX6_order_84 (by decide) rfl (fun c_1 => ?_) (fun c_1 => ?_)
          · refine lv_aload_n hx hb dX6_order_143 rfl (lv_at hl 0 rfl) ?_
            refine mr_get (v := .ref (q 50)) E hM 50 (by decide) (index := 120) (mm_at 1 rfl) rfl rfl dX6_order_144 ?_
            refine lv_iload hx hb dX6_order_147 (lv_at hl 7 rfl) ?_
            refine lv_iload hx hb dX6_order_149 (lv_at hl 6 rfl) ?_
            refine mr_ast (X := ad.toInt) E hM 50 36 35 rfl rfl rfl (by omega) mg_50 (by decide) (mm_bdA (X := w.toInt) (a := 0) (b := 15) rfl rfl (by omega)) (by decide) dX6_order_151 (fun H locs G_2 eG_2 hM => ?_)
            refine mm_iinc (X := many.toInt) (v := 1) (lv2 := fun z => [(4, .int z), (0, .ref h0), (1, .int p0), (2, .int p1), (3, .int p2), (5, .int i), (6, .int w), (7, .int ad)]) hx hb dX6_order_152 hl (k := 4) rfl rfl (by decide) num_1 (by omega) (by decide) (fun _ => rfl) (fun z_3 ls hz_3 hl => ?_)
            have hl : lv_has ls 8 [(4, .int z_3), (0, .ref h0), (1, .int p0), (2, .int p1), (3, .int p2), (5, .int i), (6, .int w), (7, .int ad)] := hl
            refine mm_iinc (X := i.toInt) (v := 1) (lv2 := fun z => [(5, .int z), (4, .int z_3), (0, .ref h0), (1, .int p0), (2, .int p1), (3, .int p2), (6, .int w), (7, .int ad)]) hx hb dX6_order_155 hl (k := 5) rfl rfl (by decide) num_1 (by omega) (by decide) (fun _ => rfl) (fun z_4 ls hz_4 hl => ?_)
            have hl : lv_has ls 8 [(5, .int z_4), (4, .int z_3), (0, .ref h0), (1, .int p0), (2, .int p1), (3, .int p2), (6, .int w), (7, .int ad)] := hl
            refine lv_goto (tgt := 35) hx hb dX6_order_158 (by decide) ?_
            exact ih_35 _ _ _ F_82 G_2 z_3 z_4 (show (0 ≤ z_4.toInt ∧ z_4.toInt ≤ 16) from by omega) (show (0 ≤ z_3.toInt ∧ z_3.toInt ≤ 16) from by omega) (show 0 ≤ p0.toInt ∧ p0.toInt < 8 from by omega) (show z_3.toInt ≤ z_4.toInt from by omega) (show (16 - z_4.toInt) < ((n_35 : Nat) : Int) from by omega) hM (lv_sub hl [2, 3, 4, 5, 1, 0] rfl)
          · refine lv_aload_n hx hb dX6_order_87 rfl (lv_at hl 0 rfl) ?_
            refine mr_get (v := .ref (q 46)) E hM 46 (by decide) (index := 108) (mm_at 2 rfl) rfl rfl dX6_order_88 ?_
            refine lv_bipush (v := 16) hx hb dX6_order_91 (by decide) ?_
            refine lv_iload_n hx hb dX6_order_93 rfl (lv_at hl 1 rfl) ?_
            refine mm_imul (X := 16) (Y := p0.toInt) hx hb dX6_order_94 num_16 rfl (by omega) (fun z_5 hz_5 => ?_)
            refine lv_aload_n hx hb dX6_order_95 rfl (lv_at hl 0 rfl) ?_
            refine mr_get (v := .ref (q 50)) E hM 50 (by decide) (index := 120) (mm_at 1 rfl) rfl rfl dX6_order_96 ?_
            refine lv_iload hx hb dX6_order_99 (lv_at hl 7 rfl) ?_
            refine lv_iconst (v := 1) hx hb dX6_order_101 (by decide) ?_
            refine mm_isub (X := ad.toInt) (Y := 1) hx hb dX6_order_102 rfl num_1 (by omega) (fun z_6 hz_6 => ?_)
            refine mr_ald (X := z_6.toInt) E hM 36 35 rfl rfl rfl (by omega) dX6_order_103 ?_
            have b_7 : 0 ≤ (G_82 50 (Int32.toNatClampNeg z_6)).toInt ∧ (G_82 50 (Int32.toNatClampNeg z_6)).toInt ≤ 15 := hM.ab 50 rfl _
            refine mm_iadd (X := z_5.toInt) (Y := (G_82 50 (Int32.toNatClampNeg z_6)).toInt) hx hb dX6_order_104 rfl rfl (by omega) (fun z_8 hz_8 => ?_)
            refine mr_ald (X := z_8.toInt) E hM 32 31 rfl rfl rfl (by omega) dX6_order_105 ?_
            refine lv_aload_n hx hb dX6_order_106 rfl (lv_at hl 0 rfl) ?_
            refine mr_get (v := .ref (q 46)) E hM 46 (by decide) (index := 108) (mm_at 2 rfl) rfl rfl dX6_order_107 ?_
            refine lv_bipush (v := 16) hx hb dX6_order_110 (by decide) ?_
            refine lv_iload_n hx hb dX6_order_112 rfl (lv_at hl 1 rfl) ?_
            refine mm_imul (X := 16) (Y := p0.toInt) hx hb dX6_order_113 num_16 rfl (by omega) (fun z_9 hz_9 => ?_)
            refine lv_iload hx hb dX6_order_114 (lv_at hl 6 rfl) ?_
            refine mm_iadd (X := z_9.toInt) (Y := w.toInt) hx hb dX6_order_116 rfl rfl (by omega) (fun z_10 hz_10 => ?_)
            refine mr_ald (X := z_10.toInt) E hM 32 31 rfl rfl rfl (by omega) dX6_order_117 ?_
            refine mm_icmp_le (X := (G_82 46 (Int32.toNatClampNeg z_8)).toInt) (Y := (G_82 46 (Int32.toNatClampNeg z_10)).toInt) (tgt := 143) hx hb dX6_order_118 (by decide) rfl rfl (fun c_11 => ?_) (fun c_11 => ?_)
            · refine lv_aload_n hx hb dX6_order_143 rfl (lv_at hl 0 rfl) ?_
              refine mr_get (v := .ref (q 50)) E hM 50 (by decide) (index := 120) (mm_at 1 rfl) rfl rfl dX6_order_144 ?_
              refine lv_iload hx hb dX6_order_147 (lv_at hl 7 rfl) ?_
              refine lv_iload hx hb dX6_order_149 (lv_at hl 6 rfl) ?_
              refine mr_ast (X := ad.toInt) E hM 50 36 35 rfl rfl rfl (by omega) mg_50 (by decide) (mm_bdA (X := w.toInt) (a := 0) (b := 15) rfl rfl (by omega)) (by decide) dX6_order_151 (fun H locs G_12 eG_12 hM => ?_)
              refine mm_iinc (X := many.toInt) (v := 1) (lv2 := fun z => [(4, .int z), (0, .ref h0), (1, .int p0), (2, .int p1), (3, .int p2), (5, .int i), (6, .int w), (7, .int ad)]) hx hb dX6_order_152 hl (k := 4) rfl rfl (by decide) num_1 (by omega) (by decide) (fun _ => rfl) (fun z_13 ls hz_13 hl => ?_)
              have hl : lv_has ls 8 [(4, .int z_13), (0, .ref h0), (1, .int p0), (2, .int p1), (3, .int p2), (5, .int i), (6, .int w), (7, .int ad)] := hl
              refine mm_iinc (X := i.toInt) (v := 1) (lv2 := fun z => [(5, .int z), (4, .int z_13), (0, .ref h0), (1, .int p0), (2, .int p1), (3, .int p2), (6, .int w), (7, .int ad)]) hx hb dX6_order_155 hl (k := 5) rfl rfl (by decide) num_1 (by omega) (by decide) (fun _ => rfl) (fun z_14 ls hz_14 hl => ?_)
              have hl : lv_has ls 8 [(5, .int z_14), (4, .int z_13), (0, .ref h0), (1, .int p0), (2, .int p1), (3, .int p2), (6, .int w), (7, .int ad)] := hl
              refine lv_goto (tgt := 35) hx hb dX6_order_158 (by decide) ?_
              exact ih_35 _ _ _ F_82 G_12 z_13 z_14 (show (0 ≤ z_14.toInt ∧ z_14.toInt ≤ 16) from by omega) (show (0 ≤ z_13.toInt ∧ z_13.toInt ≤ 16) from by omega) (show 0 ≤ p0.toInt ∧ p0.toInt < 8 from by omega) (show z_13.toInt ≤ z_14.toInt from by omega) (show (16 - z_14.toInt) < ((n_35 : Nat) : Int) from by omega) hM (lv_sub hl [2, 3, 4, 5, 1, 0] rfl)
            · refine lv_aload_n hx hb dX6_order_121 rfl (lv_at hl 0 rfl) ?_
              refine mr_get (v := .ref (q 50)) E hM 50 (by decide) (index := 120) (mm_at 1 rfl) rfl rfl dX6_order_122 ?_
              refine lv_iload hx hb dX6_order_125 (lv_at hl 7 rfl) ?_
              refine lv_aload_n hx hb dX6_order_127 rfl (lv_at hl 0 rfl) ?_
              refine mr_get (v := .ref (q 50)) E hM 50 (by decide) (index := 120) (mm_at 1 rfl) rfl rfl dX6_order_128 ?_
              refine lv_iload hx hb dX6_order_131 (lv_at hl 7 rfl) ?_
              refine lv_iconst (v := 1) hx hb dX6_order_133 (by decide) ?_
              refine mm_isub (X := ad.toInt) (Y := 1) hx hb dX6_order_134 rfl num_1 (by omega) (fun z_15 hz_15 => ?_)
              refine mr_ald (X := z_15.toInt) E hM 36 35 rfl rfl rfl (by omega) dX6_order_135 ?_
              have b_16 : 0 ≤ (G_82 50 (Int32.toNatClampNeg z_15)).toInt ∧ (G_82 50 (Int32.toNatClampNeg z_15)).toInt ≤ 15 := hM.ab 50 rfl _
              refine mr_ast (X := ad.toInt) E hM 50 36 35 rfl rfl rfl (by omega) mg_50 (by decide) (mm_bdA (X := (G_82 50 (Int32.toNatClampNeg z_15)).toInt) (a := 0) (b := 15) rfl rfl (by omega)) (by decide) dX6_order_136 (fun H locs G_17 eG_17 hM => ?_)
              refine mm_iinc (X := ad.toInt) (v := (-1)) (lv2 := fun z => [(7, .int z), (0, .ref h0), (1, .int p0), (2, .int p1), (3, .int p2), (4, .int many), (5, .int i), (6, .int w)]) hx hb dX6_order_137 hl (k := 7) rfl rfl (by decide) num_m1 (by omega) (by decide) (fun _ => rfl) (fun z_18 ls hz_18 hl => ?_)
              have hl : lv_has ls 8 [(7, .int z_18), (0, .ref h0), (1, .int p0), (2, .int p1), (3, .int p2), (4, .int many), (5, .int i), (6, .int w)] := hl
              refine lv_goto (tgt := 82) hx hb dX6_order_140 (by decide) ?_
              exact ih_82 _ _ _ F_82 G_17 w z_18 (show (0 ≤ w.toInt ∧ w.toInt ≤ 15) from by omega) (show (0 ≤ z_18.toInt ∧ z_18.toInt ≤ 15) from by omega) (show (0 ≤ i.toInt ∧ i.toInt ≤ 15) from by omega) (show (z_18.toInt) < ((n_82 : Nat) : Int) from by omega) hM (lv_sub hl [1, 2, 3, 4, 5, 6, 7, 0] rfl)
      refine lv_iload hx hb dX6_order_35 (lv_at hl 5 rfl) ?_
      refine lv_aload_n hx hb dX6_order_37 rfl (lv_at hl 0 rfl) ?_
      refine mr_get (v := .ref (q 27)) E hM 27 (by decide) (index := 72) (mm_at 3 rfl) rfl rfl dX6_order_38 ?_
      refine lv_iload_n hx hb dX6_order_41 rfl (lv_at hl 1 rfl) ?_
      refine mr_ald (X := p0.toInt) E hM 20 19 rfl rfl rfl (by omega) dX6_order_42 ?_
      have b_19 : 0 ≤ (G_35 27 (Int32.toNatClampNeg p0)).toInt ∧ (G_35 27 (Int32.toNatClampNeg p0)).toInt ≤ 16 := hM.ab 27 rfl _
      refine mm_icmp_ge (X := i.toInt) (Y := (G_35 27 (Int32.toNatClampNeg p0)).toInt) (tgt := 161) hx hb dX6_order_43 (by decide) rfl rfl (fun c_20 => ?_) (fun c_20 => ?_)
      · refine lv_iload_n hx hb dX6_order_161 rfl (lv_at hl 3 rfl) ?_
        refine mm_if_lt (X := p2.toInt) (tgt := 171) hx hb dX6_order_162 (by decide) rfl (fun c_21 => ?_) (fun c_21 => ?_)
        · refine lv_iconst (v := (-1)) hx hb dX6_order_171 (by decide) ?_
          refine lv_goto (tgt := 181) hx hb dX6_order_172 (by decide) ?_
          exact mr_ri E hr hlk hsz hM trivial dX6_order_181
        · refine lv_iload_n hx hb dX6_order_165 rfl (lv_at hl 3 rfl) ?_
          refine lv_iload hx hb dX6_order_166 (lv_at hl 4 rfl) ?_
          refine mm_icmp_lt (X := p2.toInt) (Y := many.toInt) (tgt := 175) hx hb dX6_order_168 (by decide) rfl rfl (fun c_22 => ?_) (fun c_22 => ?_)
          · refine lv_aload_n hx hb dX6_order_175 rfl (lv_at hl 0 rfl) ?_
            refine mr_get (v := .ref (q 50)) E hM 50 (by decide) (index := 120) (mm_at 1 rfl) rfl rfl dX6_order_176 ?_
            refine lv_iload_n hx hb dX6_order_179 rfl (lv_at hl 3 rfl) ?_
            refine mr_ald (X := p2.toInt) E hM 36 35 rfl rfl rfl (by omega) dX6_order_180 ?_
            have b_23 : 0 ≤ (G_35 50 (Int32.toNatClampNeg p2)).toInt ∧ (G_35 50 (Int32.toNatClampNeg p2)).toInt ≤ 15 := hM.ab 50 rfl _
            exact mr_ri E hr hlk hsz hM trivial dX6_order_181
          · refine lv_iconst (v := (-1)) hx hb dX6_order_171 (by decide) ?_
            refine lv_goto (tgt := 181) hx hb dX6_order_172 (by decide) ?_
            exact mr_ri E hr hlk hsz hM trivial dX6_order_181
      · refine lv_aload_n hx hb dX6_order_46 rfl (lv_at hl 0 rfl) ?_
        refine mr_get (v := .ref (q 29)) E hM 29 (by decide) (index := 78) (mm_at 4 rfl) rfl rfl dX6_order_47 ?_
        refine lv_bipush (v := 16) hx hb dX6_order_50 (by decide) ?_
        refine lv_iload_n hx hb dX6_order_52 rfl (lv_at hl 1 rfl) ?_
        refine mm_imul (X := 16) (Y := p0.toInt) hx hb dX6_order_53 num_16 rfl (by omega) (fun z_24 hz_24 => ?_)
        refine lv_iload hx hb dX6_order_54 (lv_at hl 5 rfl) ?_
        refine mm_iadd (X := z_24.toInt) (Y := i.toInt) hx hb dX6_order_56 rfl rfl (by omega) (fun z_25 hz_25 => ?_)
        refine mr_ald (X := z_25.toInt) E hM 22 21 rfl rfl rfl (by omega) dX6_order_57 ?_
        have b_26 : 0 ≤ (G_35 29 (Int32.toNatClampNeg z_25)).toInt ∧ (G_35 29 (Int32.toNatClampNeg z_25)).toInt ≤ 15 := hM.ab 29 rfl _
        refine lv_istore (lv' := [(6, .int (G_35 29 (Int32.toNatClampNeg z_25))), (0, .ref h0), (1, .int p0), (2, .int p1), (3, .int p2), (4, .int many), (5, .int i)]) hx hb dX6_order_58 hl (by decide) rfl (fun ls hl => ?_)
        refine lv_aload_n hx hb dX6_order_60 rfl (lv_at hl 1 rfl) ?_
        refine mr_get (v := .ref (q 46)) E hM 46 (by decide) (index := 108) (mm_at 2 rfl) rfl rfl dX6_order_61 ?_
        refine lv_bipush (v := 16) hx hb dX6_order_64 (by decide) ?_
        refine lv_iload_n hx hb dX6_order_66 rfl (lv_at hl 2 rfl) ?_
        refine mm_imul (X := 16) (Y := p0.toInt) hx hb dX6_order_67 num_16 rfl (by omega) (fun z_27 hz_27 => ?_)
        refine lv_iload hx hb dX6_order_68 (lv_at hl 0 rfl) ?_
        refine mm_iadd (X := z_27.toInt) (Y := (G_35 29 (Int32.toNatClampNeg z_25)).toInt) hx hb dX6_order_70 rfl rfl (by omega) (fun z_28 hz_28 => ?_)
        refine mr_ald (X := z_28.toInt) E hM 32 31 rfl rfl rfl (by omega) dX6_order_71 ?_
        refine mm_if_ge (X := (G_35 46 (Int32.toNatClampNeg z_28)).toInt) (tgt := 78) hx hb dX6_order_72 (by decide) rfl (fun c_29 => ?_) (fun c_29 => ?_)
        · refine lv_iload hx hb dX6_order_78 (lv_at hl 5 rfl) ?_
          refine lv_istore (lv' := [(7, .int many), (6, .int (G_35 29 (Int32.toNatClampNeg z_25))), (0, .ref h0), (1, .int p0), (2, .int p1), (3, .int p2), (4, .int many), (5, .int i)]) hx hb dX6_order_80 hl (by decide) rfl (fun ls hl => ?_)
          exact B_82 4294967296 _ _ _ F_35 G_35 (G_35 29 (Int32.toNatClampNeg z_25)) many (show (0 ≤ (G_35 29 (Int32.toNatClampNeg z_25)).toInt ∧ (G_35 29 (Int32.toNatClampNeg z_25)).toInt ≤ 15) from by omega) (show (0 ≤ many.toInt ∧ many.toInt ≤ 15) from by omega) (show (0 ≤ i.toInt ∧ i.toInt ≤ 15) from by omega) (show (many.toInt) < ((4294967296 : Nat) : Int) from by omega) hM (lv_sub hl [2, 3, 4, 5, 6, 7, 1, 0] rfl)
        · refine lv_goto (tgt := 155) hx hb dX6_order_75 (by decide) ?_
          refine mm_iinc (X := i.toInt) (v := 1) (lv2 := fun z => [(5, .int z), (6, .int (G_35 29 (Int32.toNatClampNeg z_25))), (0, .ref h0), (1, .int p0), (2, .int p1), (3, .int p2), (4, .int many)]) hx hb dX6_order_155 hl (k := 6) rfl rfl (by decide) num_1 (by omega) (by decide) (fun _ => rfl) (fun z_30 ls hz_30 hl => ?_)
          have hl : lv_has ls 8 [(5, .int z_30), (6, .int (G_35 29 (Int32.toNatClampNeg z_25))), (0, .ref h0), (1, .int p0), (2, .int p1), (3, .int p2), (4, .int many)] := hl
          refine lv_goto (tgt := 35) hx hb dX6_order_158 (by decide) ?_
          exact ih_35 _ _ _ F_35 G_35 many z_30 (show (0 ≤ z_30.toInt ∧ z_30.toInt ≤ 16) from by omega) (show (0 ≤ many.toInt ∧ many.toInt ≤ 16) from by omega) (show 0 ≤ p0.toInt ∧ p0.toInt < 8 from by omega) (show many.toInt ≤ z_30.toInt from by omega) (show (16 - z_30.toInt) < ((n_35 : Nat) : Int) from by omega) hM (lv_sub hl [2, 3, 4, 5, 6, 0] rfl)
  refine lv_aload_n hx hb dX6_order_0 rfl (lv_at hl 0 rfl) ?_
  refine lv_iconst (v := 0) hx hb dX6_order_1 (by decide) ?_
  refine mr_put (v := 0) E hM 2 (by decide) (index := 126) (mm_at 5 rfl) rfl rfl (by decide +kernel) ms_2 (mm_nb rfl) (by decide) dX6_order_2 (fun H locs hM => ?_)
  refine lv_aload_n hx hb dX6_order_5 rfl (lv_at hl 0 rfl) ?_
  refine lv_iload_n hx hb dX6_order_6 rfl (lv_at hl 1 rfl) ?_
  have b_32 : 0 ≤ (F 17).toInt ∧ (F 17).toInt ≤ 8 := hM.fb 17 rfl
  refine mr_callp (av := [.int p0]) (rest := []) E hA hml hM (g3_X6_isRace l D h0 q cq (upd F 2 0) G _ p0 hM.2.2.2.1 ) (cwV 1 hts gc_X6_order_X6_isRace_31 rfl rfl rfl (by decide +kernel) ⟨Nat.le_of_ble_eq_true rfl, Nat.le_of_ble_eq_true rfl⟩) rfl hl.1 rfl (Nat.le_of_ble_eq_true rfl) dX6_order_7 ⟨Nat.le_of_ble_eq_true rfl, Nat.le_of_ble_eq_true rfl⟩ (fun r_33 H locs p_34 hM => ?_)
  replace p_34 : (r_33.toInt = 1 ∧ 0 ≤ p0.toInt ∧ p0.toInt < (F 17).toInt) ∨ (r_33.toInt = 0 ∧ ¬ (0 ≤ p0.toInt ∧ p0.toInt < (F 17).toInt)) := p_34
  refine mm_if_eq (X := r_33.toInt) (tgt := 21) hx hb dX6_order_10 (by decide) rfl (fun c_35 => ?_) (fun c_35 => ?_)
  · refine lv_iconst (v := (-1)) hx hb dX6_order_21 (by decide) ?_
    exact mr_ri E hr hlk hsz hM trivial dX6_order_22
  · refine lv_aload_n hx hb dX6_order_13 rfl (lv_at hl 0 rfl) ?_
    refine lv_iload_n hx hb dX6_order_14 rfl (lv_at hl 2 rfl) ?_
    have b_37 : 0 ≤ (F 3).toInt ∧ (F 3).toInt ≤ 200 := hM.fb 3 rfl
    refine mr_callp (av := [.int p1]) (rest := []) E hA hml hM (g3_X6_isDay l D h0 q cq (upd F 2 0) G _ p1 hM.2.2.2.1 ) (cwV 1 hts gc_X6_order_X6_isDay_36 rfl rfl rfl (by decide +kernel) ⟨Nat.le_of_ble_eq_true rfl, Nat.le_of_ble_eq_true rfl⟩) rfl hl.1 rfl (Nat.le_of_ble_eq_true rfl) dX6_order_15 ⟨Nat.le_of_ble_eq_true rfl, Nat.le_of_ble_eq_true rfl⟩ (fun r_38 H locs p_39 hM => ?_)
    replace p_39 : (r_38.toInt = 1 ∧ 0 ≤ p1.toInt ∧ p1.toInt ≤ (F 3).toInt) ∨ (r_38.toInt = 0 ∧ ¬ (0 ≤ p1.toInt ∧ p1.toInt ≤ (F 3).toInt)) := p_39
    refine mm_if_ne (X := r_38.toInt) (tgt := 23) hx hb dX6_order_18 (by decide) rfl (fun c_40 => ?_) (fun c_40 => ?_)
    · refine lv_aload_n hx hb dX6_order_23 rfl (lv_at hl 0 rfl) ?_
      refine lv_iload_n hx hb dX6_order_24 rfl (lv_at hl 1 rfl) ?_
      refine lv_iload_n hx hb dX6_order_25 rfl (lv_at hl 2 rfl) ?_
      refine mr_callv (av := [.int p0, .int p1]) (rest := []) E hA hml hM (g3_X6_workAll l D h0 q cq (upd F 2 0) G _ p0 p1 hM.2.2.2.1 (show -1 ≤ p0.toInt ∧ p0.toInt < 8 from by have n9_0 := num_0; omega) (show p0.toInt < (F 17).toInt from by have n9_0 := num_0; omega) hR3) (cwV 2 hts gc_X6_order_X6_workAll_41 rfl rfl rfl (by decide +kernel) ⟨Nat.le_of_ble_eq_true rfl, Nat.le_of_ble_eq_true rfl⟩) rfl hl.1 rfl (Nat.le_of_ble_eq_true rfl) dX6_order_26 ⟨Nat.le_of_ble_eq_true rfl, Nat.le_of_ble_eq_true rfl⟩ (by decide) (by decide) (fun F_44 G_45 H locs fr_46 p_43 hM => ?_)
      refine lv_iconst (v := 0) hx hb dX6_order_29 (by decide) ?_
      refine lv_istore (lv' := [(4, .int 0), (0, .ref h0), (1, .int p0), (2, .int p1), (3, .int p2)]) hx hb dX6_order_30 hl (by decide) rfl (fun ls hl => ?_)
      refine lv_iconst (v := 0) hx hb dX6_order_32 (by decide) ?_
      refine lv_istore (lv' := [(5, .int 0), (4, .int 0), (0, .ref h0), (1, .int p0), (2, .int p1), (3, .int p2)]) hx hb dX6_order_33 hl (by decide) rfl (fun ls hl => ?_)
      exact B_35 4294967296 _ _ _ F_44 G_45 0 0 (show (0 ≤ (0 : Int32).toInt ∧ (0 : Int32).toInt ≤ 16) from by have n_0 := num_0; have n_1 := num_0; omega) (show (0 ≤ (0 : Int32).toInt ∧ (0 : Int32).toInt ≤ 16) from by have n_0 := num_0; have n_1 := num_0; omega) (show 0 ≤ p0.toInt ∧ p0.toInt < 8 from by have n_0 := num_0; have n_1 := num_0; omega) (show (0 : Int32).toInt ≤ (0 : Int32).toInt from by have n_0 := num_0; have n_1 := num_0; omega) (show (16 - (0 : Int32).toInt) < ((4294967296 : Nat) : Int) from by have n_0 := num_0; have n_1 := num_0; omega) hM (lv_sub hl [2, 3, 4, 5, 1, 0] rfl)
    · refine lv_iconst (v := (-1)) hx hb dX6_order_21 (by decide) ?_
      exact mr_ri E hr hlk hsz hM trivial dX6_order_22
def w3X6_cup : List Cond := .code yX6_cup cX6_cup 6 none :: ([.fieldLink RX6 72 "SkiShotsModel" "rEntries" "[I", .fieldLink RX6 78 "SkiShotsModel" "entries" "[I", .fieldLink RX6 108 "SkiShotsModel" "low" "[I", .methodLink RX6 248 yX6_placed, .instanceMethod yX6_placed, .selects RX6 yX6_placed yX6_placed, .initialized RX6, .code yX6_placed cX6_placed 8 (some .int), .fieldLink RX6 111 "SkiShotsModel" "high" "[I", .fieldLink RX6 123 "SkiShotsModel" "sums" "[I", .fieldLink RX6 200 "SkiShotsModel" "races" "I", .methodLink RX6 244 yX6_workAll, .instanceMethod yX6_workAll, .selects RX6 yX6_workAll yX6_workAll, .code yX6_workAll cX6_workAll 5 none, .methodLink RX6 237 yX6_work, .instanceMethod yX6_work, .selects RX6 yX6_work yX6_work, .code yX6_work cX6_work 12 none, .fieldLink RX6 105 "SkiShotsModel" "start" "[I", .fieldLink RX6 60 "SkiShotsModel" "rCost" "[I", .fieldLink RX6 114 "SkiShotsModel" "missLow" "[I", .fieldLink RX6 117 "SkiShotsModel" "missHigh" "[I", .fieldLink RX6 57 "SkiShotsModel" "rLoop" "[Z", .methodLink RX6 230 yX6_known, .instanceMethod yX6_known, .selects RX6 yX6_known yX6_known, .code yX6_known cX6_known 7 (some .int), .fieldLink RX6 99 "SkiShotsModel" "tDay" "[I", .fieldLink RX6 84 "SkiShotsModel" "tRace" "[I", .fieldLink RX6 87 "SkiShotsModel" "tRacer" "[I", .fieldLink RX6 90 "SkiShotsModel" "tSort" "[I", .fieldLink RX6 93 "SkiShotsModel" "tK" "[I", .fieldLink RX6 96 "SkiShotsModel" "tV" "[I", .fieldLink RX6 217 "SkiShotsModel" "told" "I", .fieldLink RX6 51 "SkiShotsModel" "rShoots" "[I", .fieldLink RX6 48 "SkiShotsModel" "rLaps" "[I", .methodLink RX6 234 yX6_hits, .static yX6_hits, .code yX6_hits cX6_hits 3 (some .int), .methodLink RX6 227 yX6_startOf, .instanceMethod yX6_startOf, .selects RX6 yX6_startOf yX6_startOf, .code yX6_startOf cX6_startOf 5 (some .int), .fieldLink RX6 63 "SkiShotsModel" "rHow" "[I", .fieldLink RX6 69 "SkiShotsModel" "rBy" "[I", .fieldLink RX6 81 "SkiShotsModel" "entryOf" "[I", .methodLink RX6 224 yX6_least, .instanceMethod yX6_least, .selects RX6 yX6_least yX6_least, .code yX6_least cX6_least 4 (some .int), .fieldLink RX6 197 "SkiShotsModel" "racers" "I", .fieldLink RX6 66 "SkiShotsModel" "rNumber" "[I"] ++ wsX60)
set_option maxRecDepth 20000 in
theorem gc_X6_cup_X6_placed_10 : GoodIn w3X6_cup (wsV RX6 248 RX6 yX6_placed w3X6_placed) := goodIn_p _ [8] rfl (by decide +kernel)
set_option maxRecDepth 20000 in
theorem gc_X6_cup_X6_workAll_30 : GoodIn w3X6_cup (wsV RX6 244 RX6 yX6_workAll w3X6_workAll) := goodIn_p _ [15, 19, 28, 40, 44, 51] rfl (by decide +kernel)
set_option maxHeartbeats 4000000 in
set_option maxRecDepth 100000 in
theorem g3_X6_cup (l : Launch) (D : va_G) (h0 : Nat) (q : Nat → Nat) (cq : Nat → ClassId) (F : Nat → Int32) (G : Nat → Nat → Int32) (sz : Nat) (p0 : Int32) (hI : mI F G) (hR3 : mR3 F G) : Met l yX6_cup w3X6_cup ({ frames := 4, cells := 0, slots := 0, locals := 102 }) (mPre D h0 q cq F G sz [.ref h0, .int p0]) (mQv D h0 q cq F G sz [] [45, 46, 47, 48, 49, 51] (fun F' G' => True)) 0 0 (va_A (mW h0 q cq F G) sz) := by
  refine mr_met (WF := []) (WG := [45, 46, 47, 48, 49, 51]) (cc := cX6_cup) (maxL := 6) (ret := none) (by decide) rfl rfl (by decide +kernel) (Nat.le_of_ble_eq_true rfl) hI ?_
  intro p e s m args below meth c ls E hml hr hlk hsz hA hM hl
  have hx := E.1
  have hb := E.2.1
  have hts := E.2.2.1
  have hown := E.2.2.2.2.1
  have hl : lv_has ls 6 [(0, .ref h0), (1, .int p0)] := hl
  have B_34 : ∀ n_34 : Nat, ∀ (H : Heap) (locs : List Loc) (ls : Array Slot) (F_34 : Nat → Int32) (G_34 : Nat → Nat → Int32) (r : Int32), (0 ≤ r.toInt ∧ r.toInt ≤ 8) → (8 - r.toInt) < (n_34 : Int) → mQ D h0 q cq (va_A (mW h0 q cq F G) sz) s.heap [] [45, 46, 47, 48, 49, 51] F G H locs F_34 G_34 → lv_has ls 6 [(0, .ref h0), (1, .int p0), (2, .int r)] → W p l e ({ frames := 4, cells := 0, slots := 0, locals := 102 }) s m args below meth c H locs 0 0 (MQ below (mQv D h0 q cq F G sz [] [45, 46, 47, 48, 49, 51] (fun F' G' => True)) args s 0 0 (va_A (mW h0 q cq F G) sz)) (F0 m 34 ls []) := by
    intro n_34
    induction n_34 with
    | zero => intro H locs ls F_34 G_34 r f34_0 hn hM hl; exact False.elim (by have hfr_34 := hM.fr; omega)
    | succ n_34 ih_34 =>
      intro H locs ls F_34 G_34 r f34_0 hn hM hl
      have hfr_34 := hM.fr
      have B_44 : ∀ n_44 : Nat, ∀ (H : Heap) (locs : List Loc) (ls : Array Slot) (F_44 : Nat → Int32) (G_44 : Nat → Nat → Int32) (i : Int32), (0 ≤ i.toInt ∧ i.toInt ≤ 16) → (0 ≤ r.toInt ∧ r.toInt ≤ 7) → (16 - i.toInt) < (n_44 : Int) → mQ D h0 q cq (va_A (mW h0 q cq F G) sz) s.heap [] [45, 46, 47, 48, 49, 51] F G H locs F_44 G_44 → lv_has ls 6 [(0, .ref h0), (1, .int p0), (2, .int r), (3, .int i)] → W p l e ({ frames := 4, cells := 0, slots := 0, locals := 102 }) s m args below meth c H locs 0 0 (MQ below (mQv D h0 q cq F G sz [] [45, 46, 47, 48, 49, 51] (fun F' G' => True)) args s 0 0 (va_A (mW h0 q cq F G) sz)) (F0 m 44 ls []) := by
        intro n_44
        induction n_44 with
        | zero => intro H locs ls F_44 G_44 i f44_0 f44_1 hn hM hl; exact False.elim (by have hfr_44 := hM.fr; omega)
        | succ n_44 ih_44 =>
          intro H locs ls F_44 G_44 i f44_0 f44_1 hn hM hl
          have hfr_44 := hM.fr
          refine lv_iload_n hx hb dX6_cup_44 rfl (lv_at hl 3 rfl) ?_
          refine lv_aload_n hx hb dX6_cup_45 rfl (lv_at hl 0 rfl) ?_
          refine mr_get (v := .ref (q 27)) E hM 27 (by decide) (index := 72) (mm_at 1 rfl) rfl rfl dX6_cup_46 ?_
          refine lv_iload_n hx hb dX6_cup_49 rfl (lv_at hl 2 rfl) ?_
          refine mr_ald (X := r.toInt) E hM 20 19 rfl rfl rfl (by omega) dX6_cup_50 ?_
          have b_1 : 0 ≤ (G_44 27 (Int32.toNatClampNeg r)).toInt ∧ (G_44 27 (Int32.toNatClampNeg r)).toInt ≤ 16 := hM.ab 27 rfl _
          refine mm_icmp_ge (X := i.toInt) (Y := (G_44 27 (Int32.toNatClampNeg r)).toInt) (tgt := 125) hx hb dX6_cup_51 (by decide) rfl rfl (fun c_2 => ?_) (fun c_2 => ?_)
          · refine mm_iinc (X := r.toInt) (v := 1) (lv2 := fun z => [(2, .int z), (0, .ref h0), (1, .int p0), (3, .int i)]) hx hb dX6_cup_125 hl (k := 2) rfl rfl (by decide) num_1 (by omega) (by decide) (fun _ => rfl) (fun z_3 ls hz_3 hl => ?_)
            have hl : lv_has ls 6 [(2, .int z_3), (0, .ref h0), (1, .int p0), (3, .int i)] := hl
            refine lv_goto (tgt := 34) hx hb dX6_cup_128 (by decide) ?_
            exact ih_34 _ _ _ F_44 G_44 z_3 (show (0 ≤ z_3.toInt ∧ z_3.toInt ≤ 8) from by omega) (show (8 - z_3.toInt) < ((n_34 : Nat) : Int) from by omega) hM (lv_sub hl [1, 2, 0] rfl)
          · refine lv_aload_n hx hb dX6_cup_54 rfl (lv_at hl 0 rfl) ?_
            refine mr_get (v := .ref (q 29)) E hM 29 (by decide) (index := 78) (mm_at 2 rfl) rfl rfl dX6_cup_55 ?_
            refine lv_bipush (v := 16) hx hb dX6_cup_58 (by decide) ?_
            refine lv_iload_n hx hb dX6_cup_60 rfl (lv_at hl 2 rfl) ?_
            refine mm_imul (X := 16) (Y := r.toInt) hx hb dX6_cup_61 num_16 rfl (by omega) (fun z_4 hz_4 => ?_)
            refine lv_iload_n hx hb dX6_cup_62 rfl (lv_at hl 3 rfl) ?_
            refine mm_iadd (X := z_4.toInt) (Y := i.toInt) hx hb dX6_cup_63 rfl rfl (by omega) (fun z_5 hz_5 => ?_)
            refine mr_ald (X := z_5.toInt) E hM 22 21 rfl rfl rfl (by omega) dX6_cup_64 ?_
            have b_6 : 0 ≤ (G_44 29 (Int32.toNatClampNeg z_5)).toInt ∧ (G_44 29 (Int32.toNatClampNeg z_5)).toInt ≤ 15 := hM.ab 29 rfl _
            refine lv_istore (lv' := [(4, .int (G_44 29 (Int32.toNatClampNeg z_5))), (0, .ref h0), (1, .int p0), (2, .int r), (3, .int i)]) hx hb dX6_cup_65 hl (by decide) rfl (fun ls hl => ?_)
            refine lv_aload_n hx hb dX6_cup_67 rfl (lv_at hl 1 rfl) ?_
            refine mr_get (v := .ref (q 46)) E hM 46 (by decide) (index := 108) (mm_at 3 rfl) rfl rfl dX6_cup_68 ?_
            refine lv_bipush (v := 16) hx hb dX6_cup_71 (by decide) ?_
            refine lv_iload_n hx hb dX6_cup_73 rfl (lv_at hl 3 rfl) ?_
            refine mm_imul (X := 16) (Y := r.toInt) hx hb dX6_cup_74 num_16 rfl (by omega) (fun z_7 hz_7 => ?_)
            refine lv_iload hx hb dX6_cup_75 (lv_at hl 0 rfl) ?_
            refine mm_iadd (X := z_7.toInt) (Y := (G_44 29 (Int32.toNatClampNeg z_5)).toInt) hx hb dX6_cup_77 rfl rfl (by omega) (fun z_8 hz_8 => ?_)
            refine mr_ald (X := z_8.toInt) E hM 32 31 rfl rfl rfl (by omega) dX6_cup_78 ?_
            refine mm_if_ge (X := (G_44 46 (Int32.toNatClampNeg z_8)).toInt) (tgt := 85) hx hb dX6_cup_79 (by decide) rfl (fun c_9 => ?_) (fun c_9 => ?_)
            · refine lv_bipush (v := 21) hx hb dX6_cup_85 (by decide) ?_
              refine lv_aload_n hx hb dX6_cup_87 rfl (lv_at hl 1 rfl) ?_
              refine lv_iload_n hx hb dX6_cup_88 rfl (lv_at hl 3 rfl) ?_
              refine lv_iload hx hb dX6_cup_89 (lv_at hl 0 rfl) ?_
              refine lv_iconst (v := 0) hx hb dX6_cup_91 (by decide) ?_
              refine mr_callp (av := [.int r, .int (G_44 29 (Int32.toNatClampNeg z_5)), .int 0]) (rest := [.int 21]) E hA hml hM (g3_X6_placed l D h0 q cq F_44 G_44 _ r (G_44 29 (Int32.toNatClampNeg z_5)) 0 hM.2.2.2.1 (show 0 ≤ r.toInt ∧ r.toInt < 8 from by have n_2 := num_0; omega) (show 0 ≤ (G_44 29 (Int32.toNatClampNeg z_5)).toInt ∧ (G_44 29 (Int32.toNatClampNeg z_5)).toInt < 16 from by have n_2 := num_0; omega)) (cwV 3 hts gc_X6_cup_X6_placed_10 rfl rfl rfl (by decide +kernel) ⟨Nat.le_of_ble_eq_true rfl, Nat.le_of_ble_eq_true rfl⟩) rfl hl.1 rfl (Nat.le_of_ble_eq_true rfl) dX6_cup_92 ⟨Nat.le_of_ble_eq_true rfl, Nat.le_of_ble_eq_true rfl⟩ (fun r_11 H locs p_12 hM => ?_)
              refine mm_isubU hx hb dX6_cup_95 (fun z_13 => ?_)
              refine lv_istore (lv' := [(5, .int z_13), (4, .int (G_44 29 (Int32.toNatClampNeg z_5))), (0, .ref h0), (1, .int p0), (2, .int r), (3, .int i)]) hx hb dX6_cup_96 hl (by decide) rfl (fun ls hl => ?_)
              refine lv_aload_n hx hb dX6_cup_98 rfl (lv_at hl 2 rfl) ?_
              refine mr_get (v := .ref (q 51)) E hM 51 (by decide) (index := 123) (mm_at 10 rfl) rfl rfl dX6_cup_99 ?_
              refine lv_iload hx hb dX6_cup_102 (lv_at hl 1 rfl) ?_
              refine lv_dup2_11 hx hb dX6_cup_104 rfl rfl ?_
              refine mr_ald (X := (G_44 29 (Int32.toNatClampNeg z_5)).toInt) E hM 37 36 rfl rfl rfl (by omega) dX6_cup_105 ?_
              refine lv_iload hx hb dX6_cup_106 (lv_at hl 0 rfl) ?_
              refine mm_if_le (X := z_13.toInt) (tgt := 116) hx hb dX6_cup_108 (by decide) rfl (fun c_14 => ?_) (fun c_14 => ?_)
              · refine lv_iconst (v := 0) hx hb dX6_cup_116 (by decide) ?_
                refine mm_iaddU hx hb dX6_cup_117 (fun z_15 => ?_)
                refine mr_ast (X := (G_44 29 (Int32.toNatClampNeg z_5)).toInt) E hM 51 37 36 rfl rfl rfl (by omega) mg_51 (by decide) (mm_nbA rfl) (by decide) dX6_cup_118 (fun H locs G_16 eG_16 hM => ?_)
                refine mm_iinc (X := i.toInt) (v := 1) (lv2 := fun z => [(3, .int z), (5, .int z_13), (4, .int (G_44 29 (Int32.toNatClampNeg z_5))), (0, .ref h0), (1, .int p0), (2, .int r)]) hx hb dX6_cup_119 hl (k := 5) rfl rfl (by decide) num_1 (by omega) (by decide) (fun _ => rfl) (fun z_17 ls hz_17 hl => ?_)
                have hl : lv_has ls 6 [(3, .int z_17), (5, .int z_13), (4, .int (G_44 29 (Int32.toNatClampNeg z_5))), (0, .ref h0), (1, .int p0), (2, .int r)] := hl
                refine lv_goto (tgt := 44) hx hb dX6_cup_122 (by decide) ?_
                exact ih_44 _ _ _ F_44 G_16 z_17 (show (0 ≤ z_17.toInt ∧ z_17.toInt ≤ 16) from by omega) (show (0 ≤ r.toInt ∧ r.toInt ≤ 7) from by omega) (show (16 - z_17.toInt) < ((n_44 : Nat) : Int) from by omega) hM (lv_sub hl [3, 4, 5, 0] rfl)
              · refine lv_iload hx hb dX6_cup_111 (lv_at hl 0 rfl) ?_
                refine lv_goto (tgt := 117) hx hb dX6_cup_113 (by decide) ?_
                refine mm_iaddU hx hb dX6_cup_117 (fun z_18 => ?_)
                refine mr_ast (X := (G_44 29 (Int32.toNatClampNeg z_5)).toInt) E hM 51 37 36 rfl rfl rfl (by omega) mg_51 (by decide) (mm_nbA rfl) (by decide) dX6_cup_118 (fun H locs G_19 eG_19 hM => ?_)
                refine mm_iinc (X := i.toInt) (v := 1) (lv2 := fun z => [(3, .int z), (5, .int z_13), (4, .int (G_44 29 (Int32.toNatClampNeg z_5))), (0, .ref h0), (1, .int p0), (2, .int r)]) hx hb dX6_cup_119 hl (k := 5) rfl rfl (by decide) num_1 (by omega) (by decide) (fun _ => rfl) (fun z_20 ls hz_20 hl => ?_)
                have hl : lv_has ls 6 [(3, .int z_20), (5, .int z_13), (4, .int (G_44 29 (Int32.toNatClampNeg z_5))), (0, .ref h0), (1, .int p0), (2, .int r)] := hl
                refine lv_goto (tgt := 44) hx hb dX6_cup_122 (by decide) ?_
                exact ih_44 _ _ _ F_44 G_19 z_20 (show (0 ≤ z_20.toInt ∧ z_20.toInt ≤ 16) from by omega) (show (0 ≤ r.toInt ∧ r.toInt ≤ 7) from by omega) (show (16 - z_20.toInt) < ((n_44 : Nat) : Int) from by omega) hM (lv_sub hl [3, 4, 5, 0] rfl)
            · refine lv_goto (tgt := 119) hx hb dX6_cup_82 (by decide) ?_
              refine mm_iinc (X := i.toInt) (v := 1) (lv2 := fun z => [(3, .int z), (4, .int (G_44 29 (Int32.toNatClampNeg z_5))), (0, .ref h0), (1, .int p0), (2, .int r)]) hx hb dX6_cup_119 hl (k := 4) rfl rfl (by decide) num_1 (by omega) (by decide) (fun _ => rfl) (fun z_21 ls hz_21 hl => ?_)
              have hl : lv_has ls 6 [(3, .int z_21), (4, .int (G_44 29 (Int32.toNatClampNeg z_5))), (0, .ref h0), (1, .int p0), (2, .int r)] := hl
              refine lv_goto (tgt := 44) hx hb dX6_cup_122 (by decide) ?_
              exact ih_44 _ _ _ F_44 G_44 z_21 (show (0 ≤ z_21.toInt ∧ z_21.toInt ≤ 16) from by omega) (show (0 ≤ r.toInt ∧ r.toInt ≤ 7) from by omega) (show (16 - z_21.toInt) < ((n_44 : Nat) : Int) from by omega) hM (lv_sub hl [2, 3, 4, 0] rfl)
      refine lv_iload_n hx hb dX6_cup_34 rfl (lv_at hl 2 rfl) ?_
      refine lv_aload_n hx hb dX6_cup_35 rfl (lv_at hl 0 rfl) ?_
      have b_22 : 0 ≤ (F_34 17).toInt ∧ (F_34 17).toInt ≤ 8 := hM.fb 17 rfl
      have e_23 : (F_34 17).toInt = (F 17).toInt := (congrArg Int32.toInt (hfr_34.1 17 (by decide))).trans rfl
      refine mr_get (v := .int (F_34 17)) E hM 17 (by decide) (index := 200) (mm_at 11 rfl) rfl rfl dX6_cup_36 ?_
      refine mm_icmp_ge (X := r.toInt) (Y := (F_34 17).toInt) (tgt := 131) hx hb dX6_cup_39 (by decide) rfl rfl (fun c_24 => ?_) (fun c_24 => ?_)
      · exact mr_rv E hr hlk hsz hM trivial dX6_cup_131
      · refine lv_iconst (v := 0) hx hb dX6_cup_42 (by decide) ?_
        refine lv_istore_n (lv' := [(3, .int 0), (0, .ref h0), (1, .int p0), (2, .int r)]) hx hb dX6_cup_43 rfl hl (by decide) rfl (fun ls hl => ?_)
        exact B_44 4294967296 _ _ _ F_34 G_34 0 (show (0 ≤ (0 : Int32).toInt ∧ (0 : Int32).toInt ≤ 16) from by have n_0 := num_0; omega) (show (0 ≤ r.toInt ∧ r.toInt ≤ 7) from by have n_0 := num_0; omega) (show (16 - (0 : Int32).toInt) < ((4294967296 : Nat) : Int) from by have n_0 := num_0; omega) hM (lv_sub hl [1, 2, 3, 0] rfl)
  have B_13 : ∀ n_13 : Nat, ∀ (H : Heap) (locs : List Loc) (ls : Array Slot) (F_13 : Nat → Int32) (G_13 : Nat → Nat → Int32) (w : Int32), (0 ≤ w.toInt ∧ w.toInt ≤ 16) → (16 - w.toInt) < (n_13 : Int) → mQ D h0 q cq (va_A (mW h0 q cq F G) sz) s.heap [] [45, 46, 47, 48, 49, 51] F G H locs F_13 G_13 → lv_has ls 6 [(0, .ref h0), (1, .int p0), (2, .int w)] → W p l e ({ frames := 4, cells := 0, slots := 0, locals := 102 }) s m args below meth c H locs 0 0 (MQ below (mQv D h0 q cq F G sz [] [45, 46, 47, 48, 49, 51] (fun F' G' => True)) args s 0 0 (va_A (mW h0 q cq F G) sz)) (F0 m 13 ls []) := by
    intro n_13
    induction n_13 with
    | zero => intro H locs ls F_13 G_13 w f13_0 hn hM hl; exact False.elim (by have hfr_13 := hM.fr; omega)
    | succ n_13 ih_13 =>
      intro H locs ls F_13 G_13 w f13_0 hn hM hl
      have hfr_13 := hM.fr
      refine lv_iload_n hx hb dX6_cup_13 rfl (lv_at hl 2 rfl) ?_
      refine lv_bipush (v := 16) hx hb dX6_cup_14 (by decide) ?_
      refine mm_icmp_ge (X := w.toInt) (Y := 16) (tgt := 32) hx hb dX6_cup_16 (by decide) rfl num_16 (fun c_25 => ?_) (fun c_25 => ?_)
      · refine lv_iconst (v := 0) hx hb dX6_cup_32 (by decide) ?_
        refine lv_istore_n (lv' := [(2, .int 0), (0, .ref h0), (1, .int p0)]) hx hb dX6_cup_33 rfl hl (by decide) rfl (fun ls hl => ?_)
        exact B_34 4294967296 _ _ _ F_13 G_13 0 (show (0 ≤ (0 : Int32).toInt ∧ (0 : Int32).toInt ≤ 8) from by have n_0 := num_0; omega) (show (8 - (0 : Int32).toInt) < ((4294967296 : Nat) : Int) from by have n_0 := num_0; omega) hM (lv_sub hl [1, 2, 0] rfl)
      · refine lv_aload_n hx hb dX6_cup_19 rfl (lv_at hl 0 rfl) ?_
        refine mr_get (v := .ref (q 51)) E hM 51 (by decide) (index := 123) (mm_at 10 rfl) rfl rfl dX6_cup_20 ?_
        refine lv_iload_n hx hb dX6_cup_23 rfl (lv_at hl 2 rfl) ?_
        refine lv_iconst (v := 0) hx hb dX6_cup_24 (by decide) ?_
        refine mr_ast (X := w.toInt) E hM 51 37 36 rfl rfl rfl (by omega) mg_51 (by decide) (mm_nbA rfl) (by decide) dX6_cup_25 (fun H locs G_26 eG_26 hM => ?_)
        refine mm_iinc (X := w.toInt) (v := 1) (lv2 := fun z => [(2, .int z), (0, .ref h0), (1, .int p0)]) hx hb dX6_cup_26 hl (k := 2) rfl rfl (by decide) num_1 (by omega) (by decide) (fun _ => rfl) (fun z_27 ls hz_27 hl => ?_)
        have hl : lv_has ls 6 [(2, .int z_27), (0, .ref h0), (1, .int p0)] := hl
        refine lv_goto (tgt := 13) hx hb dX6_cup_29 (by decide) ?_
        exact ih_13 _ _ _ F_13 G_26 z_27 (show (0 ≤ z_27.toInt ∧ z_27.toInt ≤ 16) from by omega) (show (16 - z_27.toInt) < ((n_13 : Nat) : Int) from by omega) hM (lv_sub hl [1, 2, 0] rfl)
  refine lv_aload_n hx hb dX6_cup_0 rfl (lv_at hl 0 rfl) ?_
  refine lv_aload_n hx hb dX6_cup_1 rfl (lv_at hl 0 rfl) ?_
  have b_28 : 0 ≤ (F 17).toInt ∧ (F 17).toInt ≤ 8 := hM.fb 17 rfl
  refine mr_get (v := .int (F 17)) E hM 17 (by decide) (index := 200) (mm_at 11 rfl) rfl rfl dX6_cup_2 ?_
  refine lv_iconst (v := 1) hx hb dX6_cup_5 (by decide) ?_
  refine mm_isub (X := (F 17).toInt) (Y := 1) hx hb dX6_cup_6 rfl num_1 (by omega) (fun z_29 hz_29 => ?_)
  refine lv_iload_n hx hb dX6_cup_7 rfl (lv_at hl 1 rfl) ?_
  refine mr_callv (av := [.int z_29, .int p0]) (rest := []) E hA hml hM (g3_X6_workAll l D h0 q cq F G _ z_29 p0 hM.2.2.2.1 (show -1 ≤ z_29.toInt ∧ z_29.toInt < 8 from by omega) (show z_29.toInt < (F 17).toInt from by omega) hR3) (cwV 2 hts gc_X6_cup_X6_workAll_30 rfl rfl rfl (by decide +kernel) ⟨Nat.le_of_ble_eq_true rfl, Nat.le_of_ble_eq_true rfl⟩) rfl hl.1 rfl (Nat.le_of_ble_eq_true rfl) dX6_cup_8 ⟨Nat.le_of_ble_eq_true rfl, Nat.le_of_ble_eq_true rfl⟩ (by decide) (by decide) (fun F_33 G_34 H locs fr_35 p_32 hM => ?_)
  refine lv_iconst (v := 0) hx hb dX6_cup_11 (by decide) ?_
  refine lv_istore_n (lv' := [(2, .int 0), (0, .ref h0), (1, .int p0)]) hx hb dX6_cup_12 rfl hl (by decide) rfl (fun ls hl => ?_)
  exact B_13 4294967296 _ _ _ F_33 G_34 0 (show (0 ≤ (0 : Int32).toInt ∧ (0 : Int32).toInt ≤ 16) from by have n_0 := num_0; omega) (show (16 - (0 : Int32).toInt) < ((4294967296 : Nat) : Int) from by have n_0 := num_0; omega) hM (lv_sub hl [1, 2, 0] rfl)
def w3X6_points : List Cond := .code yX6_points cX6_points 3 (some .int) :: ([.fieldLink RX6 126 "SkiShotsModel" "thrown" "I", .methodLink RX6 206 yX6_isRacer, .instanceMethod yX6_isRacer, .selects RX6 yX6_isRacer yX6_isRacer, .initialized RX6, .code yX6_isRacer cX6_isRacer 2 (some .boolean), .fieldLink RX6 197 "SkiShotsModel" "racers" "I", .methodLink RX6 241 yX6_isDay, .instanceMethod yX6_isDay, .selects RX6 yX6_isDay yX6_isDay, .code yX6_isDay cX6_isDay 2 (some .boolean), .fieldLink RX6 194 "SkiShotsModel" "today" "I", .methodLink RX6 252 yX6_cup, .instanceMethod yX6_cup, .selects RX6 yX6_cup yX6_cup, .code yX6_cup cX6_cup 6 none, .fieldLink RX6 72 "SkiShotsModel" "rEntries" "[I", .fieldLink RX6 78 "SkiShotsModel" "entries" "[I", .fieldLink RX6 108 "SkiShotsModel" "low" "[I", .methodLink RX6 248 yX6_placed, .instanceMethod yX6_placed, .selects RX6 yX6_placed yX6_placed, .code yX6_placed cX6_placed 8 (some .int), .fieldLink RX6 111 "SkiShotsModel" "high" "[I", .fieldLink RX6 123 "SkiShotsModel" "sums" "[I", .fieldLink RX6 200 "SkiShotsModel" "races" "I", .methodLink RX6 244 yX6_workAll, .instanceMethod yX6_workAll, .selects RX6 yX6_workAll yX6_workAll, .code yX6_workAll cX6_workAll 5 none, .methodLink RX6 237 yX6_work, .instanceMethod yX6_work, .selects RX6 yX6_work yX6_work, .code yX6_work cX6_work 12 none, .fieldLink RX6 105 "SkiShotsModel" "start" "[I", .fieldLink RX6 60 "SkiShotsModel" "rCost" "[I", .fieldLink RX6 114 "SkiShotsModel" "missLow" "[I", .fieldLink RX6 117 "SkiShotsModel" "missHigh" "[I", .fieldLink RX6 57 "SkiShotsModel" "rLoop" "[Z", .methodLink RX6 230 yX6_known, .instanceMethod yX6_known, .selects RX6 yX6_known yX6_known, .code yX6_known cX6_known 7 (some .int), .fieldLink RX6 99 "SkiShotsModel" "tDay" "[I", .fieldLink RX6 84 "SkiShotsModel" "tRace" "[I", .fieldLink RX6 87 "SkiShotsModel" "tRacer" "[I", .fieldLink RX6 90 "SkiShotsModel" "tSort" "[I", .fieldLink RX6 93 "SkiShotsModel" "tK" "[I", .fieldLink RX6 96 "SkiShotsModel" "tV" "[I", .fieldLink RX6 217 "SkiShotsModel" "told" "I", .fieldLink RX6 51 "SkiShotsModel" "rShoots" "[I", .fieldLink RX6 48 "SkiShotsModel" "rLaps" "[I", .methodLink RX6 234 yX6_hits, .static yX6_hits, .code yX6_hits cX6_hits 3 (some .int), .methodLink RX6 227 yX6_startOf, .instanceMethod yX6_startOf, .selects RX6 yX6_startOf yX6_startOf, .code yX6_startOf cX6_startOf 5 (some .int), .fieldLink RX6 63 "SkiShotsModel" "rHow" "[I", .fieldLink RX6 69 "SkiShotsModel" "rBy" "[I", .fieldLink RX6 81 "SkiShotsModel" "entryOf" "[I", .methodLink RX6 224 yX6_least, .instanceMethod yX6_least, .selects RX6 yX6_least yX6_least, .code yX6_least cX6_least 4 (some .int), .fieldLink RX6 66 "SkiShotsModel" "rNumber" "[I"] ++ wsX60)
set_option maxRecDepth 20000 in
theorem gc_X6_points_X6_isRacer_1 : GoodIn w3X6_points (wsV RX6 206 RX6 yX6_isRacer w3X6_isRacer) := goodIn_p _ [6] rfl (by decide +kernel)
set_option maxRecDepth 20000 in
theorem gc_X6_points_X6_isDay_6 : GoodIn w3X6_points (wsV RX6 241 RX6 yX6_isDay w3X6_isDay) := goodIn_p _ [11] rfl (by decide +kernel)
set_option maxRecDepth 20000 in
theorem gc_X6_points_X6_cup_11 : GoodIn w3X6_points (wsV RX6 252 RX6 yX6_cup w3X6_cup) := goodIn_p _ [16, 23, 30, 34, 43, 55, 59, 66] rfl (by decide +kernel)
set_option maxHeartbeats 4000000 in
set_option maxRecDepth 100000 in
theorem g3_X6_points (l : Launch) (D : va_G) (h0 : Nat) (q : Nat → Nat) (cq : Nat → ClassId) (F : Nat → Int32) (G : Nat → Nat → Int32) (sz : Nat) (p0 : Int32) (p1 : Int32) (hI : mI F G) (hR3 : mR3 F G) : Met l yX6_points w3X6_points ({ frames := 5, cells := 0, slots := 0, locals := 127 }) (mPre D h0 q cq F G sz [.ref h0, .int p0, .int p1]) (mQi D h0 q cq F G sz [2] [45, 46, 47, 48, 49, 51] (fun r F' G' => True)) 0 0 (va_A (mW h0 q cq F G) sz) := by
  refine mr_met (WF := [2]) (WG := [45, 46, 47, 48, 49, 51]) (cc := cX6_points) (maxL := 3) (ret := (some .int)) (by decide) rfl rfl (by decide +kernel) (Nat.le_of_ble_eq_true rfl) hI ?_
  intro p e s m args below meth c ls E hml hr hlk hsz hA hM hl
  have hx := E.1
  have hb := E.2.1
  have hts := E.2.2.1
  have hown := E.2.2.2.2.1
  have hl : lv_has ls 3 [(0, .ref h0), (1, .int p0), (2, .int p1)] := hl
  refine lv_aload_n hx hb dX6_points_0 rfl (lv_at hl 0 rfl) ?_
  refine lv_iconst (v := 0) hx hb dX6_points_1 (by decide) ?_
  refine mr_put (v := 0) E hM 2 (by decide) (index := 126) (mm_at 1 rfl) rfl rfl (by decide +kernel) ms_2 (mm_nb rfl) (by decide) dX6_points_2 (fun H locs hM => ?_)
  refine lv_aload_n hx hb dX6_points_5 rfl (lv_at hl 0 rfl) ?_
  refine lv_iload_n hx hb dX6_points_6 rfl (lv_at hl 1 rfl) ?_
  have b_2 : 0 ≤ (F 15).toInt ∧ (F 15).toInt ≤ 16 := hM.fb 15 rfl
  refine mr_callp (av := [.int p0]) (rest := []) E hA hml hM (g3_X6_isRacer l D h0 q cq (upd F 2 0) G _ p0 hM.2.2.2.1 ) (cwV 1 hts gc_X6_points_X6_isRacer_1 rfl rfl rfl (by decide +kernel) ⟨Nat.le_of_ble_eq_true rfl, Nat.le_of_ble_eq_true rfl⟩) rfl hl.1 rfl (Nat.le_of_ble_eq_true rfl) dX6_points_7 ⟨Nat.le_of_ble_eq_true rfl, Nat.le_of_ble_eq_true rfl⟩ (fun r_3 H locs p_4 hM => ?_)
  replace p_4 : (r_3.toInt = 1 ∧ 0 ≤ p0.toInt ∧ p0.toInt < (F 15).toInt) ∨ (r_3.toInt = 0 ∧ ¬ (0 ≤ p0.toInt ∧ p0.toInt < (F 15).toInt)) := p_4
  refine mm_if_eq (X := r_3.toInt) (tgt := 21) hx hb dX6_points_10 (by decide) rfl (fun c_5 => ?_) (fun c_5 => ?_)
  · refine lv_iconst (v := (-1)) hx hb dX6_points_21 (by decide) ?_
    exact mr_ri E hr hlk hsz hM trivial dX6_points_22
  · refine lv_aload_n hx hb dX6_points_13 rfl (lv_at hl 0 rfl) ?_
    refine lv_iload_n hx hb dX6_points_14 rfl (lv_at hl 2 rfl) ?_
    have b_7 : 0 ≤ (F 3).toInt ∧ (F 3).toInt ≤ 200 := hM.fb 3 rfl
    refine mr_callp (av := [.int p1]) (rest := []) E hA hml hM (g3_X6_isDay l D h0 q cq (upd F 2 0) G _ p1 hM.2.2.2.1 ) (cwV 1 hts gc_X6_points_X6_isDay_6 rfl rfl rfl (by decide +kernel) ⟨Nat.le_of_ble_eq_true rfl, Nat.le_of_ble_eq_true rfl⟩) rfl hl.1 rfl (Nat.le_of_ble_eq_true rfl) dX6_points_15 ⟨Nat.le_of_ble_eq_true rfl, Nat.le_of_ble_eq_true rfl⟩ (fun r_8 H locs p_9 hM => ?_)
    replace p_9 : (r_8.toInt = 1 ∧ 0 ≤ p1.toInt ∧ p1.toInt ≤ (F 3).toInt) ∨ (r_8.toInt = 0 ∧ ¬ (0 ≤ p1.toInt ∧ p1.toInt ≤ (F 3).toInt)) := p_9
    refine mm_if_ne (X := r_8.toInt) (tgt := 23) hx hb dX6_points_18 (by decide) rfl (fun c_10 => ?_) (fun c_10 => ?_)
    · refine lv_aload_n hx hb dX6_points_23 rfl (lv_at hl 0 rfl) ?_
      refine lv_iload_n hx hb dX6_points_24 rfl (lv_at hl 2 rfl) ?_
      refine mr_callv (av := [.int p1]) (rest := []) E hA hml hM (g3_X6_cup l D h0 q cq (upd F 2 0) G _ p1 hM.2.2.2.1 hR3) (cwV 1 hts gc_X6_points_X6_cup_11 rfl rfl rfl (by decide +kernel) ⟨Nat.le_of_ble_eq_true rfl, Nat.le_of_ble_eq_true rfl⟩) rfl hl.1 rfl (Nat.le_of_ble_eq_true rfl) dX6_points_25 ⟨Nat.le_of_ble_eq_true rfl, Nat.le_of_ble_eq_true rfl⟩ (by decide) (by decide) (fun F_14 G_15 H locs fr_16 p_13 hM => ?_)
      refine lv_aload_n hx hb dX6_points_28 rfl (lv_at hl 0 rfl) ?_
      refine mr_get (v := .ref (q 51)) E hM 51 (by decide) (index := 123) (mm_at 25 rfl) rfl rfl dX6_points_29 ?_
      refine lv_iload_n hx hb dX6_points_32 rfl (lv_at hl 1 rfl) ?_
      refine mr_ald (X := p0.toInt) E hM 37 36 rfl rfl rfl (by omega) dX6_points_33 ?_
      exact mr_ri E hr hlk hsz hM trivial dX6_points_34
    · refine lv_iconst (v := (-1)) hx hb dX6_points_21 (by decide) ?_
      exact mr_ri E hr hlk hsz hM trivial dX6_points_22
def w3X6_standing : List Cond := .code yX6_standing cX6_standing 3 (some .int) :: ([.fieldLink RX6 126 "SkiShotsModel" "thrown" "I", .methodLink RX6 206 yX6_isRacer, .instanceMethod yX6_isRacer, .selects RX6 yX6_isRacer yX6_isRacer, .initialized RX6, .code yX6_isRacer cX6_isRacer 2 (some .boolean), .fieldLink RX6 197 "SkiShotsModel" "racers" "I", .methodLink RX6 241 yX6_isDay, .instanceMethod yX6_isDay, .selects RX6 yX6_isDay yX6_isDay, .code yX6_isDay cX6_isDay 2 (some .boolean), .fieldLink RX6 194 "SkiShotsModel" "today" "I", .methodLink RX6 252 yX6_cup, .instanceMethod yX6_cup, .selects RX6 yX6_cup yX6_cup, .code yX6_cup cX6_cup 6 none, .fieldLink RX6 72 "SkiShotsModel" "rEntries" "[I", .fieldLink RX6 78 "SkiShotsModel" "entries" "[I", .fieldLink RX6 108 "SkiShotsModel" "low" "[I", .methodLink RX6 248 yX6_placed, .instanceMethod yX6_placed, .selects RX6 yX6_placed yX6_placed, .code yX6_placed cX6_placed 8 (some .int), .fieldLink RX6 111 "SkiShotsModel" "high" "[I", .fieldLink RX6 123 "SkiShotsModel" "sums" "[I", .fieldLink RX6 200 "SkiShotsModel" "races" "I", .methodLink RX6 244 yX6_workAll, .instanceMethod yX6_workAll, .selects RX6 yX6_workAll yX6_workAll, .code yX6_workAll cX6_workAll 5 none, .methodLink RX6 237 yX6_work, .instanceMethod yX6_work, .selects RX6 yX6_work yX6_work, .code yX6_work cX6_work 12 none, .fieldLink RX6 105 "SkiShotsModel" "start" "[I", .fieldLink RX6 60 "SkiShotsModel" "rCost" "[I", .fieldLink RX6 114 "SkiShotsModel" "missLow" "[I", .fieldLink RX6 117 "SkiShotsModel" "missHigh" "[I", .fieldLink RX6 57 "SkiShotsModel" "rLoop" "[Z", .methodLink RX6 230 yX6_known, .instanceMethod yX6_known, .selects RX6 yX6_known yX6_known, .code yX6_known cX6_known 7 (some .int), .fieldLink RX6 99 "SkiShotsModel" "tDay" "[I", .fieldLink RX6 84 "SkiShotsModel" "tRace" "[I", .fieldLink RX6 87 "SkiShotsModel" "tRacer" "[I", .fieldLink RX6 90 "SkiShotsModel" "tSort" "[I", .fieldLink RX6 93 "SkiShotsModel" "tK" "[I", .fieldLink RX6 96 "SkiShotsModel" "tV" "[I", .fieldLink RX6 217 "SkiShotsModel" "told" "I", .fieldLink RX6 51 "SkiShotsModel" "rShoots" "[I", .fieldLink RX6 48 "SkiShotsModel" "rLaps" "[I", .methodLink RX6 234 yX6_hits, .static yX6_hits, .code yX6_hits cX6_hits 3 (some .int), .methodLink RX6 227 yX6_startOf, .instanceMethod yX6_startOf, .selects RX6 yX6_startOf yX6_startOf, .code yX6_startOf cX6_startOf 5 (some .int), .fieldLink RX6 63 "SkiShotsModel" "rHow" "[I", .fieldLink RX6 69 "SkiShotsModel" "rBy" "[I", .fieldLink RX6 81 "SkiShotsModel" "entryOf" "[I", .methodLink RX6 224 yX6_least, .instanceMethod yX6_least, .selects RX6 yX6_least yX6_least, .code yX6_least cX6_least 4 (some .int), .fieldLink RX6 66 "SkiShotsModel" "rNumber" "[I", .methodLink RX6 256 yX6_stands, .instanceMethod yX6_stands, .selects RX6 yX6_stands yX6_stands, .code yX6_stands cX6_stands 4 (some .int)] ++ wsX60)
set_option maxRecDepth 20000 in
theorem gc_X6_standing_X6_isRacer_1 : GoodIn w3X6_standing (wsV RX6 206 RX6 yX6_isRacer w3X6_isRacer) := goodIn_p _ [6] rfl (by decide +kernel)
set_option maxRecDepth 20000 in
theorem gc_X6_standing_X6_isDay_6 : GoodIn w3X6_standing (wsV RX6 241 RX6 yX6_isDay w3X6_isDay) := goodIn_p _ [11] rfl (by decide +kernel)
set_option maxRecDepth 20000 in
theorem gc_X6_standing_X6_cup_11 : GoodIn w3X6_standing (wsV RX6 252 RX6 yX6_cup w3X6_cup) := goodIn_p _ [16, 23, 30, 34, 43, 55, 59, 66] rfl (by decide +kernel)
set_option maxRecDepth 20000 in
theorem gc_X6_standing_X6_stands_17 : GoodIn w3X6_standing (wsV RX6 256 RX6 yX6_stands w3X6_stands) := goodIn_p _ [71] rfl (by decide +kernel)
set_option maxHeartbeats 4000000 in
set_option maxRecDepth 100000 in
theorem g3_X6_standing (l : Launch) (D : va_G) (h0 : Nat) (q : Nat → Nat) (cq : Nat → ClassId) (F : Nat → Int32) (G : Nat → Nat → Int32) (sz : Nat) (p0 : Int32) (p1 : Int32) (hI : mI F G) (hR3 : mR3 F G) : Met l yX6_standing w3X6_standing ({ frames := 5, cells := 0, slots := 0, locals := 127 }) (mPre D h0 q cq F G sz [.ref h0, .int p0, .int p1]) (mQi D h0 q cq F G sz [2] [45, 46, 47, 48, 49, 51] (fun r F' G' => True)) 0 0 (va_A (mW h0 q cq F G) sz) := by
  refine mr_met (WF := [2]) (WG := [45, 46, 47, 48, 49, 51]) (cc := cX6_standing) (maxL := 3) (ret := (some .int)) (by decide) rfl rfl (by decide +kernel) (Nat.le_of_ble_eq_true rfl) hI ?_
  intro p e s m args below meth c ls E hml hr hlk hsz hA hM hl
  have hx := E.1
  have hb := E.2.1
  have hts := E.2.2.1
  have hown := E.2.2.2.2.1
  have hl : lv_has ls 3 [(0, .ref h0), (1, .int p0), (2, .int p1)] := hl
  refine lv_aload_n hx hb dX6_standing_0 rfl (lv_at hl 0 rfl) ?_
  refine lv_iconst (v := 0) hx hb dX6_standing_1 (by decide) ?_
  refine mr_put (v := 0) E hM 2 (by decide) (index := 126) (mm_at 1 rfl) rfl rfl (by decide +kernel) ms_2 (mm_nb rfl) (by decide) dX6_standing_2 (fun H locs hM => ?_)
  refine lv_aload_n hx hb dX6_standing_5 rfl (lv_at hl 0 rfl) ?_
  refine lv_iload_n hx hb dX6_standing_6 rfl (lv_at hl 1 rfl) ?_
  have b_2 : 0 ≤ (F 15).toInt ∧ (F 15).toInt ≤ 16 := hM.fb 15 rfl
  refine mr_callp (av := [.int p0]) (rest := []) E hA hml hM (g3_X6_isRacer l D h0 q cq (upd F 2 0) G _ p0 hM.2.2.2.1 ) (cwV 1 hts gc_X6_standing_X6_isRacer_1 rfl rfl rfl (by decide +kernel) ⟨Nat.le_of_ble_eq_true rfl, Nat.le_of_ble_eq_true rfl⟩) rfl hl.1 rfl (Nat.le_of_ble_eq_true rfl) dX6_standing_7 ⟨Nat.le_of_ble_eq_true rfl, Nat.le_of_ble_eq_true rfl⟩ (fun r_3 H locs p_4 hM => ?_)
  replace p_4 : (r_3.toInt = 1 ∧ 0 ≤ p0.toInt ∧ p0.toInt < (F 15).toInt) ∨ (r_3.toInt = 0 ∧ ¬ (0 ≤ p0.toInt ∧ p0.toInt < (F 15).toInt)) := p_4
  refine mm_if_eq (X := r_3.toInt) (tgt := 21) hx hb dX6_standing_10 (by decide) rfl (fun c_5 => ?_) (fun c_5 => ?_)
  · refine lv_iconst (v := (-1)) hx hb dX6_standing_21 (by decide) ?_
    exact mr_ri E hr hlk hsz hM trivial dX6_standing_22
  · refine lv_aload_n hx hb dX6_standing_13 rfl (lv_at hl 0 rfl) ?_
    refine lv_iload_n hx hb dX6_standing_14 rfl (lv_at hl 2 rfl) ?_
    have b_7 : 0 ≤ (F 3).toInt ∧ (F 3).toInt ≤ 200 := hM.fb 3 rfl
    refine mr_callp (av := [.int p1]) (rest := []) E hA hml hM (g3_X6_isDay l D h0 q cq (upd F 2 0) G _ p1 hM.2.2.2.1 ) (cwV 1 hts gc_X6_standing_X6_isDay_6 rfl rfl rfl (by decide +kernel) ⟨Nat.le_of_ble_eq_true rfl, Nat.le_of_ble_eq_true rfl⟩) rfl hl.1 rfl (Nat.le_of_ble_eq_true rfl) dX6_standing_15 ⟨Nat.le_of_ble_eq_true rfl, Nat.le_of_ble_eq_true rfl⟩ (fun r_8 H locs p_9 hM => ?_)
    replace p_9 : (r_8.toInt = 1 ∧ 0 ≤ p1.toInt ∧ p1.toInt ≤ (F 3).toInt) ∨ (r_8.toInt = 0 ∧ ¬ (0 ≤ p1.toInt ∧ p1.toInt ≤ (F 3).toInt)) := p_9
    refine mm_if_ne (X := r_8.toInt) (tgt := 23) hx hb dX6_standing_18 (by decide) rfl (fun c_10 => ?_) (fun c_10 => ?_)
    · refine lv_aload_n hx hb dX6_standing_23 rfl (lv_at hl 0 rfl) ?_
      refine lv_iload_n hx hb dX6_standing_24 rfl (lv_at hl 2 rfl) ?_
      refine mr_callv (av := [.int p1]) (rest := []) E hA hml hM (g3_X6_cup l D h0 q cq (upd F 2 0) G _ p1 hM.2.2.2.1 hR3) (cwV 1 hts gc_X6_standing_X6_cup_11 rfl rfl rfl (by decide +kernel) ⟨Nat.le_of_ble_eq_true rfl, Nat.le_of_ble_eq_true rfl⟩) rfl hl.1 rfl (Nat.le_of_ble_eq_true rfl) dX6_standing_25 ⟨Nat.le_of_ble_eq_true rfl, Nat.le_of_ble_eq_true rfl⟩ (by decide) (by decide) (fun F_14 G_15 H locs fr_16 p_13 hM => ?_)
      refine lv_aload_n hx hb dX6_standing_28 rfl (lv_at hl 0 rfl) ?_
      refine lv_iload_n hx hb dX6_standing_29 rfl (lv_at hl 1 rfl) ?_
      refine mr_callp (av := [.int p0]) (rest := []) E hA hml hM (g3_X6_stands l D h0 q cq F_14 G_15 _ p0 hM.2.2.2.1 (show 0 ≤ p0.toInt ∧ p0.toInt < 16 from by omega)) (cwV 1 hts gc_X6_standing_X6_stands_17 rfl rfl rfl (by decide +kernel) ⟨Nat.le_of_ble_eq_true rfl, Nat.le_of_ble_eq_true rfl⟩) rfl hl.1 rfl (Nat.le_of_ble_eq_true rfl) dX6_standing_30 ⟨Nat.le_of_ble_eq_true rfl, Nat.le_of_ble_eq_true rfl⟩ (fun r_18 H locs p_19 hM => ?_)
      exact mr_ri E hr hlk hsz hM trivial dX6_standing_33
    · refine lv_iconst (v := (-1)) hx hb dX6_standing_21 (by decide) ?_
      exact mr_ri E hr hlk hsz hM trivial dX6_standing_22
