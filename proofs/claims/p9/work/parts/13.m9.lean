def w3X6_formats : List Cond := .code yX6_formats cX6_formats 4 (some .int) :: ([.fieldLink RX6 13 "SkiShotsModel" "laps" "[I", .fieldLink RX6 16 "SkiShotsModel" "shootMany" "[I", .fieldLink RX6 22 "SkiShotsModel" "spares" "[I", .fieldLink RX6 25 "SkiShotsModel" "isLoop" "[Z", .fieldLink RX6 29 "SkiShotsModel" "cost" "[I", .fieldLink RX6 32 "SkiShotsModel" "startHow" "[I", .fieldLink RX6 35 "SkiShotsModel" "startNumber" "[I", .fieldLink RX6 144 "SkiShotsModel" "kind" "I", .fieldLink RX6 191 "SkiShotsModel" "formatMany" "I", .methodLink RX6 187 yX6_format, .instanceMethod yX6_format, .selects RX6 yX6_format yX6_format, .initialized RX6, .code yX6_format cX6_format 2 (some .boolean), .fieldLink RX6 169 "SkiShotsModel" "read" "I", .methodLink RX6 178 yX6_sign, .instanceMethod yX6_sign, .selects RX6 yX6_sign yX6_sign, .code yX6_sign cX6_sign 2 (some .boolean), .fieldLink RX6 141 "SkiShotsModel" "place" "I", .methodLink RX6 162 yX6_wrong, .instanceMethod yX6_wrong, .selects RX6 yX6_wrong yX6_wrong, .code yX6_wrong cX6_wrong 3 (some .boolean), .fieldLink RX6 132 "SkiShotsModel" "fault" "I", .fieldLink RX6 38 "SkiShotsModel" "faultPlace" "I", .fieldLink RX6 155 "SkiShotsModel" "which" "I", .methodLink RX6 166 yX6_take, .instanceMethod yX6_take, .selects RX6 yX6_take yX6_take, .code yX6_take cX6_take 1 none, .fieldLink RX6 138 "SkiShotsModel" "next" "I", .methodLink RX6 158 yX6_isDigit, .instanceMethod yX6_isDigit, .selects RX6 yX6_isDigit yX6_isDigit, .code yX6_isDigit cX6_isDigit 2 (some .boolean), .fieldLink RX6 135 "SkiShotsModel" "size" "I", .fieldLink RX6 7 "SkiShotsModel" "tape" "[I", .constant RX6 161 (99999), .methodLink RX6 147 yX6_isSmall, .instanceMethod yX6_isSmall, .selects RX6 yX6_isSmall yX6_isSmall, .code yX6_isSmall cX6_isSmall 2 (some .boolean), .methodLink RX6 151 yX6_wordAt, .instanceMethod yX6_wordAt, .selects RX6 yX6_wordAt yX6_wordAt, .code yX6_wordAt cX6_wordAt 8 (some .int), .fieldLink RX6 102 "SkiShotsModel" "words" "[I", .methodLink RX6 175 yX6_word, .instanceMethod yX6_word, .selects RX6 yX6_word yX6_word, .code yX6_word cX6_word 2 (some .boolean), .methodLink RX6 184 yX6_starts, .instanceMethod yX6_starts, .selects RX6 yX6_starts yX6_starts, .code yX6_starts cX6_starts 3 (some .boolean), .methodLink RX6 172 yX6_number, .instanceMethod yX6_number, .selects RX6 yX6_number yX6_number, .code yX6_number cX6_number 3 (some .boolean), .methodLink RX6 181 yX6_shots, .instanceMethod yX6_shots, .selects RX6 yX6_shots yX6_shots, .code yX6_shots cX6_shots 4 (some .boolean), .fieldLink RX6 19 "SkiShotsModel" "shoot" "[I", .fieldLink RX6 126 "SkiShotsModel" "thrown" "I", .fieldLink RX6 129 "SkiShotsModel" "tapeSize" "I"] ++ wsX60)
set_option maxRecDepth 20000 in
theorem gc_X6_formats_X6_format_23 : GoodIn w3X6_formats (wsV RX6 187 RX6 yX6_format w3X6_format) := goodIn_p _ [14, 19, 24, 31, 36, 43, 47, 52, 56, 60, 64] rfl (by decide +kernel)
set_option maxRecDepth 20000 in
theorem gc_X6_formats_X6_take_42 : GoodIn w3X6_formats (wsV RX6 166 RX6 yX6_take w3X6_take) := goodIn_p _ [31, 36, 43, 47] rfl (by decide +kernel)
set_option maxHeartbeats 4000000 in
set_option maxRecDepth 100000 in
theorem g3_X6_formats (l : Launch) (D : va_G) (h0 : Nat) (q : Nat → Nat) (cq : Nat → ClassId) (F : Nat → Int32) (G : Nat → Nat → Int32) (sz : Nat) (p0 : Int32) (hI : mI F G) (hR2 : mR2 G) : Met l yX6_formats w3X6_formats ({ frames := 5, cells := 0, slots := 0, locals := 112 }) (mPre D h0 q cq F G sz [.ref h0, .int p0]) (mQi D h0 q cq F G sz [1, 2, 4, 13, 14, 39, 40, 41, 42, 43, 44] [5, 6, 7, 8, 9, 10, 11, 12] (fun r F' G' => mR2 G' ∧ ((0 ≤ p0.toInt ∧ p0.toInt ≤ (F 1).toInt ∧ (F' 1).toInt = 0) ∨ (¬ (0 ≤ p0.toInt ∧ p0.toInt ≤ (F 1).toInt) ∧ (F' 1).toInt = (F 1).toInt)))) 0 0 (va_A (mW h0 q cq F G) sz) := by
  refine mr_met (WF := [1, 2, 4, 13, 14, 39, 40, 41, 42, 43, 44]) (WG := [5, 6, 7, 8, 9, 10, 11, 12]) (cc := cX6_formats) (maxL := 4) (ret := (some .int)) (by decide) rfl rfl (by decide +kernel) (Nat.le_of_ble_eq_true rfl) hI ?_
  intro p e s m args below meth c ls E hml hr hlk hsz hA hM hl
  have hx := E.1
  have hb := E.2.1
  have hts := E.2.2.1
  have hown := E.2.2.2.2.1
  have hl : lv_has ls 4 [(0, .ref h0), (1, .int p0)] := hl
  have B_102 : ∀ n_102 : Nat, ∀ (H : Heap) (locs : List Loc) (ls : Array Slot) (Fc_102 : Nat → Int32) (Gc_102 : Nat → Nat → Int32) (many k : Int32), (0 ≤ k.toInt ∧ k.toInt ≤ 8) → (Fc_102 1).toInt = 0 → 0 ≤ p0.toInt ∧ p0.toInt ≤ (F 1).toInt → mI8 Gc_102 → mR2l Gc_102 (Int32.toNatClampNeg k) → (8 - k.toInt) < (n_102 : Int) → mQ D h0 q cq (va_A (mW h0 q cq F G) sz) s.heap [1, 2, 4, 13, 14, 39, 40, 41, 42, 43, 44] [5, 6, 7, 8, 9, 10, 11, 12] F G H locs Fc_102 Gc_102 → lv_has ls 4 [(0, .ref h0), (1, .int p0), (2, .int many), (3, .int k)] → W p l e ({ frames := 5, cells := 0, slots := 0, locals := 112 }) s m args below meth c H locs 0 0 (MQ below (mQi D h0 q cq F G sz [1, 2, 4, 13, 14, 39, 40, 41, 42, 43, 44] [5, 6, 7, 8, 9, 10, 11, 12] (fun r F' G' => mR2 G' ∧ ((0 ≤ p0.toInt ∧ p0.toInt ≤ (F 1).toInt ∧ (F' 1).toInt = 0) ∨ (¬ (0 ≤ p0.toInt ∧ p0.toInt ≤ (F 1).toInt) ∧ (F' 1).toInt = (F 1).toInt)))) args s 0 0 (va_A (mW h0 q cq F G) sz)) (F0 m 102 ls []) := by
    intro n_102
    induction n_102 with
    | zero => intro H locs ls Fc_102 Gc_102 many k f102_0 f102_1 f102_2 f102_3 f102_4 hn hM hl; exact False.elim (by have hfr_102 := hM.fr; omega)
    | succ n_102 ih_102 =>
      intro H locs ls Fc_102 Gc_102 many k f102_0 f102_1 f102_2 f102_3 f102_4 hn hM hl
      have hfr_102 := hM.fr
      refine lv_iload_n hx hb dX6_formats_102 rfl (lv_at hl 3 rfl) ?_
      refine lv_bipush (v := 8) hx hb dX6_formats_103 (by decide) ?_
      refine mm_icmp_ge (X := k.toInt) (Y := 8) (tgt := 219) hx hb dX6_formats_105 (by decide) rfl num_8 (fun c_1 => ?_) (fun c_1 => ?_)
      · refine lv_iload_n hx hb dX6_formats_219 rfl (lv_at hl 2 rfl) ?_
        have b_2 : 0 ≤ (Fc_102 1).toInt ∧ (Fc_102 1).toInt ≤ 1000 := hM.fb 1 rfl
        exact mr_ri E hr hlk hsz hM (show mR2 Gc_102 ∧ ((0 ≤ p0.toInt ∧ p0.toInt ≤ (F 1).toInt ∧ (Fc_102 1).toInt = 0) ∨ (¬ (0 ≤ p0.toInt ∧ p0.toInt ≤ (F 1).toInt) ∧ (Fc_102 1).toInt = (F 1).toInt)) from by exact ⟨by have e : Int32.toNatClampNeg k = 8 := (by rw [mm_nat]; omega); have h := f102_4; rw [e] at h; exact h, by omega⟩) dX6_formats_220
      · refine lv_aload_n hx hb dX6_formats_108 rfl (lv_at hl 0 rfl) ?_
        refine mr_get (v := .ref (q 5)) E hM 5 (by decide) (index := 13) (mm_at 1 rfl) rfl rfl dX6_formats_109 ?_
        refine lv_iload_n hx hb dX6_formats_112 rfl (lv_at hl 3 rfl) ?_
        refine lv_aload_n hx hb dX6_formats_113 rfl (lv_at hl 0 rfl) ?_
        refine mr_get (v := .ref (q 5)) E hM 5 (by decide) (index := 13) (mm_at 1 rfl) rfl rfl dX6_formats_114 ?_
        refine lv_bipush (v := 8) hx hb dX6_formats_117 (by decide) ?_
        refine lv_iload_n hx hb dX6_formats_119 rfl (lv_at hl 3 rfl) ?_
        refine mm_iadd (X := 8) (Y := k.toInt) hx hb dX6_formats_120 num_8 rfl (by omega) (fun z_3 hz_3 => ?_)
        refine mr_ald (X := z_3.toInt) E hM 2 1 rfl rfl rfl (by omega) dX6_formats_121 ?_
        refine mr_ast (X := k.toInt) E hM 5 2 1 rfl rfl rfl (by omega) mg_5 (by decide) (mm_nbA rfl) (by decide) dX6_formats_122 (fun H locs G_4 eG_4 hM => ?_)
        refine lv_aload_n hx hb dX6_formats_123 rfl (lv_at hl 0 rfl) ?_
        refine mr_get (v := .ref (q 6)) E hM 6 (by decide) (index := 16) (mm_at 2 rfl) rfl rfl dX6_formats_124 ?_
        refine lv_iload_n hx hb dX6_formats_127 rfl (lv_at hl 3 rfl) ?_
        refine lv_aload_n hx hb dX6_formats_128 rfl (lv_at hl 0 rfl) ?_
        refine mr_get (v := .ref (q 6)) E hM 6 (by decide) (index := 16) (mm_at 2 rfl) rfl rfl dX6_formats_129 ?_
        refine lv_bipush (v := 8) hx hb dX6_formats_132 (by decide) ?_
        refine lv_iload_n hx hb dX6_formats_134 rfl (lv_at hl 3 rfl) ?_
        refine mm_iadd (X := 8) (Y := k.toInt) hx hb dX6_formats_135 num_8 rfl (by omega) (fun z_5 hz_5 => ?_)
        refine mr_ald (X := z_5.toInt) E hM 3 2 rfl rfl rfl (by omega) dX6_formats_136 ?_
        have b_6 : 0 ≤ (G_4 6 (Int32.toNatClampNeg z_5)).toInt ∧ (G_4 6 (Int32.toNatClampNeg z_5)).toInt ≤ 4 := hM.ab 6 rfl _
        refine mr_ast (X := k.toInt) E hM 6 3 2 rfl rfl rfl (by omega) mg_6 (by decide) (mm_bdA (X := (G_4 6 (Int32.toNatClampNeg z_5)).toInt) (a := 0) (b := 4) rfl rfl (by omega)) (by decide) dX6_formats_137 (fun H locs G_7 eG_7 hM => ?_)
        refine lv_aload_n hx hb dX6_formats_138 rfl (lv_at hl 0 rfl) ?_
        refine mr_get (v := .ref (q 8)) E hM 8 (by decide) (index := 22) (mm_at 3 rfl) rfl rfl dX6_formats_139 ?_
        refine lv_iload_n hx hb dX6_formats_142 rfl (lv_at hl 3 rfl) ?_
        refine lv_aload_n hx hb dX6_formats_143 rfl (lv_at hl 0 rfl) ?_
        refine mr_get (v := .ref (q 8)) E hM 8 (by decide) (index := 22) (mm_at 3 rfl) rfl rfl dX6_formats_144 ?_
        refine lv_bipush (v := 8) hx hb dX6_formats_147 (by decide) ?_
        refine lv_iload_n hx hb dX6_formats_149 rfl (lv_at hl 3 rfl) ?_
        refine mm_iadd (X := 8) (Y := k.toInt) hx hb dX6_formats_150 num_8 rfl (by omega) (fun z_8 hz_8 => ?_)
        refine mr_ald (X := z_8.toInt) E hM 5 4 rfl rfl rfl (by omega) dX6_formats_151 ?_
        refine mr_ast (X := k.toInt) E hM 8 5 4 rfl rfl rfl (by omega) mg_8 (by decide) (mm_nbA rfl) (by decide) dX6_formats_152 (fun H locs G_9 eG_9 hM => ?_)
        refine lv_aload_n hx hb dX6_formats_153 rfl (lv_at hl 0 rfl) ?_
        refine mr_get (v := .ref (q 9)) E hM 9 (by decide) (index := 25) (mm_at 4 rfl) rfl rfl dX6_formats_154 ?_
        refine lv_iload_n hx hb dX6_formats_157 rfl (lv_at hl 3 rfl) ?_
        refine lv_aload_n hx hb dX6_formats_158 rfl (lv_at hl 0 rfl) ?_
        refine mr_get (v := .ref (q 9)) E hM 9 (by decide) (index := 25) (mm_at 4 rfl) rfl rfl dX6_formats_159 ?_
        refine lv_bipush (v := 8) hx hb dX6_formats_162 (by decide) ?_
        refine lv_iload_n hx hb dX6_formats_164 rfl (lv_at hl 3 rfl) ?_
        refine mm_iadd (X := 8) (Y := k.toInt) hx hb dX6_formats_165 num_8 rfl (by omega) (fun z_10 hz_10 => ?_)
        refine mr_zld (X := z_10.toInt) E hM 6 5 rfl rfl rfl (by omega) dX6_formats_166 ?_
        refine mr_zst (X := k.toInt) E hM 9 6 5 rfl rfl rfl (by omega) mg_9 (by decide) rfl (by decide) dX6_formats_167 (fun H locs G_11 eG_11 hM => ?_)
        refine lv_aload_n hx hb dX6_formats_168 rfl (lv_at hl 0 rfl) ?_
        refine mr_get (v := .ref (q 10)) E hM 10 (by decide) (index := 29) (mm_at 5 rfl) rfl rfl dX6_formats_169 ?_
        refine lv_iload_n hx hb dX6_formats_172 rfl (lv_at hl 3 rfl) ?_
        refine lv_aload_n hx hb dX6_formats_173 rfl (lv_at hl 0 rfl) ?_
        refine mr_get (v := .ref (q 10)) E hM 10 (by decide) (index := 29) (mm_at 5 rfl) rfl rfl dX6_formats_174 ?_
        refine lv_bipush (v := 8) hx hb dX6_formats_177 (by decide) ?_
        refine lv_iload_n hx hb dX6_formats_179 rfl (lv_at hl 3 rfl) ?_
        refine mm_iadd (X := 8) (Y := k.toInt) hx hb dX6_formats_180 num_8 rfl (by omega) (fun z_12 hz_12 => ?_)
        refine mr_ald (X := z_12.toInt) E hM 7 6 rfl rfl rfl (by omega) dX6_formats_181 ?_
        refine mr_ast (X := k.toInt) E hM 10 7 6 rfl rfl rfl (by omega) mg_10 (by decide) (mm_nbA rfl) (by decide) dX6_formats_182 (fun H locs G_13 eG_13 hM => ?_)
        refine lv_aload_n hx hb dX6_formats_183 rfl (lv_at hl 0 rfl) ?_
        refine mr_get (v := .ref (q 11)) E hM 11 (by decide) (index := 32) (mm_at 6 rfl) rfl rfl dX6_formats_184 ?_
        refine lv_iload_n hx hb dX6_formats_187 rfl (lv_at hl 3 rfl) ?_
        refine lv_aload_n hx hb dX6_formats_188 rfl (lv_at hl 0 rfl) ?_
        refine mr_get (v := .ref (q 11)) E hM 11 (by decide) (index := 32) (mm_at 6 rfl) rfl rfl dX6_formats_189 ?_
        refine lv_bipush (v := 8) hx hb dX6_formats_192 (by decide) ?_
        refine lv_iload_n hx hb dX6_formats_194 rfl (lv_at hl 3 rfl) ?_
        refine mm_iadd (X := 8) (Y := k.toInt) hx hb dX6_formats_195 num_8 rfl (by omega) (fun z_14 hz_14 => ?_)
        refine mr_ald (X := z_14.toInt) E hM 8 7 rfl rfl rfl (by omega) dX6_formats_196 ?_
        refine mr_ast (X := k.toInt) E hM 11 8 7 rfl rfl rfl (by omega) mg_11 (by decide) (mm_nbA rfl) (by decide) dX6_formats_197 (fun H locs G_15 eG_15 hM => ?_)
        refine lv_aload_n hx hb dX6_formats_198 rfl (lv_at hl 0 rfl) ?_
        refine mr_get (v := .ref (q 12)) E hM 12 (by decide) (index := 35) (mm_at 7 rfl) rfl rfl dX6_formats_199 ?_
        refine lv_iload_n hx hb dX6_formats_202 rfl (lv_at hl 3 rfl) ?_
        refine lv_aload_n hx hb dX6_formats_203 rfl (lv_at hl 0 rfl) ?_
        refine mr_get (v := .ref (q 12)) E hM 12 (by decide) (index := 35) (mm_at 7 rfl) rfl rfl dX6_formats_204 ?_
        refine lv_bipush (v := 8) hx hb dX6_formats_207 (by decide) ?_
        refine lv_iload_n hx hb dX6_formats_209 rfl (lv_at hl 3 rfl) ?_
        refine mm_iadd (X := 8) (Y := k.toInt) hx hb dX6_formats_210 num_8 rfl (by omega) (fun z_16 hz_16 => ?_)
        refine mr_ald (X := z_16.toInt) E hM 9 8 rfl rfl rfl (by omega) dX6_formats_211 ?_
        refine mr_ast (X := k.toInt) E hM 12 9 8 rfl rfl rfl (by omega) mg_12 (by decide) (mm_nbA rfl) (by decide) dX6_formats_212 (fun H locs G_17 eG_17 hM => ?_)
        have hcp := mCpy (k := Int32.toNatClampNeg k) (i := Int32.toNatClampNeg z_3) (i2 := Int32.toNatClampNeg z_14) f102_3 f102_4 (mm_cl ⟨by omega, by omega⟩) (by simp only [mm_nat]; omega) (by simp only [mm_nat]; omega) ((show G_17 5 = G_15 5 from by rw [eG_17]; rfl).trans ((show G_15 5 = G_13 5 from by rw [eG_15]; rfl).trans ((show G_13 5 = G_11 5 from by rw [eG_13]; rfl).trans ((show G_11 5 = G_9 5 from by rw [eG_11]; rfl).trans ((show G_9 5 = G_7 5 from by rw [eG_9]; rfl).trans ((show G_7 5 = G_4 5 from by rw [eG_7]; rfl).trans ((show G_4 5 = upd (Gc_102 5) (Int32.toNatClampNeg k) ((Gc_102 5 (Int32.toNatClampNeg z_3))) from by rw [eG_4]; rfl).trans (congrArg (fun z => upd z (Int32.toNatClampNeg k) ((Gc_102 5 (Int32.toNatClampNeg z_3)))) rfl)))))))) (((show G_17 11 = G_15 11 from by rw [eG_17]; rfl).trans ((show G_15 11 = upd (G_13 11) (Int32.toNatClampNeg k) ((G_13 11 (Int32.toNatClampNeg z_14))) from by rw [eG_15]; rfl).trans (congrArg (fun z => upd z (Int32.toNatClampNeg k) ((G_13 11 (Int32.toNatClampNeg z_14)))) ((show G_13 11 = G_11 11 from by rw [eG_13]; rfl).trans ((show G_11 11 = G_9 11 from by rw [eG_11]; rfl).trans ((show G_9 11 = G_7 11 from by rw [eG_9]; rfl).trans ((show G_7 11 = G_4 11 from by rw [eG_7]; rfl).trans ((show G_4 11 = Gc_102 11 from by rw [eG_4]; rfl).trans rfl)))))))).trans (congrArg (fun z => upd (Gc_102 11) (Int32.toNatClampNeg k) z) (congrFun ((show G_13 11 = G_11 11 from by rw [eG_13]; rfl).trans ((show G_11 11 = G_9 11 from by rw [eG_11]; rfl).trans ((show G_9 11 = G_7 11 from by rw [eG_9]; rfl).trans ((show G_7 11 = G_4 11 from by rw [eG_7]; rfl).trans ((show G_4 11 = Gc_102 11 from by rw [eG_4]; rfl).trans rfl))))) _)))
        refine mm_iinc (X := k.toInt) (v := 1) (lv2 := fun z => [(3, .int z), (0, .ref h0), (1, .int p0), (2, .int many)]) hx hb dX6_formats_213 hl (k := 3) rfl rfl (by decide) num_1 (by omega) (by decide) (fun _ => rfl) (fun z_18 ls hz_18 hl => ?_)
        have hl : lv_has ls 4 [(3, .int z_18), (0, .ref h0), (1, .int p0), (2, .int many)] := hl
        refine lv_goto (tgt := 102) hx hb dX6_formats_216 (by decide) ?_
        have b_19 : 0 ≤ (Fc_102 1).toInt ∧ (Fc_102 1).toInt ≤ 1000 := hM.fb 1 rfl
        exact ih_102 _ _ _ Fc_102 G_17 many z_18 (show (0 ≤ z_18.toInt ∧ z_18.toInt ≤ 8) from by omega) (show (Fc_102 1).toInt = 0 from by omega) (show 0 ≤ p0.toInt ∧ p0.toInt ≤ (F 1).toInt from by omega) (show mI8 G_17 from by exact hcp.1) (show mR2l G_17 (Int32.toNatClampNeg z_18) from by rw [show Int32.toNatClampNeg z_18 = Int32.toNatClampNeg k + 1 from by simp only [mm_nat]; omega]; exact hcp.2) (show (8 - z_18.toInt) < ((n_102 : Nat) : Int) from by omega) hM (lv_sub hl [1, 2, 3, 0] rfl)
  have B_73 : ∀ n_73 : Nat, ∀ (H : Heap) (locs : List Loc) (ls : Array Slot) (Fc_73 : Nat → Int32) (Gc_73 : Nat → Nat → Int32) (many : Int32), (0 ≤ many.toInt ∧ many.toInt ≤ 1000) → (Fc_73 1).toInt = 0 → 0 ≤ p0.toInt ∧ p0.toInt ≤ (F 1).toInt → (Fc_73 40).toInt ≤ (Fc_73 39).toInt → ¬ (Fc_73 41).toInt = 2 ∨ (65 ≤ (Fc_73 42).toInt ∧ (Fc_73 42).toInt ≤ 72) → many.toInt ≤ (Fc_73 40).toInt → mI8 Gc_73 → mJ G Gc_73 → ((Fc_73 39).toInt - (Fc_73 40).toInt) < (n_73 : Int) → mQ D h0 q cq (va_A (mW h0 q cq F G) sz) s.heap [1, 2, 4, 13, 14, 39, 40, 41, 42, 43, 44] [5, 6, 7, 8, 9, 10, 11, 12] F G H locs Fc_73 Gc_73 → lv_has ls 4 [(0, .ref h0), (1, .int p0), (2, .int many)] → W p l e ({ frames := 5, cells := 0, slots := 0, locals := 112 }) s m args below meth c H locs 0 0 (MQ below (mQi D h0 q cq F G sz [1, 2, 4, 13, 14, 39, 40, 41, 42, 43, 44] [5, 6, 7, 8, 9, 10, 11, 12] (fun r F' G' => mR2 G' ∧ ((0 ≤ p0.toInt ∧ p0.toInt ≤ (F 1).toInt ∧ (F' 1).toInt = 0) ∨ (¬ (0 ≤ p0.toInt ∧ p0.toInt ≤ (F 1).toInt) ∧ (F' 1).toInt = (F 1).toInt)))) args s 0 0 (va_A (mW h0 q cq F G) sz)) (F0 m 73 ls []) := by
    intro n_73
    induction n_73 with
    | zero => intro H locs ls Fc_73 Gc_73 many f73_0 f73_1 f73_2 f73_3 f73_4 f73_5 f73_6 f73_7 hn hM hl; exact False.elim (by have hfr_73 := hM.fr; omega)
    | succ n_73 ih_73 =>
      intro H locs ls Fc_73 Gc_73 many f73_0 f73_1 f73_2 f73_3 f73_4 f73_5 f73_6 f73_7 hn hM hl
      have hfr_73 := hM.fr
      refine lv_aload_n hx hb dX6_formats_73 rfl (lv_at hl 0 rfl) ?_
      have b_20 : 0 ≤ (Fc_73 41).toInt ∧ (Fc_73 41).toInt ≤ 5 := hM.fb 41 rfl
      refine mr_get (v := .int (Fc_73 41)) E hM 41 (by decide) (index := 144) (mm_at 8 rfl) rfl rfl dX6_formats_74 ?_
      refine mm_if_eq (X := (Fc_73 41).toInt) (tgt := 95) hx hb dX6_formats_77 (by decide) rfl (fun c_21 => ?_) (fun c_21 => ?_)
      · refine lv_aload_n hx hb dX6_formats_95 rfl (lv_at hl 0 rfl) ?_
        refine lv_iload_n hx hb dX6_formats_96 rfl (lv_at hl 2 rfl) ?_
        refine mr_put (v := many) E hM 4 (by decide) (index := 191) (mm_at 9 rfl) rfl rfl (by decide +kernel) ms_4 (mm_nb rfl) (by decide) dX6_formats_97 (fun H locs hM => ?_)
        refine lv_iconst (v := 0) hx hb dX6_formats_100 (by decide) ?_
        refine lv_istore_n (lv' := [(3, .int 0), (0, .ref h0), (1, .int p0), (2, .int many)]) hx hb dX6_formats_101 rfl hl (by decide) rfl (fun ls hl => ?_)
        have b_22 : 0 ≤ (Fc_73 1).toInt ∧ (Fc_73 1).toInt ≤ 1000 := hM.fb 1 rfl
        exact B_102 4294967296 _ _ _ (upd Fc_73 4 many) Gc_73 many 0 (show (0 ≤ (0 : Int32).toInt ∧ (0 : Int32).toInt ≤ 8) from by have n_1 := num_0; omega) (show (Fc_73 1).toInt = 0 from by have n_1 := num_0; omega) (show 0 ≤ p0.toInt ∧ p0.toInt ≤ (F 1).toInt from by have n_1 := num_0; omega) (show mI8 Gc_73 from by have n_1 := num_0; exact mI8.tr f73_6 rfl rfl) (show mR2l Gc_73 (Int32.toNatClampNeg (0 : Int32)) from by have n_1 := num_0; intro j hj; exact absurd hj (by rw [show Int32.toNatClampNeg (0 : Int32) = 0 from by decide]; exact Nat.not_lt_zero _)) (show (8 - (0 : Int32).toInt) < ((4294967296 : Nat) : Int) from by have n_1 := num_0; omega) hM (lv_sub hl [1, 2, 3, 0] rfl)
      · refine lv_aload_n hx hb dX6_formats_80 rfl (lv_at hl 0 rfl) ?_
        have b_24 : 0 ≤ (Fc_73 39).toInt ∧ (Fc_73 39).toInt ≤ 1000 := hM.fb 39 rfl
        have b_25 : 0 ≤ (Fc_73 40).toInt ∧ (Fc_73 40).toInt ≤ 1000 := hM.fb 40 rfl
        refine mr_calli (av := []) (rest := []) E hA hml hM (g3_X6_format l D h0 q cq Fc_73 Gc_73 _  hM.2.2.2.1 (show (Fc_73 40).toInt ≤ (Fc_73 39).toInt from by omega) (show ¬ (Fc_73 41).toInt = 2 ∨ (65 ≤ (Fc_73 42).toInt ∧ (Fc_73 42).toInt ≤ 72) from by omega) f73_6) (cwV 0 hts gc_X6_formats_X6_format_23 rfl rfl rfl (by decide +kernel) ⟨Nat.le_of_ble_eq_true rfl, Nat.le_of_ble_eq_true rfl⟩) rfl hl.1 rfl (Nat.le_of_ble_eq_true rfl) dX6_formats_81 ⟨Nat.le_of_ble_eq_true rfl, Nat.le_of_ble_eq_true rfl⟩ (by decide) (by decide) (fun r_26 F_28 G_29 H locs fr_30 p_27 hM => ?_)
        replace p_27 : (F_28 40).toInt ≤ (Fc_73 39).toInt ∧ (Fc_73 40).toInt + r_26.toInt ≤ (F_28 40).toInt ∧ (¬ (F_28 41).toInt = 2 ∨ (65 ≤ (F_28 42).toInt ∧ (F_28 42).toInt ≤ 72)) ∧ (r_26.toInt = 0 ∨ r_26.toInt = 1) ∧ mJ Gc_73 G_29 ∧ (r_26.toInt = 0 ∨ mI8 G_29) := p_27
        refine mm_if_ne (X := r_26.toInt) (tgt := 89) hx hb dX6_formats_84 (by decide) rfl (fun c_31 => ?_) (fun c_31 => ?_)
        · refine mm_iinc (X := many.toInt) (v := 1) (lv2 := fun z => [(2, .int z), (0, .ref h0), (1, .int p0)]) hx hb dX6_formats_89 hl (k := 2) rfl rfl (by decide) num_1 (by omega) (by decide) (fun _ => rfl) (fun z_32 ls hz_32 hl => ?_)
          have hl : lv_has ls 4 [(2, .int z_32), (0, .ref h0), (1, .int p0)] := hl
          refine lv_goto (tgt := 73) hx hb dX6_formats_92 (by decide) ?_
          have b_33 : 0 ≤ (F_28 1).toInt ∧ (F_28 1).toInt ≤ 1000 := hM.fb 1 rfl
          have e_34 : (F_28 1).toInt = (Fc_73 1).toInt := (congrArg Int32.toInt (fr_30.1 1 (by decide))).trans rfl
          have b_35 : 0 ≤ (F_28 39).toInt ∧ (F_28 39).toInt ≤ 1000 := hM.fb 39 rfl
          have e_36 : (F_28 39).toInt = (Fc_73 39).toInt := (congrArg Int32.toInt (fr_30.1 39 (by decide))).trans rfl
          have b_37 : 0 ≤ (F_28 40).toInt ∧ (F_28 40).toInt ≤ 1000 := hM.fb 40 rfl
          have b_38 : 0 ≤ (F_28 41).toInt ∧ (F_28 41).toInt ≤ 5 := hM.fb 41 rfl
          exact ih_73 _ _ _ F_28 G_29 z_32 (show (0 ≤ z_32.toInt ∧ z_32.toInt ≤ 1000) from by omega) (show (F_28 1).toInt = 0 from by omega) (show 0 ≤ p0.toInt ∧ p0.toInt ≤ (F 1).toInt from by omega) (show (F_28 40).toInt ≤ (F_28 39).toInt from by omega) (show ¬ (F_28 41).toInt = 2 ∨ (65 ≤ (F_28 42).toInt ∧ (F_28 42).toInt ≤ 72) from by omega) (show z_32.toInt ≤ (F_28 40).toInt from by omega) (show mI8 G_29 from by exact p_27.2.2.2.2.2.resolve_left (by omega)) (show mJ G G_29 from by exact f73_7.tt p_27.2.2.2.2.1) (show ((F_28 39).toInt - (F_28 40).toInt) < ((n_73 : Nat) : Int) from by omega) hM (lv_sub hl [1, 2, 0] rfl)
        · refine lv_iconst (v := (-1)) hx hb dX6_formats_87 (by decide) ?_
          have b_39 : 0 ≤ (F_28 1).toInt ∧ (F_28 1).toInt ≤ 1000 := hM.fb 1 rfl
          have e_40 : (F_28 1).toInt = (Fc_73 1).toInt := (congrArg Int32.toInt (fr_30.1 1 (by decide))).trans rfl
          exact mr_ri E hr hlk hsz hM (show mR2 G_29 ∧ ((0 ≤ p0.toInt ∧ p0.toInt ≤ (F 1).toInt ∧ (F_28 1).toInt = 0) ∨ (¬ (0 ≤ p0.toInt ∧ p0.toInt ≤ (F 1).toInt) ∧ (F_28 1).toInt = (F 1).toInt)) from by have n9 := num_m1; exact ⟨hR2.J (f73_7.tt p_27.2.2.2.2.1), by omega⟩) dX6_formats_88
  have B_43 : ∀ n_43 : Nat, ∀ (H : Heap) (locs : List Loc) (ls : Array Slot) (Fc_43 : Nat → Int32) (Gc_43 : Nat → Nat → Int32) (k : Int32), (8 ≤ k.toInt ∧ k.toInt ≤ 16) → (Fc_43 1).toInt = 0 → 0 ≤ p0.toInt ∧ p0.toInt ≤ (F 1).toInt → mJ G Gc_43 → mZ Gc_43 (Int32.toNatClampNeg k) → (16 - k.toInt) < (n_43 : Int) → mQ D h0 q cq (va_A (mW h0 q cq F G) sz) s.heap [1, 2, 4, 13, 14, 39, 40, 41, 42, 43, 44] [5, 6, 7, 8, 9, 10, 11, 12] F G H locs Fc_43 Gc_43 → lv_has ls 4 [(0, .ref h0), (1, .int p0), (2, .int k)] → W p l e ({ frames := 5, cells := 0, slots := 0, locals := 112 }) s m args below meth c H locs 0 0 (MQ below (mQi D h0 q cq F G sz [1, 2, 4, 13, 14, 39, 40, 41, 42, 43, 44] [5, 6, 7, 8, 9, 10, 11, 12] (fun r F' G' => mR2 G' ∧ ((0 ≤ p0.toInt ∧ p0.toInt ≤ (F 1).toInt ∧ (F' 1).toInt = 0) ∨ (¬ (0 ≤ p0.toInt ∧ p0.toInt ≤ (F 1).toInt) ∧ (F' 1).toInt = (F 1).toInt)))) args s 0 0 (va_A (mW h0 q cq F G) sz)) (F0 m 43 ls []) := by
    intro n_43
    induction n_43 with
    | zero => intro H locs ls Fc_43 Gc_43 k f43_0 f43_1 f43_2 f43_3 f43_4 hn hM hl; exact False.elim (by have hfr_43 := hM.fr; omega)
    | succ n_43 ih_43 =>
      intro H locs ls Fc_43 Gc_43 k f43_0 f43_1 f43_2 f43_3 f43_4 hn hM hl
      have hfr_43 := hM.fr
      refine lv_iload_n hx hb dX6_formats_43 rfl (lv_at hl 2 rfl) ?_
      refine lv_bipush (v := 16) hx hb dX6_formats_44 (by decide) ?_
      refine mm_icmp_ge (X := k.toInt) (Y := 16) (tgt := 62) hx hb dX6_formats_46 (by decide) rfl num_16 (fun c_41 => ?_) (fun c_41 => ?_)
      · refine lv_aload_n hx hb dX6_formats_62 rfl (lv_at hl 0 rfl) ?_
        refine lv_iconst (v := 0) hx hb dX6_formats_63 (by decide) ?_
        refine mr_put (v := 0) E hM 40 (by decide) (index := 138) (mm_at 32 rfl) rfl rfl (by decide +kernel) ms_40 (mm_bd (X := 0) (a := 0) (b := 1000) rfl num_0 (by omega)) (by decide) dX6_formats_64 (fun H locs hM => ?_)
        refine lv_iconst (v := 0) hx hb dX6_formats_67 (by decide) ?_
        refine lv_istore_n (lv' := [(2, .int 0), (0, .ref h0), (1, .int p0)]) hx hb dX6_formats_68 rfl hl (by decide) rfl (fun ls hl => ?_)
        refine lv_aload_n hx hb dX6_formats_69 rfl (lv_at hl 1 rfl) ?_
        have b_43 : 0 ≤ (Fc_43 39).toInt ∧ (Fc_43 39).toInt ≤ 1000 := hM.fb 39 rfl
        refine mr_callv (av := []) (rest := []) E hA hml hM (g3_X6_take l D h0 q cq (upd Fc_43 40 0) Gc_43 _  hM.2.2.2.1 (show (0 : Int32).toInt ≤ (Fc_43 39).toInt from by have n9_0 := num_0; omega)) (cwV 0 hts gc_X6_formats_X6_take_42 rfl rfl rfl (by decide +kernel) ⟨Nat.le_of_ble_eq_true rfl, Nat.le_of_ble_eq_true rfl⟩) rfl hl.1 rfl (Nat.le_of_ble_eq_true rfl) dX6_formats_70 ⟨Nat.le_of_ble_eq_true rfl, Nat.le_of_ble_eq_true rfl⟩ (by decide) (by decide) (fun F_46 G_47 H locs fr_48 p_45 hM => ?_)
        replace p_45 : (F_46 40).toInt ≤ (Fc_43 39).toInt ∧ (0 : Int32).toInt ≤ (F_46 40).toInt ∧ ((F_46 41).toInt = 0 ∨ (0 : Int32).toInt < (F_46 40).toInt) ∧ (¬ (F_46 41).toInt = 2 ∨ (65 ≤ (F_46 42).toInt ∧ (F_46 42).toInt ≤ 72)) := p_45
        have b_49 : 0 ≤ (F_46 1).toInt ∧ (F_46 1).toInt ≤ 1000 := hM.fb 1 rfl
        have e_50 : (F_46 1).toInt = (Fc_43 1).toInt := (congrArg Int32.toInt (fr_48.1 1 (by decide))).trans rfl
        have b_51 : 0 ≤ (F_46 39).toInt ∧ (F_46 39).toInt ≤ 1000 := hM.fb 39 rfl
        have e_52 : (F_46 39).toInt = (Fc_43 39).toInt := (congrArg Int32.toInt (fr_48.1 39 (by decide))).trans rfl
        have b_53 : 0 ≤ (F_46 40).toInt ∧ (F_46 40).toInt ≤ 1000 := hM.fb 40 rfl
        have b_54 : 0 ≤ (F_46 41).toInt ∧ (F_46 41).toInt ≤ 5 := hM.fb 41 rfl
        exact B_73 4294967296 _ _ _ F_46 G_47 0 (show (0 ≤ (0 : Int32).toInt ∧ (0 : Int32).toInt ≤ 1000) from by have n_0 := num_0; omega) (show (F_46 1).toInt = 0 from by have n_0 := num_0; omega) (show 0 ≤ p0.toInt ∧ p0.toInt ≤ (F 1).toInt from by have n_0 := num_0; omega) (show (F_46 40).toInt ≤ (F_46 39).toInt from by have n_0 := num_0; omega) (show ¬ (F_46 41).toInt = 2 ∨ (65 ≤ (F_46 42).toInt ∧ (F_46 42).toInt ≤ 72) from by have n_0 := num_0; omega) (show (0 : Int32).toInt ≤ (F_46 40).toInt from by have n_0 := num_0; omega) (show mI8 G_47 from by have n_0 := num_0; exact mI8.tr (mZ.i8 f43_4 (by rw [mm_nat]; omega)) ((fr_48.2 5 (by decide)).trans rfl) ((fr_48.2 11 (by decide)).trans rfl)) (show mJ G G_47 from by have n_0 := num_0; exact mJ.tr f43_3 ((fr_48.2 5 (by decide)).trans rfl) ((fr_48.2 11 (by decide)).trans rfl)) (show ((F_46 39).toInt - (F_46 40).toInt) < ((4294967296 : Nat) : Int) from by have n_0 := num_0; omega) hM (lv_sub hl [1, 2, 0] rfl)
      · refine lv_aload_n hx hb dX6_formats_49 rfl (lv_at hl 0 rfl) ?_
        refine mr_get (v := .ref (q 5)) E hM 5 (by decide) (index := 13) (mm_at 1 rfl) rfl rfl dX6_formats_50 ?_
        refine lv_iload_n hx hb dX6_formats_53 rfl (lv_at hl 2 rfl) ?_
        refine lv_iconst (v := 0) hx hb dX6_formats_54 (by decide) ?_
        refine mr_ast (X := k.toInt) E hM 5 2 1 rfl rfl rfl (by omega) mg_5 (by decide) (mm_nbA rfl) (by decide) dX6_formats_55 (fun H locs G_55 eG_55 hM => ?_)
        refine mm_iinc (X := k.toInt) (v := 1) (lv2 := fun z => [(2, .int z), (0, .ref h0), (1, .int p0)]) hx hb dX6_formats_56 hl (k := 2) rfl rfl (by decide) num_1 (by omega) (by decide) (fun _ => rfl) (fun z_56 ls hz_56 hl => ?_)
        have hl : lv_has ls 4 [(2, .int z_56), (0, .ref h0), (1, .int p0)] := hl
        refine lv_goto (tgt := 43) hx hb dX6_formats_59 (by decide) ?_
        have b_57 : 0 ≤ (Fc_43 1).toInt ∧ (Fc_43 1).toInt ≤ 1000 := hM.fb 1 rfl
        exact ih_43 _ _ _ Fc_43 G_55 z_56 (show (8 ≤ z_56.toInt ∧ z_56.toInt ≤ 16) from by omega) (show (Fc_43 1).toInt = 0 from by omega) (show 0 ≤ p0.toInt ∧ p0.toInt ≤ (F 1).toInt from by omega) (show mJ G G_55 from by exact mJ.laps f43_3 ((show G_55 5 = upd (Gc_43 5) (Int32.toNatClampNeg k) (0) from by rw [eG_55]; rfl).trans (congrArg (fun z => upd z (Int32.toNatClampNeg k) (0)) rfl)) (by rw [mm_nat]; omega) ((show G_55 11 = Gc_43 11 from by rw [eG_55]; rfl).trans rfl)) (show mZ G_55 (Int32.toNatClampNeg z_56) from by rw [show Int32.toNatClampNeg z_56 = Int32.toNatClampNeg k + 1 from by simp only [mm_nat]; omega]; exact mZ.st f43_4 ((show G_55 5 = upd (Gc_43 5) (Int32.toNatClampNeg k) (0) from by rw [eG_55]; rfl).trans (congrArg (fun z => upd z (Int32.toNatClampNeg k) (0)) rfl))) (show (16 - z_56.toInt) < ((n_43 : Nat) : Int) from by omega) hM (lv_sub hl [1, 2, 0] rfl)
  refine lv_aload_n hx hb dX6_formats_0 rfl (lv_at hl 0 rfl) ?_
  refine lv_iconst (v := 0) hx hb dX6_formats_1 (by decide) ?_
  refine mr_put (v := 0) E hM 2 (by decide) (index := 126) (mm_at 66 rfl) rfl rfl (by decide +kernel) ms_2 (mm_nb rfl) (by decide) dX6_formats_2 (fun H locs hM => ?_)
  refine lv_iload_n hx hb dX6_formats_5 rfl (lv_at hl 1 rfl) ?_
  refine mm_if_lt (X := p0.toInt) (tgt := 17) hx hb dX6_formats_6 (by decide) rfl (fun c_58 => ?_) (fun c_58 => ?_)
  · refine lv_bipush (v := (-2)) hx hb dX6_formats_17 (by decide) ?_
    have b_59 : 0 ≤ (F 1).toInt ∧ (F 1).toInt ≤ 1000 := hM.fb 1 rfl
    exact mr_ri E hr hlk hsz hM (show mR2 G ∧ ((0 ≤ p0.toInt ∧ p0.toInt ≤ (F 1).toInt ∧ (F 1).toInt = 0) ∨ (¬ (0 ≤ p0.toInt ∧ p0.toInt ≤ (F 1).toInt) ∧ (F 1).toInt = (F 1).toInt)) from by have n9 := num_m2; have n9_2 := num_0; exact ⟨hR2, by omega⟩) dX6_formats_19
  · refine lv_iload_n hx hb dX6_formats_9 rfl (lv_at hl 1 rfl) ?_
    refine lv_aload_n hx hb dX6_formats_10 rfl (lv_at hl 0 rfl) ?_
    have b_60 : 0 ≤ (F 1).toInt ∧ (F 1).toInt ≤ 1000 := hM.fb 1 rfl
    refine mr_get (v := .int (F 1)) E hM 1 (by decide) (index := 129) (mm_at 67 rfl) rfl rfl dX6_formats_11 ?_
    refine mm_icmp_le (X := p0.toInt) (Y := (F 1).toInt) (tgt := 20) hx hb dX6_formats_14 (by decide) rfl rfl (fun c_61 => ?_) (fun c_61 => ?_)
    · refine lv_aload_n hx hb dX6_formats_20 rfl (lv_at hl 0 rfl) ?_
      refine lv_iload_n hx hb dX6_formats_21 rfl (lv_at hl 1 rfl) ?_
      refine mr_put (v := p0) E hM 39 (by decide) (index := 135) (mm_at 37 rfl) rfl rfl (by decide +kernel) ms_39 (mm_bd (X := p0.toInt) (a := 0) (b := 1000) rfl rfl (by omega)) (by decide) dX6_formats_22 (fun H locs hM => ?_)
      refine lv_aload_n hx hb dX6_formats_25 rfl (lv_at hl 0 rfl) ?_
      refine lv_iconst (v := 0) hx hb dX6_formats_26 (by decide) ?_
      refine mr_put (v := 0) E hM 1 (by decide) (index := 129) (mm_at 67 rfl) rfl rfl (by decide +kernel) ms_1 (mm_bd (X := 0) (a := 0) (b := 1000) rfl num_0 (by omega)) (by decide) dX6_formats_27 (fun H locs hM => ?_)
      refine lv_aload_n hx hb dX6_formats_30 rfl (lv_at hl 0 rfl) ?_
      refine lv_iconst (v := 0) hx hb dX6_formats_31 (by decide) ?_
      refine mr_put (v := 0) E hM 13 (by decide) (index := 132) (mm_at 25 rfl) rfl rfl (by decide +kernel) ms_13 (mm_nb rfl) (by decide) dX6_formats_32 (fun H locs hM => ?_)
      refine lv_aload_n hx hb dX6_formats_35 rfl (lv_at hl 0 rfl) ?_
      refine lv_iconst (v := (-1)) hx hb dX6_formats_36 (by decide) ?_
      refine mr_put (v := (-1)) E hM 14 (by decide) (index := 38) (mm_at 26 rfl) rfl rfl (by decide +kernel) ms_14 (mm_nb rfl) (by decide) dX6_formats_37 (fun H locs hM => ?_)
      refine lv_bipush (v := 8) hx hb dX6_formats_40 (by decide) ?_
      refine lv_istore_n (lv' := [(2, .int 8), (0, .ref h0), (1, .int p0)]) hx hb dX6_formats_42 rfl hl (by decide) rfl (fun ls hl => ?_)
      exact B_43 4294967296 _ _ _ (upd (upd (upd (upd (upd F 2 0) 39 p0) 1 0) 13 0) 14 (-1)) G 8 (show (8 ≤ (8 : Int32).toInt ∧ (8 : Int32).toInt ≤ 16) from by have n_0 := num_8; have n9_2 := num_0; have n9_1 := num_0; have n9_13 := num_0; have n9_14 := num_m1; omega) (show (0 : Int32).toInt = 0 from by have n_0 := num_8; have n9_2 := num_0; have n9_1 := num_0; have n9_13 := num_0; have n9_14 := num_m1; omega) (show 0 ≤ p0.toInt ∧ p0.toInt ≤ (F 1).toInt from by have n_0 := num_8; have n9_2 := num_0; have n9_1 := num_0; have n9_13 := num_0; have n9_14 := num_m1; omega) (show mJ G G from by have n_0 := num_8; have n9_2 := num_0; have n9_1 := num_0; have n9_13 := num_0; have n9_14 := num_m1; exact mJ.rf.tr rfl rfl) (show mZ G (Int32.toNatClampNeg (8 : Int32)) from by have n_0 := num_8; have n9_2 := num_0; have n9_1 := num_0; have n9_13 := num_0; have n9_14 := num_m1; intro j h1 h2; rw [show Int32.toNatClampNeg (8 : Int32) = 8 from by decide] at h2; exact absurd h1 (by omega)) (show (16 - (8 : Int32).toInt) < ((4294967296 : Nat) : Int) from by have n_0 := num_8; have n9_2 := num_0; have n9_1 := num_0; have n9_13 := num_0; have n9_14 := num_m1; omega) hM (lv_sub hl [1, 2, 0] rfl)
    · refine lv_bipush (v := (-2)) hx hb dX6_formats_17 (by decide) ?_
      exact mr_ri E hr hlk hsz hM (show mR2 G ∧ ((0 ≤ p0.toInt ∧ p0.toInt ≤ (F 1).toInt ∧ (F 1).toInt = 0) ∨ (¬ (0 ≤ p0.toInt ∧ p0.toInt ≤ (F 1).toInt) ∧ (F 1).toInt = (F 1).toInt)) from by have n9 := num_m2; have n9_2 := num_0; exact ⟨hR2, by omega⟩) dX6_formats_19
