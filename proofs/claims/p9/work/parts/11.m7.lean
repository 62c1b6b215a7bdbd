def mHow (x : Int32) : Prop := x.toInt = 9 ∨ x.toInt = 10 ∨ x.toInt = 11
def mR2l (G : Nat → Nat → Int32) (k : Nat) : Prop := ∀ j : Nat, j < k → ¬ (G 5 j).toInt = 0 → mHow (G 11 j)
def mR2 (G : Nat → Nat → Int32) : Prop := mR2l G 8
def mJ (G G' : Nat → Nat → Int32) : Prop := ∀ j : Nat, j < 8 → G' 5 j = G 5 j ∧ G' 11 j = G 11 j
def mI8 (G : Nat → Nat → Int32) : Prop := ∀ j : Nat, 8 ≤ j → j < 16 → ¬ (G 5 j).toInt = 0 → mHow (G 11 j)
def mI8x (G : Nat → Nat → Int32) (f : Nat) : Prop := ∀ j : Nat, 8 ≤ j → j < 16 → ¬ j = f → ¬ (G 5 j).toInt = 0 → mHow (G 11 j)
def mZ (G : Nat → Nat → Int32) (k : Nat) : Prop := ∀ j : Nat, 8 ≤ j → j < k → G 5 j = 0
theorem mJ.rf {G : Nat → Nat → Int32} : mJ G G := fun _ _ => ⟨rfl, rfl⟩
theorem mJ.tr {G X Y : Nat → Nat → Int32} (h : mJ G X) (a : Y 5 = X 5) (b : Y 11 = X 11) : mJ G Y := fun j hj => by rw [a, b]; exact h j hj
theorem mJ.laps {G X Y : Nat → Nat → Int32} {i : Nat} {v : Int32} (h : mJ G X) (a : Y 5 = upd (X 5) i v) (hi : 8 ≤ i) (b : Y 11 = X 11) : mJ G Y := fun j hj => by
  rw [a, b]
  have e : ¬ j = i := by omega
  simp only [upd, if_neg e]; exact h j hj
theorem mJ.how {G X Y : Nat → Nat → Int32} {i : Nat} (h : mJ G X) (a : Y 5 = X 5) (b : ∀ j : Nat, ¬ j = i → Y 11 j = X 11 j) (hi : 8 ≤ i) : mJ G Y := fun j hj => by
  rw [a, b j (by omega)]; exact h j hj
theorem mI8x.of {X : Nat → Nat → Int32} {f : Nat} (h : mI8 X) : mI8x X f := fun j a b _ c => h j a b c
theorem mI8x.tr {X Y : Nat → Nat → Int32} {f : Nat} (h : mI8x X f) (a : Y 5 = X 5) (b : Y 11 = X 11) : mI8x Y f := fun j h1 h2 h3 h4 => by
  rw [a] at h4; rw [b]; exact h j h1 h2 h3 h4
theorem mI8x.laps {X Y : Nat → Nat → Int32} {f : Nat} {v : Int32} (h : mI8x X f) (a : Y 5 = upd (X 5) f v) (b : Y 11 = X 11) : mI8x Y f := fun j h1 h2 h3 h4 => by
  rw [a] at h4; rw [b]
  simp only [upd, if_neg h3] at h4
  exact h j h1 h2 h3 h4
theorem mI8.how {X Y : Nat → Nat → Int32} {f : Nat} (h : mI8x X f) (a : Y 5 = X 5) (b : ∀ j : Nat, ¬ j = f → Y 11 j = X 11 j) (d : mHow (Y 11 f)) : mI8 Y := fun j h1 h2 h4 => by
  by_cases e : j = f
  · rw [e]; exact d
  · rw [a] at h4; rw [b j e]; exact h j h1 h2 e h4
theorem mI8.tr {X Y : Nat → Nat → Int32} (h : mI8 X) (a : Y 5 = X 5) (b : Y 11 = X 11) : mI8 Y := fun j h1 h2 h4 => by
  rw [a] at h4; rw [b]; exact h j h1 h2 h4
theorem mR2.J {G Y : Nat → Nat → Int32} (h : mR2 G) (a : mJ G Y) : mR2 Y := fun j hj h4 => by
  rw [(a j hj).1] at h4; rw [(a j hj).2]; exact h j hj h4
theorem mCpy {X Y : Nat → Nat → Int32} {k i i2 : Nat} (h : mI8 X) (h2 : mR2l X k) (hk : k < 8) (hi : i = 8 + k) (hi2 : i2 = 8 + k) (a : Y 5 = upd (X 5) k (X 5 i)) (b : Y 11 = upd (X 11) k (X 11 i2)) : mI8 Y ∧ mR2l Y (k + 1) := by
  subst hi; subst hi2
  refine ⟨fun j h1 h3 h4 => ?_, fun j hj h4 => ?_⟩
  · have e : ¬ j = k := by omega
    rw [a] at h4; rw [b]
    simp only [upd, if_neg e] at h4 ⊢
    exact h j h1 h3 h4
  · rw [a] at h4; rw [b]
    by_cases e : j = k
    · simp only [upd, if_pos e] at h4 ⊢
      exact h (8 + k) (by omega) (by omega) h4
    · simp only [upd, if_neg e] at h4 ⊢
      exact h2 j (by omega) h4
theorem mZ.st {X Y : Nat → Nat → Int32} {k : Nat} (h : mZ X k) (a : Y 5 = upd (X 5) k 0) : mZ Y (k + 1) := fun j h1 h2 => by
  rw [a]
  by_cases e : j = k
  · simp only [upd, if_pos e]
  · simp only [upd, if_neg e]; exact h j h1 (by omega)
theorem mZ.i8 {X : Nat → Nat → Int32} {k : Nat} (h : mZ X k) (hk : 16 ≤ k) : mI8 X := fun j h1 h2 h4 => absurd (by rw [h j h1 (by omega)]; decide) h4
/-- the racers of a race that have an entry -/
def mCn (g : Nat → Int32) (r : Nat) : Nat → Nat
  | 0 => 0
  | n + 1 => mCn g r n + (if 0 ≤ (g (16 * r + n)).toInt then 1 else 0)
def mR1 (G : Nat → Nat → Int32) : Prop := ∀ r : Nat, r < 8 → (G 27 r).toInt = (mCn (G 30) r 16 : Int)
theorem mCn_le (g : Nat → Int32) (r n : Nat) : mCn g r n ≤ n := by
  induction n with
  | zero => exact Nat.le_refl 0
  | succ n ih => simp only [mCn]; split <;> omega
theorem mCn_lt {g : Nat → Int32} {r w n : Nat} (hw : w < n) (h : (g (16 * r + w)).toInt < 0) : mCn g r n < n := by
  induction n with
  | zero => omega
  | succ n ih =>
    simp only [mCn]
    by_cases e : w = n
    · subst e
      rw [if_neg (by omega)]
      have := mCn_le g r w
      omega
    · have := ih (by omega)
      split <;> omega
theorem mCn_same {g g' : Nat → Int32} {r n : Nat} (h : ∀ w : Nat, w < n → g' (16 * r + w) = g (16 * r + w)) : mCn g' r n = mCn g r n := by
  induction n with
  | zero => rfl
  | succ n ih => simp only [mCn]; rw [ih (fun w hw => h w (by omega)), h n (by omega)]
theorem mCn_up {g : Nat → Int32} {r w n : Nat} {x : Int32} (hw : w < n) (h : (g (16 * r + w)).toInt < 0) (hx : 0 ≤ x.toInt) : mCn (upd g (16 * r + w) x) r n = mCn g r n + 1 := by
  induction n with
  | zero => omega
  | succ n ih =>
    simp only [mCn]
    by_cases e : w = n
    · subst e
      rw [mCn_same (g := g) (fun v hv => by simp only [upd]; rw [if_neg (by omega)])]
      rw [show upd g (16 * r + w) x (16 * r + w) = x from by simp [upd], if_pos hx, if_neg (by omega)]
    · rw [ih (by omega), show upd g (16 * r + w) x (16 * r + n) = g (16 * r + n) from by simp only [upd]; rw [if_neg (by omega)]]
      omega
theorem mR1.enter {G Y : Nat → Nat → Int32} {r0 w0 : Nat} {x z : Int32} (h : mR1 G) (hr : r0 < 8) (hw : w0 < 16) (hn : (G 30 (16 * r0 + w0)).toInt < 0) (hx : 0 ≤ x.toInt) (hz : z.toInt = (G 27 r0).toInt + 1) (a : Y 27 = upd (G 27) r0 z) (b : Y 30 = upd (G 30) (16 * r0 + w0) x) : mR1 Y := fun r h8 => by
  rw [a, b]
  by_cases e : r = r0
  · subst e
    rw [mCn_up hw hn hx, show upd (G 27) r z r = z from by simp [upd], hz, h r h8]
    omega
  · rw [show upd (G 27) r0 z r = G 27 r from by simp only [upd]; rw [if_neg e], mCn_same (g := G 30) (fun v hv => by simp only [upd]; rw [if_neg (by omega)])]
    exact h r h8
theorem mR3.race {F Fn : Nat → Int32} {G Y : Nat → Nat → Int32} {x y : Int32} (h : mR3 F G) (h0 : 0 ≤ (F 17).toInt) (a : Y 24 = upd (G 24) (Int32.toNatClampNeg (F 17)) x) (b : Y 26 = upd (G 26) (Int32.toNatClampNeg (F 17)) y) (hF : (Fn 17).toInt = (F 17).toInt + 1) (hx : x.toInt = 9 ∨ x.toInt = 10 ∨ 0 ≤ y.toInt) : mR3 Fn Y := fun r hr => by
  rw [a, b]
  by_cases e : r = Int32.toNatClampNeg (F 17)
  · simp only [upd, if_pos e]; exact hx
  · simp only [upd, if_neg e]
    refine h r ?_
    rw [mm_nat] at e
    omega
theorem num_11 : (11 : Int32).toInt = 11 := by decide
def w3X6_enter : List Cond := .code yX6_enter cX6_enter 3 (some .int) :: ([.fieldLink RX6 126 "SkiShotsModel" "thrown" "I", .methodLink RX6 203 yX6_isRace, .instanceMethod yX6_isRace, .selects RX6 yX6_isRace yX6_isRace, .initialized RX6, .code yX6_isRace cX6_isRace 2 (some .boolean), .fieldLink RX6 200 "SkiShotsModel" "races" "I", .methodLink RX6 206 yX6_isRacer, .instanceMethod yX6_isRacer, .selects RX6 yX6_isRacer yX6_isRacer, .code yX6_isRacer cX6_isRacer 2 (some .boolean), .fieldLink RX6 197 "SkiShotsModel" "racers" "I", .fieldLink RX6 81 "SkiShotsModel" "entryOf" "[I", .fieldLink RX6 75 "SkiShotsModel" "rEvents" "[I", .fieldLink RX6 72 "SkiShotsModel" "rEntries" "[I", .fieldLink RX6 78 "SkiShotsModel" "entries" "[I"] ++ wsX60)
set_option maxRecDepth 20000 in
theorem gc_X6_enter_X6_isRace_1 : GoodIn w3X6_enter (wsV RX6 203 RX6 yX6_isRace w3X6_isRace) := goodIn_p _ [6] rfl (by decide +kernel)
set_option maxRecDepth 20000 in
theorem gc_X6_enter_X6_isRacer_6 : GoodIn w3X6_enter (wsV RX6 206 RX6 yX6_isRacer w3X6_isRacer) := goodIn_p _ [11] rfl (by decide +kernel)
set_option maxHeartbeats 4000000 in
set_option maxRecDepth 100000 in
theorem g3_X6_enter (l : Launch) (D : va_G) (h0 : Nat) (q : Nat → Nat) (cq : Nat → ClassId) (F : Nat → Int32) (G : Nat → Nat → Int32) (sz : Nat) (p0 : Int32) (p1 : Int32) (hI : mI F G) (hR1 : mR1 G) : Met l yX6_enter w3X6_enter ({ frames := 1, cells := 0, slots := 0, locals := 21 }) (mPre D h0 q cq F G sz [.ref h0, .int p0, .int p1]) (mQi D h0 q cq F G sz [2] [27, 29, 30] (fun r F' G' => mR1 G')) 0 0 (va_A (mW h0 q cq F G) sz) := by
  refine mr_met (WF := [2]) (WG := [27, 29, 30]) (cc := cX6_enter) (maxL := 3) (ret := (some .int)) (by decide) rfl rfl (by decide +kernel) (Nat.le_of_ble_eq_true rfl) hI ?_
  intro p e s m args below meth c ls E hml hr hlk hsz hA hM hl
  have hx := E.1
  have hb := E.2.1
  have hts := E.2.2.1
  have hown := E.2.2.2.2.1
  have hl : lv_has ls 3 [(0, .ref h0), (1, .int p0), (2, .int p1)] := hl
  refine lv_aload_n hx hb dX6_enter_0 rfl (lv_at hl 0 rfl) ?_
  refine lv_iconst (v := 0) hx hb dX6_enter_1 (by decide) ?_
  refine mr_put (v := 0) E hM 2 (by decide) (index := 126) (mm_at 1 rfl) rfl rfl (by decide +kernel) ms_2 (mm_nb rfl) (by decide) dX6_enter_2 (fun H locs hM => ?_)
  refine lv_aload_n hx hb dX6_enter_5 rfl (lv_at hl 0 rfl) ?_
  refine lv_iload_n hx hb dX6_enter_6 rfl (lv_at hl 1 rfl) ?_
  have b_2 : 0 ≤ (F 17).toInt ∧ (F 17).toInt ≤ 8 := hM.fb 17 rfl
  refine mr_callp (av := [.int p0]) (rest := []) E hA hml hM (g3_X6_isRace l D h0 q cq (upd F 2 0) G _ p0 hM.2.2.2.1 ) (cwV 1 hts gc_X6_enter_X6_isRace_1 rfl rfl rfl (by decide +kernel) ⟨Nat.le_of_ble_eq_true rfl, Nat.le_of_ble_eq_true rfl⟩) rfl hl.1 rfl (Nat.le_of_ble_eq_true rfl) dX6_enter_7 ⟨Nat.le_of_ble_eq_true rfl, Nat.le_of_ble_eq_true rfl⟩ (fun r_3 H locs p_4 hM => ?_)
  replace p_4 : (r_3.toInt = 1 ∧ 0 ≤ p0.toInt ∧ p0.toInt < (F 17).toInt) ∨ (r_3.toInt = 0 ∧ ¬ (0 ≤ p0.toInt ∧ p0.toInt < (F 17).toInt)) := p_4
  refine mm_if_eq (X := r_3.toInt) (tgt := 44) hx hb dX6_enter_10 (by decide) rfl (fun c_5 => ?_) (fun c_5 => ?_)
  · refine lv_iconst (v := (-1)) hx hb dX6_enter_44 (by decide) ?_
    exact mr_ri E hr hlk hsz hM (show mR1 G from by have n9 := num_m1; exact hR1) dX6_enter_45
  · refine lv_aload_n hx hb dX6_enter_13 rfl (lv_at hl 0 rfl) ?_
    refine lv_iload_n hx hb dX6_enter_14 rfl (lv_at hl 2 rfl) ?_
    have b_7 : 0 ≤ (F 15).toInt ∧ (F 15).toInt ≤ 16 := hM.fb 15 rfl
    refine mr_callp (av := [.int p1]) (rest := []) E hA hml hM (g3_X6_isRacer l D h0 q cq (upd F 2 0) G _ p1 hM.2.2.2.1 ) (cwV 1 hts gc_X6_enter_X6_isRacer_6 rfl rfl rfl (by decide +kernel) ⟨Nat.le_of_ble_eq_true rfl, Nat.le_of_ble_eq_true rfl⟩) rfl hl.1 rfl (Nat.le_of_ble_eq_true rfl) dX6_enter_15 ⟨Nat.le_of_ble_eq_true rfl, Nat.le_of_ble_eq_true rfl⟩ (fun r_8 H locs p_9 hM => ?_)
    replace p_9 : (r_8.toInt = 1 ∧ 0 ≤ p1.toInt ∧ p1.toInt < (F 15).toInt) ∨ (r_8.toInt = 0 ∧ ¬ (0 ≤ p1.toInt ∧ p1.toInt < (F 15).toInt)) := p_9
    refine mm_if_eq (X := r_8.toInt) (tgt := 44) hx hb dX6_enter_18 (by decide) rfl (fun c_10 => ?_) (fun c_10 => ?_)
    · refine lv_iconst (v := (-1)) hx hb dX6_enter_44 (by decide) ?_
      exact mr_ri E hr hlk hsz hM (show mR1 G from by have n9 := num_m1; exact hR1) dX6_enter_45
    · refine lv_aload_n hx hb dX6_enter_21 rfl (lv_at hl 0 rfl) ?_
      refine mr_get (v := .ref (q 30)) E hM 30 (by decide) (index := 81) (mm_at 13 rfl) rfl rfl dX6_enter_22 ?_
      refine lv_bipush (v := 16) hx hb dX6_enter_25 (by decide) ?_
      refine lv_iload_n hx hb dX6_enter_27 rfl (lv_at hl 1 rfl) ?_
      refine mm_imul (X := 16) (Y := p0.toInt) hx hb dX6_enter_28 num_16 rfl (by omega) (fun z_11 hz_11 => ?_)
      refine lv_iload_n hx hb dX6_enter_29 rfl (lv_at hl 2 rfl) ?_
      refine mm_iadd (X := z_11.toInt) (Y := p1.toInt) hx hb dX6_enter_30 rfl rfl (by omega) (fun z_12 hz_12 => ?_)
      refine mr_ald (X := z_12.toInt) E hM 23 22 rfl rfl rfl (by omega) dX6_enter_31 ?_
      have b_13 : -1 ≤ (G 30 (Int32.toNatClampNeg z_12)).toInt ∧ (G 30 (Int32.toNatClampNeg z_12)).toInt ≤ 15 := hM.ab 30 rfl _
      have ez_z_12 : Int32.toNatClampNeg z_12 = 16 * Int32.toNatClampNeg p0 + Int32.toNatClampNeg p1 := by simp only [mm_nat]; omega
      refine mm_if_ge (X := (G 30 (Int32.toNatClampNeg z_12)).toInt) (tgt := 44) hx hb dX6_enter_32 (by decide) rfl (fun c_14 => ?_) (fun c_14 => ?_)
      · refine lv_iconst (v := (-1)) hx hb dX6_enter_44 (by decide) ?_
        exact mr_ri E hr hlk hsz hM (show mR1 G from by have n9 := num_m1; exact hR1) dX6_enter_45
      · refine lv_aload_n hx hb dX6_enter_35 rfl (lv_at hl 0 rfl) ?_
        refine mr_get (v := .ref (q 28)) E hM 28 (by decide) (index := 75) (mm_at 14 rfl) rfl rfl dX6_enter_36 ?_
        refine lv_iload_n hx hb dX6_enter_39 rfl (lv_at hl 1 rfl) ?_
        refine mr_ald (X := p0.toInt) E hM 21 20 rfl rfl rfl (by omega) dX6_enter_40 ?_
        refine mm_if_le (X := (G 28 (Int32.toNatClampNeg p0)).toInt) (tgt := 46) hx hb dX6_enter_41 (by decide) rfl (fun c_15 => ?_) (fun c_15 => ?_)
        · have hneg : (G 30 (16 * Int32.toNatClampNeg p0 + Int32.toNatClampNeg p1)).toInt < 0 := by rw [← ez_z_12]; omega
          have hr8 : Int32.toNatClampNeg p0 < 8 := mm_cl ⟨by omega, by omega⟩
          have hw16 : Int32.toNatClampNeg p1 < 16 := mm_cl ⟨by omega, by omega⟩
          have hc15 : (G 27 (Int32.toNatClampNeg p0)).toInt ≤ 15 := by
            have h1 := hR1 _ hr8
            have h2 := mCn_lt (g := G 30) (r := Int32.toNatClampNeg p0) (n := 16) hw16 hneg
            omega
          refine lv_aload_n hx hb dX6_enter_46 rfl (lv_at hl 0 rfl) ?_
          refine mr_get (v := .ref (q 30)) E hM 30 (by decide) (index := 81) (mm_at 13 rfl) rfl rfl dX6_enter_47 ?_
          refine lv_bipush (v := 16) hx hb dX6_enter_50 (by decide) ?_
          refine lv_iload_n hx hb dX6_enter_52 rfl (lv_at hl 1 rfl) ?_
          refine mm_imul (X := 16) (Y := p0.toInt) hx hb dX6_enter_53 num_16 rfl (by omega) (fun z_16 hz_16 => ?_)
          refine lv_iload_n hx hb dX6_enter_54 rfl (lv_at hl 2 rfl) ?_
          refine mm_iadd (X := z_16.toInt) (Y := p1.toInt) hx hb dX6_enter_55 rfl rfl (by omega) (fun z_17 hz_17 => ?_)
          refine lv_aload_n hx hb dX6_enter_56 rfl (lv_at hl 0 rfl) ?_
          refine mr_get (v := .ref (q 27)) E hM 27 (by decide) (index := 72) (mm_at 15 rfl) rfl rfl dX6_enter_57 ?_
          refine lv_iload_n hx hb dX6_enter_60 rfl (lv_at hl 1 rfl) ?_
          refine mr_ald (X := p0.toInt) E hM 20 19 rfl rfl rfl (by omega) dX6_enter_61 ?_
          have b_18 : 0 ≤ (G 27 (Int32.toNatClampNeg p0)).toInt ∧ (G 27 (Int32.toNatClampNeg p0)).toInt ≤ 16 := hM.ab 27 rfl _
          refine mr_ast (X := z_17.toInt) E hM 30 23 22 rfl rfl rfl (by omega) mg_30 (by decide) (mm_bdA (X := (G 27 (Int32.toNatClampNeg p0)).toInt) (a := -1) (b := 15) rfl rfl (by omega)) (by decide) dX6_enter_62 (fun H locs G_19 eG_19 hM => ?_)
          have g27_20 : (G_19 27 (Int32.toNatClampNeg p0)).toInt = (G 27 (Int32.toNatClampNeg p0)).toInt := congrArg Int32.toInt (congrFun ((show G_19 27 = G 27 from by rw [eG_19]; rfl).trans rfl) _)
          refine lv_aload_n hx hb dX6_enter_63 rfl (lv_at hl 0 rfl) ?_
          refine mr_get (v := .ref (q 29)) E hM 29 (by decide) (index := 78) (mm_at 16 rfl) rfl rfl dX6_enter_64 ?_
          refine lv_bipush (v := 16) hx hb dX6_enter_67 (by decide) ?_
          refine lv_iload_n hx hb dX6_enter_69 rfl (lv_at hl 1 rfl) ?_
          refine mm_imul (X := 16) (Y := p0.toInt) hx hb dX6_enter_70 num_16 rfl (by omega) (fun z_21 hz_21 => ?_)
          refine lv_aload_n hx hb dX6_enter_71 rfl (lv_at hl 0 rfl) ?_
          refine mr_get (v := .ref (q 27)) E hM 27 (by decide) (index := 72) (mm_at 15 rfl) rfl rfl dX6_enter_72 ?_
          refine lv_iload_n hx hb dX6_enter_75 rfl (lv_at hl 1 rfl) ?_
          refine mr_ald (X := p0.toInt) E hM 20 19 rfl rfl rfl (by omega) dX6_enter_76 ?_
          have b_22 : 0 ≤ (G_19 27 (Int32.toNatClampNeg p0)).toInt ∧ (G_19 27 (Int32.toNatClampNeg p0)).toInt ≤ 16 := hM.ab 27 rfl _
          refine mm_iadd (X := z_21.toInt) (Y := (G_19 27 (Int32.toNatClampNeg p0)).toInt) hx hb dX6_enter_77 rfl rfl (by omega) (fun z_23 hz_23 => ?_)
          refine lv_iload_n hx hb dX6_enter_78 rfl (lv_at hl 2 rfl) ?_
          refine mr_ast (X := z_23.toInt) E hM 29 22 21 rfl rfl rfl (by omega) mg_29 (by decide) (mm_bdA (X := p1.toInt) (a := 0) (b := 15) rfl rfl (by omega)) (by decide) dX6_enter_79 (fun H locs G_24 eG_24 hM => ?_)
          have g27_25 : (G_24 27 (Int32.toNatClampNeg p0)).toInt = (G 27 (Int32.toNatClampNeg p0)).toInt := congrArg Int32.toInt (congrFun ((show G_24 27 = G_19 27 from by rw [eG_24]; rfl).trans ((show G_19 27 = G 27 from by rw [eG_19]; rfl).trans rfl)) _)
          refine lv_aload_n hx hb dX6_enter_80 rfl (lv_at hl 0 rfl) ?_
          refine mr_get (v := .ref (q 27)) E hM 27 (by decide) (index := 72) (mm_at 15 rfl) rfl rfl dX6_enter_81 ?_
          refine lv_iload_n hx hb dX6_enter_84 rfl (lv_at hl 1 rfl) ?_
          refine lv_dup2_11 hx hb dX6_enter_85 rfl rfl ?_
          refine mr_ald (X := p0.toInt) E hM 20 19 rfl rfl rfl (by omega) dX6_enter_86 ?_
          have b_26 : 0 ≤ (G_24 27 (Int32.toNatClampNeg p0)).toInt ∧ (G_24 27 (Int32.toNatClampNeg p0)).toInt ≤ 16 := hM.ab 27 rfl _
          refine lv_iconst (v := 1) hx hb dX6_enter_87 (by decide) ?_
          refine mm_iadd (X := (G_24 27 (Int32.toNatClampNeg p0)).toInt) (Y := 1) hx hb dX6_enter_88 rfl num_1 (by omega) (fun z_27 hz_27 => ?_)
          refine mr_ast (X := p0.toInt) E hM 27 20 19 rfl rfl rfl (by omega) mg_27 (by decide) (mm_bdA (X := z_27.toInt) (a := 0) (b := 16) rfl rfl (by omega)) (by decide) dX6_enter_89 (fun H locs G_28 eG_28 hM => ?_)
          refine lv_aload_n hx hb dX6_enter_90 rfl (lv_at hl 0 rfl) ?_
          refine mr_get (v := .ref (q 27)) E hM 27 (by decide) (index := 72) (mm_at 15 rfl) rfl rfl dX6_enter_91 ?_
          refine lv_iload_n hx hb dX6_enter_94 rfl (lv_at hl 1 rfl) ?_
          refine mr_ald (X := p0.toInt) E hM 20 19 rfl rfl rfl (by omega) dX6_enter_95 ?_
          have b_29 : 0 ≤ (G_28 27 (Int32.toNatClampNeg p0)).toInt ∧ (G_28 27 (Int32.toNatClampNeg p0)).toInt ≤ 16 := hM.ab 27 rfl _
          exact mr_ri E hr hlk hsz hM (show mR1 G_28 from by exact mR1.enter hR1 hr8 hw16 hneg (x := (G 27 (Int32.toNatClampNeg p0))) (z := z_27) (by omega) (by omega) ((show G_28 27 = upd (G_24 27) (Int32.toNatClampNeg p0) (z_27) from by rw [eG_28]; rfl).trans (congrArg (fun z => upd z (Int32.toNatClampNeg p0) (z_27)) ((show G_24 27 = G_19 27 from by rw [eG_24]; rfl).trans ((show G_19 27 = G 27 from by rw [eG_19]; rfl).trans rfl)))) (by rw [← (show Int32.toNatClampNeg z_17 = 16 * Int32.toNatClampNeg p0 + Int32.toNatClampNeg p1 from by simp only [mm_nat]; omega)]; exact ((show G_28 30 = G_24 30 from by rw [eG_28]; rfl).trans ((show G_24 30 = G_19 30 from by rw [eG_24]; rfl).trans ((show G_19 30 = upd (G 30) (Int32.toNatClampNeg z_17) ((G 27 (Int32.toNatClampNeg p0))) from by rw [eG_19]; rfl).trans (congrArg (fun z => upd z (Int32.toNatClampNeg z_17) ((G 27 (Int32.toNatClampNeg p0)))) rfl)))))) dX6_enter_96
        · refine lv_iconst (v := (-1)) hx hb dX6_enter_44 (by decide) ?_
          exact mr_ri E hr hlk hsz hM (show mR1 G from by have n9 := num_m1; exact hR1) dX6_enter_45
def w3X6_race : List Cond := .code yX6_race cX6_race 3 (some .int) :: ([.fieldLink RX6 126 "SkiShotsModel" "thrown" "I", .fieldLink RX6 13 "SkiShotsModel" "laps" "[I", .fieldLink RX6 200 "SkiShotsModel" "races" "I", .fieldLink RX6 32 "SkiShotsModel" "startHow" "[I", .fieldLink RX6 45 "SkiShotsModel" "rName" "[I", .fieldLink RX6 48 "SkiShotsModel" "rLaps" "[I", .fieldLink RX6 51 "SkiShotsModel" "rShoots" "[I", .fieldLink RX6 16 "SkiShotsModel" "shootMany" "[I", .fieldLink RX6 54 "SkiShotsModel" "rSpares" "[I", .fieldLink RX6 22 "SkiShotsModel" "spares" "[I", .fieldLink RX6 57 "SkiShotsModel" "rLoop" "[Z", .fieldLink RX6 25 "SkiShotsModel" "isLoop" "[Z", .fieldLink RX6 60 "SkiShotsModel" "rCost" "[I", .fieldLink RX6 29 "SkiShotsModel" "cost" "[I", .fieldLink RX6 63 "SkiShotsModel" "rHow" "[I", .fieldLink RX6 66 "SkiShotsModel" "rNumber" "[I", .fieldLink RX6 35 "SkiShotsModel" "startNumber" "[I", .fieldLink RX6 69 "SkiShotsModel" "rBy" "[I", .methodLink RX6 203 yX6_isRace, .instanceMethod yX6_isRace, .selects RX6 yX6_isRace yX6_isRace, .initialized RX6, .code yX6_isRace cX6_isRace 2 (some .boolean)] ++ wsX60)
set_option maxRecDepth 20000 in
theorem gc_X6_race_X6_isRace_20 : GoodIn w3X6_race (wsV RX6 203 RX6 yX6_isRace w3X6_isRace) := goodIn_p _ [23] rfl (by decide +kernel)
set_option maxHeartbeats 4000000 in
set_option maxRecDepth 100000 in
theorem g3_X6_race (l : Launch) (D : va_G) (h0 : Nat) (q : Nat → Nat) (cq : Nat → ClassId) (F : Nat → Int32) (G : Nat → Nat → Int32) (sz : Nat) (p0 : Int32) (p1 : Int32) (hI : mI F G) (hR2 : mR2 G) (hR3 : mR3 F G) : Met l yX6_race w3X6_race ({ frames := 1, cells := 0, slots := 0, locals := 21 }) (mPre D h0 q cq F G sz [.ref h0, .int p0, .int p1]) (mQi D h0 q cq F G sz [2, 17] [18, 19, 20, 21, 22, 23, 24, 25, 26] (fun r F' G' => mR3 F' G')) 0 0 (va_A (mW h0 q cq F G) sz) := by
  refine mr_met (WF := [2, 17]) (WG := [18, 19, 20, 21, 22, 23, 24, 25, 26]) (cc := cX6_race) (maxL := 3) (ret := (some .int)) (by decide) rfl rfl (by decide +kernel) (Nat.le_of_ble_eq_true rfl) hI ?_
  intro p e s m args below meth c ls E hml hr hlk hsz hA hM hl
  have hx := E.1
  have hb := E.2.1
  have hts := E.2.2.1
  have hown := E.2.2.2.2.1
  have hl : lv_has ls 3 [(0, .ref h0), (1, .int p0), (2, .int p1)] := hl
  refine lv_aload_n hx hb dX6_race_0 rfl (lv_at hl 0 rfl) ?_
  refine lv_iconst (v := 0) hx hb dX6_race_1 (by decide) ?_
  refine mr_put (v := 0) E hM 2 (by decide) (index := 126) (mm_at 1 rfl) rfl rfl (by decide +kernel) ms_2 (mm_nb rfl) (by decide) dX6_race_2 (fun H locs hM => ?_)
  refine lv_iload_n hx hb dX6_race_5 rfl (lv_at hl 1 rfl) ?_
  refine mm_if_lt (X := p0.toInt) (tgt := 33) hx hb dX6_race_6 (by decide) rfl (fun c_1 => ?_) (fun c_1 => ?_)
  · refine lv_iconst (v := (-1)) hx hb dX6_race_33 (by decide) ?_
    exact mr_ri E hr hlk hsz hM (show mR3 (upd F 2 0) G from by have n9 := num_m1; exact hR3) dX6_race_34
  · refine lv_iload_n hx hb dX6_race_9 rfl (lv_at hl 1 rfl) ?_
    refine lv_bipush (v := 7) hx hb dX6_race_10 (by decide) ?_
    refine mm_icmp_gt (X := p0.toInt) (Y := 7) (tgt := 33) hx hb dX6_race_12 (by decide) rfl num_7 (fun c_2 => ?_) (fun c_2 => ?_)
    · refine lv_iconst (v := (-1)) hx hb dX6_race_33 (by decide) ?_
      exact mr_ri E hr hlk hsz hM (show mR3 (upd F 2 0) G from by have n9 := num_m1; exact hR3) dX6_race_34
    · refine lv_aload_n hx hb dX6_race_15 rfl (lv_at hl 0 rfl) ?_
      refine mr_get (v := .ref (q 5)) E hM 5 (by decide) (index := 13) (mm_at 2 rfl) rfl rfl dX6_race_16 ?_
      refine lv_iload_n hx hb dX6_race_19 rfl (lv_at hl 1 rfl) ?_
      refine mr_ald (X := p0.toInt) E hM 2 1 rfl rfl rfl (by omega) dX6_race_20 ?_
      refine mm_if_eq (X := (G 5 (Int32.toNatClampNeg p0)).toInt) (tgt := 33) hx hb dX6_race_21 (by decide) rfl (fun c_3 => ?_) (fun c_3 => ?_)
      · refine lv_iconst (v := (-1)) hx hb dX6_race_33 (by decide) ?_
        exact mr_ri E hr hlk hsz hM (show mR3 (upd F 2 0) G from by have n9 := num_m1; exact hR3) dX6_race_34
      · refine lv_aload_n hx hb dX6_race_24 rfl (lv_at hl 0 rfl) ?_
        have b_4 : 0 ≤ (F 17).toInt ∧ (F 17).toInt ≤ 8 := hM.fb 17 rfl
        refine mr_get (v := .int (F 17)) E hM 17 (by decide) (index := 200) (mm_at 3 rfl) rfl rfl dX6_race_25 ?_
        refine lv_bipush (v := 8) hx hb dX6_race_28 (by decide) ?_
        refine mm_icmp_ne (X := (F 17).toInt) (Y := 8) (tgt := 35) hx hb dX6_race_30 (by decide) rfl num_8 (fun c_5 => ?_) (fun c_5 => ?_)
        · refine lv_aload_n hx hb dX6_race_35 rfl (lv_at hl 0 rfl) ?_
          refine mr_get (v := .ref (q 11)) E hM 11 (by decide) (index := 32) (mm_at 4 rfl) rfl rfl dX6_race_36 ?_
          refine lv_iload_n hx hb dX6_race_39 rfl (lv_at hl 1 rfl) ?_
          refine mr_ald (X := p0.toInt) E hM 8 7 rfl rfl rfl (by omega) dX6_race_40 ?_
          refine lv_bipush (v := 11) hx hb dX6_race_41 (by decide) ?_
          refine mm_icmp_ne (X := (G 11 (Int32.toNatClampNeg p0)).toInt) (Y := 11) (tgt := 57) hx hb dX6_race_43 (by decide) rfl num_11 (fun c_6 => ?_) (fun c_6 => ?_)
          · refine lv_iload_n hx hb dX6_race_57 rfl (lv_at hl 2 rfl) ?_
            refine lv_iconst (v := (-1)) hx hb dX6_race_58 (by decide) ?_
            refine mm_icmp_eq (X := p1.toInt) (Y := (-1)) (tgt := 64) hx hb dX6_race_59 (by decide) rfl num_m1 (fun c_7 => ?_) (fun c_7 => ?_)
            · refine lv_aload_n hx hb dX6_race_64 rfl (lv_at hl 0 rfl) ?_
              refine mr_get (v := .ref (q 18)) E hM 18 (by decide) (index := 45) (mm_at 5 rfl) rfl rfl dX6_race_65 ?_
              refine lv_aload_n hx hb dX6_race_68 rfl (lv_at hl 0 rfl) ?_
              refine mr_get (v := .int (F 17)) E hM 17 (by decide) (index := 200) (mm_at 3 rfl) rfl rfl dX6_race_69 ?_
              refine lv_iload_n hx hb dX6_race_72 rfl (lv_at hl 1 rfl) ?_
              refine mr_ast (X := (F 17).toInt) E hM 18 11 10 rfl rfl rfl (by omega) mg_18 (by decide) (mm_nbA rfl) (by decide) dX6_race_73 (fun H locs G_8 eG_8 hM => ?_)
              refine lv_aload_n hx hb dX6_race_74 rfl (lv_at hl 0 rfl) ?_
              refine mr_get (v := .ref (q 19)) E hM 19 (by decide) (index := 48) (mm_at 6 rfl) rfl rfl dX6_race_75 ?_
              refine lv_aload_n hx hb dX6_race_78 rfl (lv_at hl 0 rfl) ?_
              refine mr_get (v := .int (F 17)) E hM 17 (by decide) (index := 200) (mm_at 3 rfl) rfl rfl dX6_race_79 ?_
              refine lv_aload_n hx hb dX6_race_82 rfl (lv_at hl 0 rfl) ?_
              refine mr_get (v := .ref (q 5)) E hM 5 (by decide) (index := 13) (mm_at 2 rfl) rfl rfl dX6_race_83 ?_
              refine lv_iload_n hx hb dX6_race_86 rfl (lv_at hl 1 rfl) ?_
              refine mr_ald (X := p0.toInt) E hM 2 1 rfl rfl rfl (by omega) dX6_race_87 ?_
              refine mr_ast (X := (F 17).toInt) E hM 19 12 11 rfl rfl rfl (by omega) mg_19 (by decide) (mm_nbA rfl) (by decide) dX6_race_88 (fun H locs G_9 eG_9 hM => ?_)
              refine lv_aload_n hx hb dX6_race_89 rfl (lv_at hl 0 rfl) ?_
              refine mr_get (v := .ref (q 20)) E hM 20 (by decide) (index := 51) (mm_at 7 rfl) rfl rfl dX6_race_90 ?_
              refine lv_aload_n hx hb dX6_race_93 rfl (lv_at hl 0 rfl) ?_
              refine mr_get (v := .int (F 17)) E hM 17 (by decide) (index := 200) (mm_at 3 rfl) rfl rfl dX6_race_94 ?_
              refine lv_aload_n hx hb dX6_race_97 rfl (lv_at hl 0 rfl) ?_
              refine mr_get (v := .ref (q 6)) E hM 6 (by decide) (index := 16) (mm_at 8 rfl) rfl rfl dX6_race_98 ?_
              refine lv_iload_n hx hb dX6_race_101 rfl (lv_at hl 1 rfl) ?_
              refine mr_ald (X := p0.toInt) E hM 3 2 rfl rfl rfl (by omega) dX6_race_102 ?_
              have b_10 : 0 ≤ (G_9 6 (Int32.toNatClampNeg p0)).toInt ∧ (G_9 6 (Int32.toNatClampNeg p0)).toInt ≤ 4 := hM.ab 6 rfl _
              refine mr_ast (X := (F 17).toInt) E hM 20 13 12 rfl rfl rfl (by omega) mg_20 (by decide) (mm_bdA (X := (G_9 6 (Int32.toNatClampNeg p0)).toInt) (a := 0) (b := 4) rfl rfl (by omega)) (by decide) dX6_race_103 (fun H locs G_11 eG_11 hM => ?_)
              refine lv_aload_n hx hb dX6_race_104 rfl (lv_at hl 0 rfl) ?_
              refine mr_get (v := .ref (q 21)) E hM 21 (by decide) (index := 54) (mm_at 9 rfl) rfl rfl dX6_race_105 ?_
              refine lv_aload_n hx hb dX6_race_108 rfl (lv_at hl 0 rfl) ?_
              refine mr_get (v := .int (F 17)) E hM 17 (by decide) (index := 200) (mm_at 3 rfl) rfl rfl dX6_race_109 ?_
              refine lv_aload_n hx hb dX6_race_112 rfl (lv_at hl 0 rfl) ?_
              refine mr_get (v := .ref (q 8)) E hM 8 (by decide) (index := 22) (mm_at 10 rfl) rfl rfl dX6_race_113 ?_
              refine lv_iload_n hx hb dX6_race_116 rfl (lv_at hl 1 rfl) ?_
              refine mr_ald (X := p0.toInt) E hM 5 4 rfl rfl rfl (by omega) dX6_race_117 ?_
              refine mr_ast (X := (F 17).toInt) E hM 21 14 13 rfl rfl rfl (by omega) mg_21 (by decide) (mm_nbA rfl) (by decide) dX6_race_118 (fun H locs G_12 eG_12 hM => ?_)
              refine lv_aload_n hx hb dX6_race_119 rfl (lv_at hl 0 rfl) ?_
              refine mr_get (v := .ref (q 22)) E hM 22 (by decide) (index := 57) (mm_at 11 rfl) rfl rfl dX6_race_120 ?_
              refine lv_aload_n hx hb dX6_race_123 rfl (lv_at hl 0 rfl) ?_
              refine mr_get (v := .int (F 17)) E hM 17 (by decide) (index := 200) (mm_at 3 rfl) rfl rfl dX6_race_124 ?_
              refine lv_aload_n hx hb dX6_race_127 rfl (lv_at hl 0 rfl) ?_
              refine mr_get (v := .ref (q 9)) E hM 9 (by decide) (index := 25) (mm_at 12 rfl) rfl rfl dX6_race_128 ?_
              refine lv_iload_n hx hb dX6_race_131 rfl (lv_at hl 1 rfl) ?_
              refine mr_zld (X := p0.toInt) E hM 6 5 rfl rfl rfl (by omega) dX6_race_132 ?_
              refine mr_zst (X := (F 17).toInt) E hM 22 15 14 rfl rfl rfl (by omega) mg_22 (by decide) rfl (by decide) dX6_race_133 (fun H locs G_13 eG_13 hM => ?_)
              refine lv_aload_n hx hb dX6_race_134 rfl (lv_at hl 0 rfl) ?_
              refine mr_get (v := .ref (q 23)) E hM 23 (by decide) (index := 60) (mm_at 13 rfl) rfl rfl dX6_race_135 ?_
              refine lv_aload_n hx hb dX6_race_138 rfl (lv_at hl 0 rfl) ?_
              refine mr_get (v := .int (F 17)) E hM 17 (by decide) (index := 200) (mm_at 3 rfl) rfl rfl dX6_race_139 ?_
              refine lv_aload_n hx hb dX6_race_142 rfl (lv_at hl 0 rfl) ?_
              refine mr_get (v := .ref (q 10)) E hM 10 (by decide) (index := 29) (mm_at 14 rfl) rfl rfl dX6_race_143 ?_
              refine lv_iload_n hx hb dX6_race_146 rfl (lv_at hl 1 rfl) ?_
              refine mr_ald (X := p0.toInt) E hM 7 6 rfl rfl rfl (by omega) dX6_race_147 ?_
              refine mr_ast (X := (F 17).toInt) E hM 23 16 15 rfl rfl rfl (by omega) mg_23 (by decide) (mm_nbA rfl) (by decide) dX6_race_148 (fun H locs G_14 eG_14 hM => ?_)
              refine lv_aload_n hx hb dX6_race_149 rfl (lv_at hl 0 rfl) ?_
              refine mr_get (v := .ref (q 24)) E hM 24 (by decide) (index := 63) (mm_at 15 rfl) rfl rfl dX6_race_150 ?_
              refine lv_aload_n hx hb dX6_race_153 rfl (lv_at hl 0 rfl) ?_
              refine mr_get (v := .int (F 17)) E hM 17 (by decide) (index := 200) (mm_at 3 rfl) rfl rfl dX6_race_154 ?_
              refine lv_aload_n hx hb dX6_race_157 rfl (lv_at hl 0 rfl) ?_
              refine mr_get (v := .ref (q 11)) E hM 11 (by decide) (index := 32) (mm_at 4 rfl) rfl rfl dX6_race_158 ?_
              refine lv_iload_n hx hb dX6_race_161 rfl (lv_at hl 1 rfl) ?_
              refine mr_ald (X := p0.toInt) E hM 8 7 rfl rfl rfl (by omega) dX6_race_162 ?_
              refine mr_ast (X := (F 17).toInt) E hM 24 17 16 rfl rfl rfl (by omega) mg_24 (by decide) (mm_nbA rfl) (by decide) dX6_race_163 (fun H locs G_15 eG_15 hM => ?_)
              refine lv_aload_n hx hb dX6_race_164 rfl (lv_at hl 0 rfl) ?_
              refine mr_get (v := .ref (q 25)) E hM 25 (by decide) (index := 66) (mm_at 16 rfl) rfl rfl dX6_race_165 ?_
              refine lv_aload_n hx hb dX6_race_168 rfl (lv_at hl 0 rfl) ?_
              refine mr_get (v := .int (F 17)) E hM 17 (by decide) (index := 200) (mm_at 3 rfl) rfl rfl dX6_race_169 ?_
              refine lv_aload_n hx hb dX6_race_172 rfl (lv_at hl 0 rfl) ?_
              refine mr_get (v := .ref (q 12)) E hM 12 (by decide) (index := 35) (mm_at 17 rfl) rfl rfl dX6_race_173 ?_
              refine lv_iload_n hx hb dX6_race_176 rfl (lv_at hl 1 rfl) ?_
              refine mr_ald (X := p0.toInt) E hM 9 8 rfl rfl rfl (by omega) dX6_race_177 ?_
              refine mr_ast (X := (F 17).toInt) E hM 25 18 17 rfl rfl rfl (by omega) mg_25 (by decide) (mm_nbA rfl) (by decide) dX6_race_178 (fun H locs G_16 eG_16 hM => ?_)
              refine lv_aload_n hx hb dX6_race_179 rfl (lv_at hl 0 rfl) ?_
              refine mr_get (v := .ref (q 26)) E hM 26 (by decide) (index := 69) (mm_at 18 rfl) rfl rfl dX6_race_180 ?_
              refine lv_aload_n hx hb dX6_race_183 rfl (lv_at hl 0 rfl) ?_
              refine mr_get (v := .int (F 17)) E hM 17 (by decide) (index := 200) (mm_at 3 rfl) rfl rfl dX6_race_184 ?_
              refine lv_iload_n hx hb dX6_race_187 rfl (lv_at hl 2 rfl) ?_
              refine mr_ast (X := (F 17).toInt) E hM 26 19 18 rfl rfl rfl (by omega) mg_26 (by decide) (mm_bdA (X := p1.toInt) (a := -1) (b := 7) rfl rfl (by omega)) (by decide) dX6_race_188 (fun H locs G_17 eG_17 hM => ?_)
              refine lv_aload_n hx hb dX6_race_189 rfl (lv_at hl 0 rfl) ?_
              refine lv_dup hx hb dX6_race_190 rfl ?_
              refine mr_get (v := .int (F 17)) E hM 17 (by decide) (index := 200) (mm_at 3 rfl) rfl rfl dX6_race_191 ?_
              refine lv_iconst (v := 1) hx hb dX6_race_194 (by decide) ?_
              refine mm_iadd (X := (F 17).toInt) (Y := 1) hx hb dX6_race_195 rfl num_1 (by omega) (fun z_18 hz_18 => ?_)
              refine mr_put (v := z_18) E hM 17 (by decide) (index := 200) (mm_at 3 rfl) rfl rfl (by decide +kernel) ms_17 (mm_bd (X := z_18.toInt) (a := 0) (b := 8) rfl rfl (by omega)) (by decide) dX6_race_196 (fun H locs hM => ?_)
              refine lv_aload_n hx hb dX6_race_199 rfl (lv_at hl 0 rfl) ?_
              refine mr_get (v := .int z_18) E hM 17 (by decide) (index := 200) (mm_at 3 rfl) rfl rfl dX6_race_200 ?_
              refine lv_iconst (v := 1) hx hb dX6_race_203 (by decide) ?_
              refine mm_isub (X := z_18.toInt) (Y := 1) hx hb dX6_race_204 rfl num_1 (by omega) (fun z_19 hz_19 => ?_)
              exact mr_ri E hr hlk hsz hM (show mR3 (upd (upd F 2 0) 17 z_18) G_17 from by exact mR3.race hR3 (by omega) ((show G_17 24 = G_16 24 from by rw [eG_17]; rfl).trans ((show G_16 24 = G_15 24 from by rw [eG_16]; rfl).trans ((show G_15 24 = upd (G_14 24) (Int32.toNatClampNeg (F 17)) ((G_14 11 (Int32.toNatClampNeg p0))) from by rw [eG_15]; rfl).trans (congrArg (fun z => upd z (Int32.toNatClampNeg (F 17)) ((G_14 11 (Int32.toNatClampNeg p0)))) ((show G_14 24 = G_13 24 from by rw [eG_14]; rfl).trans ((show G_13 24 = G_12 24 from by rw [eG_13]; rfl).trans ((show G_12 24 = G_11 24 from by rw [eG_12]; rfl).trans ((show G_11 24 = G_9 24 from by rw [eG_11]; rfl).trans ((show G_9 24 = G_8 24 from by rw [eG_9]; rfl).trans ((show G_8 24 = G 24 from by rw [eG_8]; rfl).trans rfl)))))))))) ((show G_17 26 = upd (G_16 26) (Int32.toNatClampNeg (F 17)) (p1) from by rw [eG_17]; rfl).trans (congrArg (fun z => upd z (Int32.toNatClampNeg (F 17)) (p1)) ((show G_16 26 = G_15 26 from by rw [eG_16]; rfl).trans ((show G_15 26 = G_14 26 from by rw [eG_15]; rfl).trans ((show G_14 26 = G_13 26 from by rw [eG_14]; rfl).trans ((show G_13 26 = G_12 26 from by rw [eG_13]; rfl).trans ((show G_12 26 = G_11 26 from by rw [eG_12]; rfl).trans ((show G_11 26 = G_9 26 from by rw [eG_11]; rfl).trans ((show G_9 26 = G_8 26 from by rw [eG_9]; rfl).trans ((show G_8 26 = G 26 from by rw [eG_8]; rfl).trans rfl)))))))))) (show (z_18).toInt = (F 17).toInt + 1 from by omega) (by have h11 : ((G_14 11 (Int32.toNatClampNeg p0))).toInt = (G 11 (Int32.toNatClampNeg p0)).toInt := congrArg Int32.toInt (congrFun ((show G_14 11 = G_13 11 from by rw [eG_14]; rfl).trans ((show G_13 11 = G_12 11 from by rw [eG_13]; rfl).trans ((show G_12 11 = G_11 11 from by rw [eG_12]; rfl).trans ((show G_11 11 = G_9 11 from by rw [eG_11]; rfl).trans ((show G_9 11 = G_8 11 from by rw [eG_9]; rfl).trans ((show G_8 11 = G 11 from by rw [eG_8]; rfl).trans rfl)))))) _); have h2 := hR2 (Int32.toNatClampNeg p0) (mm_cl ⟨by omega, by omega⟩) (by omega); unfold mHow at h2; omega)) dX6_race_205
            · refine lv_iconst (v := (-1)) hx hb dX6_race_62 (by decide) ?_
              exact mr_ri E hr hlk hsz hM (show mR3 (upd F 2 0) G from by have n9 := num_m1; exact hR3) dX6_race_63
          · refine lv_aload_n hx hb dX6_race_46 rfl (lv_at hl 0 rfl) ?_
            refine lv_iload_n hx hb dX6_race_47 rfl (lv_at hl 2 rfl) ?_
            refine mr_callp (av := [.int p1]) (rest := []) E hA hml hM (g3_X6_isRace l D h0 q cq (upd F 2 0) G _ p1 hM.2.2.2.1 ) (cwV 1 hts gc_X6_race_X6_isRace_20 rfl rfl rfl (by decide +kernel) ⟨Nat.le_of_ble_eq_true rfl, Nat.le_of_ble_eq_true rfl⟩) rfl hl.1 rfl (Nat.le_of_ble_eq_true rfl) dX6_race_48 ⟨Nat.le_of_ble_eq_true rfl, Nat.le_of_ble_eq_true rfl⟩ (fun r_21 H locs p_22 hM => ?_)
            replace p_22 : (r_21.toInt = 1 ∧ 0 ≤ p1.toInt ∧ p1.toInt < (F 17).toInt) ∨ (r_21.toInt = 0 ∧ ¬ (0 ≤ p1.toInt ∧ p1.toInt < (F 17).toInt)) := p_22
            refine mm_if_ne (X := r_21.toInt) (tgt := 64) hx hb dX6_race_51 (by decide) rfl (fun c_23 => ?_) (fun c_23 => ?_)
            · refine lv_aload_n hx hb dX6_race_64 rfl (lv_at hl 0 rfl) ?_
              refine mr_get (v := .ref (q 18)) E hM 18 (by decide) (index := 45) (mm_at 5 rfl) rfl rfl dX6_race_65 ?_
              refine lv_aload_n hx hb dX6_race_68 rfl (lv_at hl 0 rfl) ?_
              refine mr_get (v := .int (F 17)) E hM 17 (by decide) (index := 200) (mm_at 3 rfl) rfl rfl dX6_race_69 ?_
              refine lv_iload_n hx hb dX6_race_72 rfl (lv_at hl 1 rfl) ?_
              refine mr_ast (X := (F 17).toInt) E hM 18 11 10 rfl rfl rfl (by omega) mg_18 (by decide) (mm_nbA rfl) (by decide) dX6_race_73 (fun H locs G_24 eG_24 hM => ?_)
              refine lv_aload_n hx hb dX6_race_74 rfl (lv_at hl 0 rfl) ?_
              refine mr_get (v := .ref (q 19)) E hM 19 (by decide) (index := 48) (mm_at 6 rfl) rfl rfl dX6_race_75 ?_
              refine lv_aload_n hx hb dX6_race_78 rfl (lv_at hl 0 rfl) ?_
              refine mr_get (v := .int (F 17)) E hM 17 (by decide) (index := 200) (mm_at 3 rfl) rfl rfl dX6_race_79 ?_
              refine lv_aload_n hx hb dX6_race_82 rfl (lv_at hl 0 rfl) ?_
              refine mr_get (v := .ref (q 5)) E hM 5 (by decide) (index := 13) (mm_at 2 rfl) rfl rfl dX6_race_83 ?_
              refine lv_iload_n hx hb dX6_race_86 rfl (lv_at hl 1 rfl) ?_
              refine mr_ald (X := p0.toInt) E hM 2 1 rfl rfl rfl (by omega) dX6_race_87 ?_
              refine mr_ast (X := (F 17).toInt) E hM 19 12 11 rfl rfl rfl (by omega) mg_19 (by decide) (mm_nbA rfl) (by decide) dX6_race_88 (fun H locs G_25 eG_25 hM => ?_)
              refine lv_aload_n hx hb dX6_race_89 rfl (lv_at hl 0 rfl) ?_
              refine mr_get (v := .ref (q 20)) E hM 20 (by decide) (index := 51) (mm_at 7 rfl) rfl rfl dX6_race_90 ?_
              refine lv_aload_n hx hb dX6_race_93 rfl (lv_at hl 0 rfl) ?_
              refine mr_get (v := .int (F 17)) E hM 17 (by decide) (index := 200) (mm_at 3 rfl) rfl rfl dX6_race_94 ?_
              refine lv_aload_n hx hb dX6_race_97 rfl (lv_at hl 0 rfl) ?_
              refine mr_get (v := .ref (q 6)) E hM 6 (by decide) (index := 16) (mm_at 8 rfl) rfl rfl dX6_race_98 ?_
              refine lv_iload_n hx hb dX6_race_101 rfl (lv_at hl 1 rfl) ?_
              refine mr_ald (X := p0.toInt) E hM 3 2 rfl rfl rfl (by omega) dX6_race_102 ?_
              have b_26 : 0 ≤ (G_25 6 (Int32.toNatClampNeg p0)).toInt ∧ (G_25 6 (Int32.toNatClampNeg p0)).toInt ≤ 4 := hM.ab 6 rfl _
              refine mr_ast (X := (F 17).toInt) E hM 20 13 12 rfl rfl rfl (by omega) mg_20 (by decide) (mm_bdA (X := (G_25 6 (Int32.toNatClampNeg p0)).toInt) (a := 0) (b := 4) rfl rfl (by omega)) (by decide) dX6_race_103 (fun H locs G_27 eG_27 hM => ?_)
              refine lv_aload_n hx hb dX6_race_104 rfl (lv_at hl 0 rfl) ?_
              refine mr_get (v := .ref (q 21)) E hM 21 (by decide) (index := 54) (mm_at 9 rfl) rfl rfl dX6_race_105 ?_
              refine lv_aload_n hx hb dX6_race_108 rfl (lv_at hl 0 rfl) ?_
              refine mr_get (v := .int (F 17)) E hM 17 (by decide) (index := 200) (mm_at 3 rfl) rfl rfl dX6_race_109 ?_
              refine lv_aload_n hx hb dX6_race_112 rfl (lv_at hl 0 rfl) ?_
              refine mr_get (v := .ref (q 8)) E hM 8 (by decide) (index := 22) (mm_at 10 rfl) rfl rfl dX6_race_113 ?_
              refine lv_iload_n hx hb dX6_race_116 rfl (lv_at hl 1 rfl) ?_
              refine mr_ald (X := p0.toInt) E hM 5 4 rfl rfl rfl (by omega) dX6_race_117 ?_
              refine mr_ast (X := (F 17).toInt) E hM 21 14 13 rfl rfl rfl (by omega) mg_21 (by decide) (mm_nbA rfl) (by decide) dX6_race_118 (fun H locs G_28 eG_28 hM => ?_)
              refine lv_aload_n hx hb dX6_race_119 rfl (lv_at hl 0 rfl) ?_
              refine mr_get (v := .ref (q 22)) E hM 22 (by decide) (index := 57) (mm_at 11 rfl) rfl rfl dX6_race_120 ?_
              refine lv_aload_n hx hb dX6_race_123 rfl (lv_at hl 0 rfl) ?_
              refine mr_get (v := .int (F 17)) E hM 17 (by decide) (index := 200) (mm_at 3 rfl) rfl rfl dX6_race_124 ?_
              refine lv_aload_n hx hb dX6_race_127 rfl (lv_at hl 0 rfl) ?_
              refine mr_get (v := .ref (q 9)) E hM 9 (by decide) (index := 25) (mm_at 12 rfl) rfl rfl dX6_race_128 ?_
              refine lv_iload_n hx hb dX6_race_131 rfl (lv_at hl 1 rfl) ?_
              refine mr_zld (X := p0.toInt) E hM 6 5 rfl rfl rfl (by omega) dX6_race_132 ?_
              refine mr_zst (X := (F 17).toInt) E hM 22 15 14 rfl rfl rfl (by omega) mg_22 (by decide) rfl (by decide) dX6_race_133 (fun H locs G_29 eG_29 hM => ?_)
              refine lv_aload_n hx hb dX6_race_134 rfl (lv_at hl 0 rfl) ?_
              refine mr_get (v := .ref (q 23)) E hM 23 (by decide) (index := 60) (mm_at 13 rfl) rfl rfl dX6_race_135 ?_
              refine lv_aload_n hx hb dX6_race_138 rfl (lv_at hl 0 rfl) ?_
              refine mr_get (v := .int (F 17)) E hM 17 (by decide) (index := 200) (mm_at 3 rfl) rfl rfl dX6_race_139 ?_
              refine lv_aload_n hx hb dX6_race_142 rfl (lv_at hl 0 rfl) ?_
              refine mr_get (v := .ref (q 10)) E hM 10 (by decide) (index := 29) (mm_at 14 rfl) rfl rfl dX6_race_143 ?_
              refine lv_iload_n hx hb dX6_race_146 rfl (lv_at hl 1 rfl) ?_
              refine mr_ald (X := p0.toInt) E hM 7 6 rfl rfl rfl (by omega) dX6_race_147 ?_
              refine mr_ast (X := (F 17).toInt) E hM 23 16 15 rfl rfl rfl (by omega) mg_23 (by decide) (mm_nbA rfl) (by decide) dX6_race_148 (fun H locs G_30 eG_30 hM => ?_)
              refine lv_aload_n hx hb dX6_race_149 rfl (lv_at hl 0 rfl) ?_
              refine mr_get (v := .ref (q 24)) E hM 24 (by decide) (index := 63) (mm_at 15 rfl) rfl rfl dX6_race_150 ?_
              refine lv_aload_n hx hb dX6_race_153 rfl (lv_at hl 0 rfl) ?_
              refine mr_get (v := .int (F 17)) E hM 17 (by decide) (index := 200) (mm_at 3 rfl) rfl rfl dX6_race_154 ?_
              refine lv_aload_n hx hb dX6_race_157 rfl (lv_at hl 0 rfl) ?_
              refine mr_get (v := .ref (q 11)) E hM 11 (by decide) (index := 32) (mm_at 4 rfl) rfl rfl dX6_race_158 ?_
              refine lv_iload_n hx hb dX6_race_161 rfl (lv_at hl 1 rfl) ?_
              refine mr_ald (X := p0.toInt) E hM 8 7 rfl rfl rfl (by omega) dX6_race_162 ?_
              refine mr_ast (X := (F 17).toInt) E hM 24 17 16 rfl rfl rfl (by omega) mg_24 (by decide) (mm_nbA rfl) (by decide) dX6_race_163 (fun H locs G_31 eG_31 hM => ?_)
              refine lv_aload_n hx hb dX6_race_164 rfl (lv_at hl 0 rfl) ?_
              refine mr_get (v := .ref (q 25)) E hM 25 (by decide) (index := 66) (mm_at 16 rfl) rfl rfl dX6_race_165 ?_
              refine lv_aload_n hx hb dX6_race_168 rfl (lv_at hl 0 rfl) ?_
              refine mr_get (v := .int (F 17)) E hM 17 (by decide) (index := 200) (mm_at 3 rfl) rfl rfl dX6_race_169 ?_
              refine lv_aload_n hx hb dX6_race_172 rfl (lv_at hl 0 rfl) ?_
              refine mr_get (v := .ref (q 12)) E hM 12 (by decide) (index := 35) (mm_at 17 rfl) rfl rfl dX6_race_173 ?_
              refine lv_iload_n hx hb dX6_race_176 rfl (lv_at hl 1 rfl) ?_
              refine mr_ald (X := p0.toInt) E hM 9 8 rfl rfl rfl (by omega) dX6_race_177 ?_
              refine mr_ast (X := (F 17).toInt) E hM 25 18 17 rfl rfl rfl (by omega) mg_25 (by decide) (mm_nbA rfl) (by decide) dX6_race_178 (fun H locs G_32 eG_32 hM => ?_)
              refine lv_aload_n hx hb dX6_race_179 rfl (lv_at hl 0 rfl) ?_
              refine mr_get (v := .ref (q 26)) E hM 26 (by decide) (index := 69) (mm_at 18 rfl) rfl rfl dX6_race_180 ?_
              refine lv_aload_n hx hb dX6_race_183 rfl (lv_at hl 0 rfl) ?_
              refine mr_get (v := .int (F 17)) E hM 17 (by decide) (index := 200) (mm_at 3 rfl) rfl rfl dX6_race_184 ?_
              refine lv_iload_n hx hb dX6_race_187 rfl (lv_at hl 2 rfl) ?_
              refine mr_ast (X := (F 17).toInt) E hM 26 19 18 rfl rfl rfl (by omega) mg_26 (by decide) (mm_bdA (X := p1.toInt) (a := -1) (b := 7) rfl rfl (by omega)) (by decide) dX6_race_188 (fun H locs G_33 eG_33 hM => ?_)
              refine lv_aload_n hx hb dX6_race_189 rfl (lv_at hl 0 rfl) ?_
              refine lv_dup hx hb dX6_race_190 rfl ?_
              refine mr_get (v := .int (F 17)) E hM 17 (by decide) (index := 200) (mm_at 3 rfl) rfl rfl dX6_race_191 ?_
              refine lv_iconst (v := 1) hx hb dX6_race_194 (by decide) ?_
              refine mm_iadd (X := (F 17).toInt) (Y := 1) hx hb dX6_race_195 rfl num_1 (by omega) (fun z_34 hz_34 => ?_)
              refine mr_put (v := z_34) E hM 17 (by decide) (index := 200) (mm_at 3 rfl) rfl rfl (by decide +kernel) ms_17 (mm_bd (X := z_34.toInt) (a := 0) (b := 8) rfl rfl (by omega)) (by decide) dX6_race_196 (fun H locs hM => ?_)
              refine lv_aload_n hx hb dX6_race_199 rfl (lv_at hl 0 rfl) ?_
              refine mr_get (v := .int z_34) E hM 17 (by decide) (index := 200) (mm_at 3 rfl) rfl rfl dX6_race_200 ?_
              refine lv_iconst (v := 1) hx hb dX6_race_203 (by decide) ?_
              refine mm_isub (X := z_34.toInt) (Y := 1) hx hb dX6_race_204 rfl num_1 (by omega) (fun z_35 hz_35 => ?_)
              exact mr_ri E hr hlk hsz hM (show mR3 (upd (upd F 2 0) 17 z_34) G_33 from by exact mR3.race hR3 (by omega) ((show G_33 24 = G_32 24 from by rw [eG_33]; rfl).trans ((show G_32 24 = G_31 24 from by rw [eG_32]; rfl).trans ((show G_31 24 = upd (G_30 24) (Int32.toNatClampNeg (F 17)) ((G_30 11 (Int32.toNatClampNeg p0))) from by rw [eG_31]; rfl).trans (congrArg (fun z => upd z (Int32.toNatClampNeg (F 17)) ((G_30 11 (Int32.toNatClampNeg p0)))) ((show G_30 24 = G_29 24 from by rw [eG_30]; rfl).trans ((show G_29 24 = G_28 24 from by rw [eG_29]; rfl).trans ((show G_28 24 = G_27 24 from by rw [eG_28]; rfl).trans ((show G_27 24 = G_25 24 from by rw [eG_27]; rfl).trans ((show G_25 24 = G_24 24 from by rw [eG_25]; rfl).trans ((show G_24 24 = G 24 from by rw [eG_24]; rfl).trans rfl)))))))))) ((show G_33 26 = upd (G_32 26) (Int32.toNatClampNeg (F 17)) (p1) from by rw [eG_33]; rfl).trans (congrArg (fun z => upd z (Int32.toNatClampNeg (F 17)) (p1)) ((show G_32 26 = G_31 26 from by rw [eG_32]; rfl).trans ((show G_31 26 = G_30 26 from by rw [eG_31]; rfl).trans ((show G_30 26 = G_29 26 from by rw [eG_30]; rfl).trans ((show G_29 26 = G_28 26 from by rw [eG_29]; rfl).trans ((show G_28 26 = G_27 26 from by rw [eG_28]; rfl).trans ((show G_27 26 = G_25 26 from by rw [eG_27]; rfl).trans ((show G_25 26 = G_24 26 from by rw [eG_25]; rfl).trans ((show G_24 26 = G 26 from by rw [eG_24]; rfl).trans rfl)))))))))) (show (z_34).toInt = (F 17).toInt + 1 from by omega) (by have h11 : ((G_30 11 (Int32.toNatClampNeg p0))).toInt = (G 11 (Int32.toNatClampNeg p0)).toInt := congrArg Int32.toInt (congrFun ((show G_30 11 = G_29 11 from by rw [eG_30]; rfl).trans ((show G_29 11 = G_28 11 from by rw [eG_29]; rfl).trans ((show G_28 11 = G_27 11 from by rw [eG_28]; rfl).trans ((show G_27 11 = G_25 11 from by rw [eG_27]; rfl).trans ((show G_25 11 = G_24 11 from by rw [eG_25]; rfl).trans ((show G_24 11 = G 11 from by rw [eG_24]; rfl).trans rfl)))))) _); have h2 := hR2 (Int32.toNatClampNeg p0) (mm_cl ⟨by omega, by omega⟩) (by omega); unfold mHow at h2; omega)) dX6_race_205
            · refine lv_goto (tgt := 62) hx hb dX6_race_54 (by decide) ?_
              refine lv_iconst (v := (-1)) hx hb dX6_race_62 (by decide) ?_
              exact mr_ri E hr hlk hsz hM (show mR3 (upd F 2 0) G from by have n9 := num_m1; exact hR3) dX6_race_63
        · refine lv_iconst (v := (-1)) hx hb dX6_race_33 (by decide) ?_
          exact mr_ri E hr hlk hsz hM (show mR3 (upd F 2 0) G from by have n9 := num_m1; exact hR3) dX6_race_34
def w3X6_word : List Cond := .code yX6_word cX6_word 2 (some .boolean) :: ([.fieldLink RX6 144 "SkiShotsModel" "kind" "I", .fieldLink RX6 141 "SkiShotsModel" "place" "I", .methodLink RX6 162 yX6_wrong, .instanceMethod yX6_wrong, .selects RX6 yX6_wrong yX6_wrong, .initialized RX6, .code yX6_wrong cX6_wrong 3 (some .boolean), .fieldLink RX6 132 "SkiShotsModel" "fault" "I", .fieldLink RX6 38 "SkiShotsModel" "faultPlace" "I", .fieldLink RX6 155 "SkiShotsModel" "which" "I", .methodLink RX6 166 yX6_take, .instanceMethod yX6_take, .selects RX6 yX6_take yX6_take, .code yX6_take cX6_take 1 none, .fieldLink RX6 138 "SkiShotsModel" "next" "I", .methodLink RX6 158 yX6_isDigit, .instanceMethod yX6_isDigit, .selects RX6 yX6_isDigit yX6_isDigit, .code yX6_isDigit cX6_isDigit 2 (some .boolean), .fieldLink RX6 135 "SkiShotsModel" "size" "I", .fieldLink RX6 7 "SkiShotsModel" "tape" "[I", .constant RX6 161 (99999), .methodLink RX6 147 yX6_isSmall, .instanceMethod yX6_isSmall, .selects RX6 yX6_isSmall yX6_isSmall, .code yX6_isSmall cX6_isSmall 2 (some .boolean), .methodLink RX6 151 yX6_wordAt, .instanceMethod yX6_wordAt, .selects RX6 yX6_wordAt yX6_wordAt, .code yX6_wordAt cX6_wordAt 8 (some .int), .fieldLink RX6 102 "SkiShotsModel" "words" "[I"] ++ wsX60)
set_option maxRecDepth 20000 in
theorem gc_X6_word_X6_wrong_4 : GoodIn w3X6_word (wsV RX6 162 RX6 yX6_wrong w3X6_wrong) := goodIn_p _ [7] rfl (by decide +kernel)
set_option maxRecDepth 20000 in
theorem gc_X6_word_X6_take_16 : GoodIn w3X6_word (wsV RX6 166 RX6 yX6_take w3X6_take) := goodIn_p _ [14, 19, 26, 30] rfl (by decide +kernel)
set_option maxRecDepth 20000 in
theorem gc_X6_word_X6_wrong_27 : GoodIn w3X6_word (wsV RX6 162 RX6 yX6_wrong w3X6_wrong) := goodIn_p _ [7] rfl (by decide +kernel)
set_option maxHeartbeats 4000000 in
set_option maxRecDepth 100000 in
theorem g3_X6_word (l : Launch) (D : va_G) (h0 : Nat) (q : Nat → Nat) (cq : Nat → ClassId) (F : Nat → Int32) (G : Nat → Nat → Int32) (sz : Nat) (p0 : Int32) (hI : mI F G) (hns : (F 40).toInt ≤ (F 39).toInt) (hk2 : ¬ (F 41).toInt = 2 ∨ (65 ≤ (F 42).toInt ∧ (F 42).toInt ≤ 72)) : Met l yX6_word w3X6_word ({ frames := 2, cells := 0, slots := 0, locals := 47 }) (mPre D h0 q cq F G sz [.ref h0, .int p0]) (mQi D h0 q cq F G sz [13, 14, 40, 41, 42, 43] [] (fun r F' G' => (F' 40).toInt ≤ (F 39).toInt ∧ (F 40).toInt ≤ (F' 40).toInt ∧ (¬ (F' 41).toInt = 2 ∨ (65 ≤ (F' 42).toInt ∧ (F' 42).toInt ≤ 72)) ∧ (r.toInt = 0 ∨ (r.toInt = 1 ∧ ((F' 41).toInt = 0 ∨ (F 40).toInt < (F' 40).toInt))))) 0 0 (va_A (mW h0 q cq F G) sz) := by
  refine mr_met (WF := [13, 14, 40, 41, 42, 43]) (WG := []) (cc := cX6_word) (maxL := 2) (ret := (some .boolean)) (by decide) rfl rfl (by decide +kernel) (Nat.le_of_ble_eq_true rfl) hI ?_
  intro p e s m args below meth c ls E hml hr hlk hsz hA hM hl
  have hx := E.1
  have hb := E.2.1
  have hts := E.2.2.1
  have hown := E.2.2.2.2.1
  have hl : lv_has ls 2 [(0, .ref h0), (1, .int p0)] := hl
  refine lv_aload_n hx hb dX6_word_0 rfl (lv_at hl 0 rfl) ?_
  have b_1 : 0 ≤ (F 41).toInt ∧ (F 41).toInt ≤ 5 := hM.fb 41 rfl
  refine mr_get (v := .int (F 41)) E hM 41 (by decide) (index := 144) (mm_at 1 rfl) rfl rfl dX6_word_1 ?_
  refine lv_iconst (v := 1) hx hb dX6_word_4 (by decide) ?_
  refine mm_icmp_ne (X := (F 41).toInt) (Y := 1) (tgt := 16) hx hb dX6_word_5 (by decide) rfl num_1 (fun c_2 => ?_) (fun c_2 => ?_)
  · refine lv_aload_n hx hb dX6_word_16 rfl (lv_at hl 0 rfl) ?_
    refine lv_iconst (v := 1) hx hb dX6_word_17 (by decide) ?_
    refine lv_aload_n hx hb dX6_word_18 rfl (lv_at hl 0 rfl) ?_
    have b_3 : 0 ≤ (F 43).toInt ∧ (F 43).toInt ≤ 1000 := hM.fb 43 rfl
    refine mr_get (v := .int (F 43)) E hM 43 (by decide) (index := 141) (mm_at 2 rfl) rfl rfl dX6_word_19 ?_
    refine mr_calli (av := [.int 1, .int (F 43)]) (rest := []) E hA hml hM (g3_X6_wrong l D h0 q cq F G _ 1 (F 43) hM.2.2.2.1 ) (cwV 2 hts gc_X6_word_X6_wrong_4 rfl rfl rfl (by decide +kernel) ⟨Nat.le_of_ble_eq_true rfl, Nat.le_of_ble_eq_true rfl⟩) rfl hl.1 rfl (Nat.le_of_ble_eq_true rfl) dX6_word_22 ⟨Nat.le_of_ble_eq_true rfl, Nat.le_of_ble_eq_true rfl⟩ (by decide) (by decide) (fun r_5 F_7 G_8 H locs fr_9 p_6 hM => ?_)
    replace p_6 : r_5.toInt = 0 := p_6
    have b_10 : 0 ≤ (F_7 40).toInt ∧ (F_7 40).toInt ≤ 1000 := hM.fb 40 rfl
    have e_11 : (F_7 40).toInt = (F 40).toInt := (congrArg Int32.toInt (fr_9.1 40 (by decide))).trans rfl
    have b_12 : 0 ≤ (F_7 41).toInt ∧ (F_7 41).toInt ≤ 5 := hM.fb 41 rfl
    have e_13 : (F_7 41).toInt = (F 41).toInt := (congrArg Int32.toInt (fr_9.1 41 (by decide))).trans rfl
    have e_14 : (F_7 42).toInt = (F 42).toInt := (congrArg Int32.toInt (fr_9.1 42 (by decide))).trans rfl
    exact mr_rz (X := r_5.toInt) E hr hlk hsz hM rfl (by omega) (show (F_7 40).toInt ≤ (F 39).toInt ∧ (F 40).toInt ≤ (F_7 40).toInt ∧ (¬ (F_7 41).toInt = 2 ∨ (65 ≤ (F_7 42).toInt ∧ (F_7 42).toInt ≤ 72)) ∧ (r_5.toInt = 0 ∨ (r_5.toInt = 1 ∧ ((F_7 41).toInt = 0 ∨ (F 40).toInt < (F_7 40).toInt))) from by omega) dX6_word_25
  · refine lv_aload_n hx hb dX6_word_8 rfl (lv_at hl 0 rfl) ?_
    refine mr_get (v := .int (F 42)) E hM 42 (by decide) (index := 155) (mm_at 10 rfl) rfl rfl dX6_word_9 ?_
    refine lv_iload_n hx hb dX6_word_12 rfl (lv_at hl 1 rfl) ?_
    refine mm_icmp_eq (X := (F 42).toInt) (Y := p0.toInt) (tgt := 26) hx hb dX6_word_13 (by decide) rfl rfl (fun c_15 => ?_) (fun c_15 => ?_)
    · refine lv_aload_n hx hb dX6_word_26 rfl (lv_at hl 0 rfl) ?_
      have b_17 : 0 ≤ (F 39).toInt ∧ (F 39).toInt ≤ 1000 := hM.fb 39 rfl
      have b_18 : 0 ≤ (F 40).toInt ∧ (F 40).toInt ≤ 1000 := hM.fb 40 rfl
      refine mr_callv (av := []) (rest := []) E hA hml hM (g3_X6_take l D h0 q cq F G _  hM.2.2.2.1 (show (F 40).toInt ≤ (F 39).toInt from by omega)) (cwV 0 hts gc_X6_word_X6_take_16 rfl rfl rfl (by decide +kernel) ⟨Nat.le_of_ble_eq_true rfl, Nat.le_of_ble_eq_true rfl⟩) rfl hl.1 rfl (Nat.le_of_ble_eq_true rfl) dX6_word_27 ⟨Nat.le_of_ble_eq_true rfl, Nat.le_of_ble_eq_true rfl⟩ (by decide) (by decide) (fun F_21 G_22 H locs fr_23 p_20 hM => ?_)
      replace p_20 : (F_21 40).toInt ≤ (F 39).toInt ∧ (F 40).toInt ≤ (F_21 40).toInt ∧ ((F_21 41).toInt = 0 ∨ (F 40).toInt < (F_21 40).toInt) ∧ (¬ (F_21 41).toInt = 2 ∨ (65 ≤ (F_21 42).toInt ∧ (F_21 42).toInt ≤ 72)) := p_20
      refine lv_iconst (v := 1) hx hb dX6_word_30 (by decide) ?_
      have b_24 : 0 ≤ (F_21 40).toInt ∧ (F_21 40).toInt ≤ 1000 := hM.fb 40 rfl
      have b_25 : 0 ≤ (F_21 41).toInt ∧ (F_21 41).toInt ≤ 5 := hM.fb 41 rfl
      exact mr_rz (X := 1) E hr hlk hsz hM num_1 (by omega) (show (F_21 40).toInt ≤ (F 39).toInt ∧ (F 40).toInt ≤ (F_21 40).toInt ∧ (¬ (F_21 41).toInt = 2 ∨ (65 ≤ (F_21 42).toInt ∧ (F_21 42).toInt ≤ 72)) ∧ ((1 : Int32).toInt = 0 ∨ ((1 : Int32).toInt = 1 ∧ ((F_21 41).toInt = 0 ∨ (F 40).toInt < (F_21 40).toInt))) from by have n9 := num_1; omega) dX6_word_31
    · refine lv_aload_n hx hb dX6_word_16 rfl (lv_at hl 0 rfl) ?_
      refine lv_iconst (v := 1) hx hb dX6_word_17 (by decide) ?_
      refine lv_aload_n hx hb dX6_word_18 rfl (lv_at hl 0 rfl) ?_
      have b_26 : 0 ≤ (F 43).toInt ∧ (F 43).toInt ≤ 1000 := hM.fb 43 rfl
      refine mr_get (v := .int (F 43)) E hM 43 (by decide) (index := 141) (mm_at 2 rfl) rfl rfl dX6_word_19 ?_
      refine mr_calli (av := [.int 1, .int (F 43)]) (rest := []) E hA hml hM (g3_X6_wrong l D h0 q cq F G _ 1 (F 43) hM.2.2.2.1 ) (cwV 2 hts gc_X6_word_X6_wrong_27 rfl rfl rfl (by decide +kernel) ⟨Nat.le_of_ble_eq_true rfl, Nat.le_of_ble_eq_true rfl⟩) rfl hl.1 rfl (Nat.le_of_ble_eq_true rfl) dX6_word_22 ⟨Nat.le_of_ble_eq_true rfl, Nat.le_of_ble_eq_true rfl⟩ (by decide) (by decide) (fun r_28 F_30 G_31 H locs fr_32 p_29 hM => ?_)
      replace p_29 : r_28.toInt = 0 := p_29
      have b_33 : 0 ≤ (F_30 40).toInt ∧ (F_30 40).toInt ≤ 1000 := hM.fb 40 rfl
      have e_34 : (F_30 40).toInt = (F 40).toInt := (congrArg Int32.toInt (fr_32.1 40 (by decide))).trans rfl
      have b_35 : 0 ≤ (F_30 41).toInt ∧ (F_30 41).toInt ≤ 5 := hM.fb 41 rfl
      have e_36 : (F_30 41).toInt = (F 41).toInt := (congrArg Int32.toInt (fr_32.1 41 (by decide))).trans rfl
      have e_37 : (F_30 42).toInt = (F 42).toInt := (congrArg Int32.toInt (fr_32.1 42 (by decide))).trans rfl
      exact mr_rz (X := r_28.toInt) E hr hlk hsz hM rfl (by omega) (show (F_30 40).toInt ≤ (F 39).toInt ∧ (F 40).toInt ≤ (F_30 40).toInt ∧ (¬ (F_30 41).toInt = 2 ∨ (65 ≤ (F_30 42).toInt ∧ (F_30 42).toInt ≤ 72)) ∧ (r_28.toInt = 0 ∨ (r_28.toInt = 1 ∧ ((F_30 41).toInt = 0 ∨ (F 40).toInt < (F_30 40).toInt))) from by omega) dX6_word_25
def w3X6_sign : List Cond := .code yX6_sign cX6_sign 2 (some .boolean) :: ([.fieldLink RX6 144 "SkiShotsModel" "kind" "I", .fieldLink RX6 141 "SkiShotsModel" "place" "I", .methodLink RX6 162 yX6_wrong, .instanceMethod yX6_wrong, .selects RX6 yX6_wrong yX6_wrong, .initialized RX6, .code yX6_wrong cX6_wrong 3 (some .boolean), .fieldLink RX6 132 "SkiShotsModel" "fault" "I", .fieldLink RX6 38 "SkiShotsModel" "faultPlace" "I", .fieldLink RX6 155 "SkiShotsModel" "which" "I", .methodLink RX6 166 yX6_take, .instanceMethod yX6_take, .selects RX6 yX6_take yX6_take, .code yX6_take cX6_take 1 none, .fieldLink RX6 138 "SkiShotsModel" "next" "I", .methodLink RX6 158 yX6_isDigit, .instanceMethod yX6_isDigit, .selects RX6 yX6_isDigit yX6_isDigit, .code yX6_isDigit cX6_isDigit 2 (some .boolean), .fieldLink RX6 135 "SkiShotsModel" "size" "I", .fieldLink RX6 7 "SkiShotsModel" "tape" "[I", .constant RX6 161 (99999), .methodLink RX6 147 yX6_isSmall, .instanceMethod yX6_isSmall, .selects RX6 yX6_isSmall yX6_isSmall, .code yX6_isSmall cX6_isSmall 2 (some .boolean), .methodLink RX6 151 yX6_wordAt, .instanceMethod yX6_wordAt, .selects RX6 yX6_wordAt yX6_wordAt, .code yX6_wordAt cX6_wordAt 8 (some .int), .fieldLink RX6 102 "SkiShotsModel" "words" "[I"] ++ wsX60)
set_option maxRecDepth 20000 in
theorem gc_X6_sign_X6_wrong_4 : GoodIn w3X6_sign (wsV RX6 162 RX6 yX6_wrong w3X6_wrong) := goodIn_p _ [7] rfl (by decide +kernel)
set_option maxRecDepth 20000 in
theorem gc_X6_sign_X6_take_16 : GoodIn w3X6_sign (wsV RX6 166 RX6 yX6_take w3X6_take) := goodIn_p _ [14, 19, 26, 30] rfl (by decide +kernel)
set_option maxRecDepth 20000 in
theorem gc_X6_sign_X6_wrong_27 : GoodIn w3X6_sign (wsV RX6 162 RX6 yX6_wrong w3X6_wrong) := goodIn_p _ [7] rfl (by decide +kernel)
set_option maxHeartbeats 4000000 in
set_option maxRecDepth 100000 in
theorem g3_X6_sign (l : Launch) (D : va_G) (h0 : Nat) (q : Nat → Nat) (cq : Nat → ClassId) (F : Nat → Int32) (G : Nat → Nat → Int32) (sz : Nat) (p0 : Int32) (hI : mI F G) (hns : (F 40).toInt ≤ (F 39).toInt) (hk2 : ¬ (F 41).toInt = 2 ∨ (65 ≤ (F 42).toInt ∧ (F 42).toInt ≤ 72)) : Met l yX6_sign w3X6_sign ({ frames := 2, cells := 0, slots := 0, locals := 47 }) (mPre D h0 q cq F G sz [.ref h0, .int p0]) (mQi D h0 q cq F G sz [13, 14, 40, 41, 42, 43] [] (fun r F' G' => (F' 40).toInt ≤ (F 39).toInt ∧ (F 40).toInt ≤ (F' 40).toInt ∧ (¬ (F' 41).toInt = 2 ∨ (65 ≤ (F' 42).toInt ∧ (F' 42).toInt ≤ 72)))) 0 0 (va_A (mW h0 q cq F G) sz) := by
  refine mr_met (WF := [13, 14, 40, 41, 42, 43]) (WG := []) (cc := cX6_sign) (maxL := 2) (ret := (some .boolean)) (by decide) rfl rfl (by decide +kernel) (Nat.le_of_ble_eq_true rfl) hI ?_
  intro p e s m args below meth c ls E hml hr hlk hsz hA hM hl
  have hx := E.1
  have hb := E.2.1
  have hts := E.2.2.1
  have hown := E.2.2.2.2.1
  have hl : lv_has ls 2 [(0, .ref h0), (1, .int p0)] := hl
  refine lv_aload_n hx hb dX6_sign_0 rfl (lv_at hl 0 rfl) ?_
  have b_1 : 0 ≤ (F 41).toInt ∧ (F 41).toInt ≤ 5 := hM.fb 41 rfl
  refine mr_get (v := .int (F 41)) E hM 41 (by decide) (index := 144) (mm_at 1 rfl) rfl rfl dX6_sign_1 ?_
  refine lv_iconst (v := 4) hx hb dX6_sign_4 (by decide) ?_
  refine mm_icmp_ne (X := (F 41).toInt) (Y := 4) (tgt := 16) hx hb dX6_sign_5 (by decide) rfl num_4 (fun c_2 => ?_) (fun c_2 => ?_)
  · refine lv_aload_n hx hb dX6_sign_16 rfl (lv_at hl 0 rfl) ?_
    refine lv_iconst (v := 1) hx hb dX6_sign_17 (by decide) ?_
    refine lv_aload_n hx hb dX6_sign_18 rfl (lv_at hl 0 rfl) ?_
    have b_3 : 0 ≤ (F 43).toInt ∧ (F 43).toInt ≤ 1000 := hM.fb 43 rfl
    refine mr_get (v := .int (F 43)) E hM 43 (by decide) (index := 141) (mm_at 2 rfl) rfl rfl dX6_sign_19 ?_
    refine mr_calli (av := [.int 1, .int (F 43)]) (rest := []) E hA hml hM (g3_X6_wrong l D h0 q cq F G _ 1 (F 43) hM.2.2.2.1 ) (cwV 2 hts gc_X6_sign_X6_wrong_4 rfl rfl rfl (by decide +kernel) ⟨Nat.le_of_ble_eq_true rfl, Nat.le_of_ble_eq_true rfl⟩) rfl hl.1 rfl (Nat.le_of_ble_eq_true rfl) dX6_sign_22 ⟨Nat.le_of_ble_eq_true rfl, Nat.le_of_ble_eq_true rfl⟩ (by decide) (by decide) (fun r_5 F_7 G_8 H locs fr_9 p_6 hM => ?_)
    replace p_6 : r_5.toInt = 0 := p_6
    have b_10 : 0 ≤ (F_7 40).toInt ∧ (F_7 40).toInt ≤ 1000 := hM.fb 40 rfl
    have e_11 : (F_7 40).toInt = (F 40).toInt := (congrArg Int32.toInt (fr_9.1 40 (by decide))).trans rfl
    have b_12 : 0 ≤ (F_7 41).toInt ∧ (F_7 41).toInt ≤ 5 := hM.fb 41 rfl
    have e_13 : (F_7 41).toInt = (F 41).toInt := (congrArg Int32.toInt (fr_9.1 41 (by decide))).trans rfl
    have e_14 : (F_7 42).toInt = (F 42).toInt := (congrArg Int32.toInt (fr_9.1 42 (by decide))).trans rfl
    exact mr_rz (X := r_5.toInt) E hr hlk hsz hM rfl (by omega) (show (F_7 40).toInt ≤ (F 39).toInt ∧ (F 40).toInt ≤ (F_7 40).toInt ∧ (¬ (F_7 41).toInt = 2 ∨ (65 ≤ (F_7 42).toInt ∧ (F_7 42).toInt ≤ 72)) from by omega) dX6_sign_25
  · refine lv_aload_n hx hb dX6_sign_8 rfl (lv_at hl 0 rfl) ?_
    refine mr_get (v := .int (F 42)) E hM 42 (by decide) (index := 155) (mm_at 10 rfl) rfl rfl dX6_sign_9 ?_
    refine lv_iload_n hx hb dX6_sign_12 rfl (lv_at hl 1 rfl) ?_
    refine mm_icmp_eq (X := (F 42).toInt) (Y := p0.toInt) (tgt := 26) hx hb dX6_sign_13 (by decide) rfl rfl (fun c_15 => ?_) (fun c_15 => ?_)
    · refine lv_aload_n hx hb dX6_sign_26 rfl (lv_at hl 0 rfl) ?_
      have b_17 : 0 ≤ (F 39).toInt ∧ (F 39).toInt ≤ 1000 := hM.fb 39 rfl
      have b_18 : 0 ≤ (F 40).toInt ∧ (F 40).toInt ≤ 1000 := hM.fb 40 rfl
      refine mr_callv (av := []) (rest := []) E hA hml hM (g3_X6_take l D h0 q cq F G _  hM.2.2.2.1 (show (F 40).toInt ≤ (F 39).toInt from by omega)) (cwV 0 hts gc_X6_sign_X6_take_16 rfl rfl rfl (by decide +kernel) ⟨Nat.le_of_ble_eq_true rfl, Nat.le_of_ble_eq_true rfl⟩) rfl hl.1 rfl (Nat.le_of_ble_eq_true rfl) dX6_sign_27 ⟨Nat.le_of_ble_eq_true rfl, Nat.le_of_ble_eq_true rfl⟩ (by decide) (by decide) (fun F_21 G_22 H locs fr_23 p_20 hM => ?_)
      replace p_20 : (F_21 40).toInt ≤ (F 39).toInt ∧ (F 40).toInt ≤ (F_21 40).toInt ∧ ((F_21 41).toInt = 0 ∨ (F 40).toInt < (F_21 40).toInt) ∧ (¬ (F_21 41).toInt = 2 ∨ (65 ≤ (F_21 42).toInt ∧ (F_21 42).toInt ≤ 72)) := p_20
      refine lv_iconst (v := 1) hx hb dX6_sign_30 (by decide) ?_
      have b_24 : 0 ≤ (F_21 40).toInt ∧ (F_21 40).toInt ≤ 1000 := hM.fb 40 rfl
      have b_25 : 0 ≤ (F_21 41).toInt ∧ (F_21 41).toInt ≤ 5 := hM.fb 41 rfl
      exact mr_rz (X := 1) E hr hlk hsz hM num_1 (by omega) (show (F_21 40).toInt ≤ (F 39).toInt ∧ (F 40).toInt ≤ (F_21 40).toInt ∧ (¬ (F_21 41).toInt = 2 ∨ (65 ≤ (F_21 42).toInt ∧ (F_21 42).toInt ≤ 72)) from by have n9 := num_1; omega) dX6_sign_31
    · refine lv_aload_n hx hb dX6_sign_16 rfl (lv_at hl 0 rfl) ?_
      refine lv_iconst (v := 1) hx hb dX6_sign_17 (by decide) ?_
      refine lv_aload_n hx hb dX6_sign_18 rfl (lv_at hl 0 rfl) ?_
      have b_26 : 0 ≤ (F 43).toInt ∧ (F 43).toInt ≤ 1000 := hM.fb 43 rfl
      refine mr_get (v := .int (F 43)) E hM 43 (by decide) (index := 141) (mm_at 2 rfl) rfl rfl dX6_sign_19 ?_
      refine mr_calli (av := [.int 1, .int (F 43)]) (rest := []) E hA hml hM (g3_X6_wrong l D h0 q cq F G _ 1 (F 43) hM.2.2.2.1 ) (cwV 2 hts gc_X6_sign_X6_wrong_27 rfl rfl rfl (by decide +kernel) ⟨Nat.le_of_ble_eq_true rfl, Nat.le_of_ble_eq_true rfl⟩) rfl hl.1 rfl (Nat.le_of_ble_eq_true rfl) dX6_sign_22 ⟨Nat.le_of_ble_eq_true rfl, Nat.le_of_ble_eq_true rfl⟩ (by decide) (by decide) (fun r_28 F_30 G_31 H locs fr_32 p_29 hM => ?_)
      replace p_29 : r_28.toInt = 0 := p_29
      have b_33 : 0 ≤ (F_30 40).toInt ∧ (F_30 40).toInt ≤ 1000 := hM.fb 40 rfl
      have e_34 : (F_30 40).toInt = (F 40).toInt := (congrArg Int32.toInt (fr_32.1 40 (by decide))).trans rfl
      have b_35 : 0 ≤ (F_30 41).toInt ∧ (F_30 41).toInt ≤ 5 := hM.fb 41 rfl
      have e_36 : (F_30 41).toInt = (F 41).toInt := (congrArg Int32.toInt (fr_32.1 41 (by decide))).trans rfl
      have e_37 : (F_30 42).toInt = (F 42).toInt := (congrArg Int32.toInt (fr_32.1 42 (by decide))).trans rfl
      exact mr_rz (X := r_28.toInt) E hr hlk hsz hM rfl (by omega) (show (F_30 40).toInt ≤ (F 39).toInt ∧ (F 40).toInt ≤ (F_30 40).toInt ∧ (¬ (F_30 41).toInt = 2 ∨ (65 ≤ (F_30 42).toInt ∧ (F_30 42).toInt ≤ 72)) from by omega) dX6_sign_25
def w3X6_number : List Cond := .code yX6_number cX6_number 3 (some .boolean) :: ([.fieldLink RX6 144 "SkiShotsModel" "kind" "I", .fieldLink RX6 155 "SkiShotsModel" "which" "I", .fieldLink RX6 141 "SkiShotsModel" "place" "I", .methodLink RX6 162 yX6_wrong, .instanceMethod yX6_wrong, .selects RX6 yX6_wrong yX6_wrong, .initialized RX6, .code yX6_wrong cX6_wrong 3 (some .boolean), .fieldLink RX6 132 "SkiShotsModel" "fault" "I", .fieldLink RX6 38 "SkiShotsModel" "faultPlace" "I", .fieldLink RX6 169 "SkiShotsModel" "read" "I", .methodLink RX6 166 yX6_take, .instanceMethod yX6_take, .selects RX6 yX6_take yX6_take, .code yX6_take cX6_take 1 none, .fieldLink RX6 138 "SkiShotsModel" "next" "I", .methodLink RX6 158 yX6_isDigit, .instanceMethod yX6_isDigit, .selects RX6 yX6_isDigit yX6_isDigit, .code yX6_isDigit cX6_isDigit 2 (some .boolean), .fieldLink RX6 135 "SkiShotsModel" "size" "I", .fieldLink RX6 7 "SkiShotsModel" "tape" "[I", .constant RX6 161 (99999), .methodLink RX6 147 yX6_isSmall, .instanceMethod yX6_isSmall, .selects RX6 yX6_isSmall yX6_isSmall, .code yX6_isSmall cX6_isSmall 2 (some .boolean), .methodLink RX6 151 yX6_wordAt, .instanceMethod yX6_wordAt, .selects RX6 yX6_wordAt yX6_wordAt, .code yX6_wordAt cX6_wordAt 8 (some .int), .fieldLink RX6 102 "SkiShotsModel" "words" "[I"] ++ wsX60)
set_option maxRecDepth 20000 in
theorem gc_X6_number_X6_wrong_5 : GoodIn w3X6_number (wsV RX6 162 RX6 yX6_wrong w3X6_wrong) := goodIn_p _ [8] rfl (by decide +kernel)
set_option maxRecDepth 20000 in
theorem gc_X6_number_X6_take_17 : GoodIn w3X6_number (wsV RX6 166 RX6 yX6_take w3X6_take) := goodIn_p _ [15, 20, 27, 31] rfl (by decide +kernel)
set_option maxRecDepth 20000 in
theorem gc_X6_number_X6_wrong_28 : GoodIn w3X6_number (wsV RX6 162 RX6 yX6_wrong w3X6_wrong) := goodIn_p _ [8] rfl (by decide +kernel)
set_option maxRecDepth 20000 in
theorem gc_X6_number_X6_wrong_40 : GoodIn w3X6_number (wsV RX6 162 RX6 yX6_wrong w3X6_wrong) := goodIn_p _ [8] rfl (by decide +kernel)
set_option maxHeartbeats 4000000 in
set_option maxRecDepth 100000 in
theorem g3_X6_number (l : Launch) (D : va_G) (h0 : Nat) (q : Nat → Nat) (cq : Nat → ClassId) (F : Nat → Int32) (G : Nat → Nat → Int32) (sz : Nat) (p0 : Int32) (p1 : Int32) (hI : mI F G) (hns : (F 40).toInt ≤ (F 39).toInt) (hk2 : ¬ (F 41).toInt = 2 ∨ (65 ≤ (F 42).toInt ∧ (F 42).toInt ≤ 72)) : Met l yX6_number w3X6_number ({ frames := 2, cells := 0, slots := 0, locals := 47 }) (mPre D h0 q cq F G sz [.ref h0, .int p0, .int p1]) (mQi D h0 q cq F G sz [13, 14, 40, 41, 42, 43, 44] [] (fun r F' G' => (F' 40).toInt ≤ (F 39).toInt ∧ (F 40).toInt ≤ (F' 40).toInt ∧ (¬ (F' 41).toInt = 2 ∨ (65 ≤ (F' 42).toInt ∧ (F' 42).toInt ≤ 72)))) 0 0 (va_A (mW h0 q cq F G) sz) := by
  refine mr_met (WF := [13, 14, 40, 41, 42, 43, 44]) (WG := []) (cc := cX6_number) (maxL := 3) (ret := (some .boolean)) (by decide) rfl rfl (by decide +kernel) (Nat.le_of_ble_eq_true rfl) hI ?_
  intro p e s m args below meth c ls E hml hr hlk hsz hA hM hl
  have hx := E.1
  have hb := E.2.1
  have hts := E.2.2.1
  have hown := E.2.2.2.2.1
  have hl : lv_has ls 3 [(0, .ref h0), (1, .int p0), (2, .int p1)] := hl
  refine lv_aload_n hx hb dX6_number_0 rfl (lv_at hl 0 rfl) ?_
  have b_1 : 0 ≤ (F 41).toInt ∧ (F 41).toInt ≤ 5 := hM.fb 41 rfl
  refine mr_get (v := .int (F 41)) E hM 41 (by decide) (index := 144) (mm_at 1 rfl) rfl rfl dX6_number_1 ?_
  refine lv_iconst (v := 3) hx hb dX6_number_4 (by decide) ?_
  refine mm_icmp_eq (X := (F 41).toInt) (Y := 3) (tgt := 18) hx hb dX6_number_5 (by decide) rfl num_3 (fun c_2 => ?_) (fun c_2 => ?_)
  · refine lv_aload_n hx hb dX6_number_18 rfl (lv_at hl 0 rfl) ?_
    refine mr_get (v := .int (F 42)) E hM 42 (by decide) (index := 155) (mm_at 2 rfl) rfl rfl dX6_number_19 ?_
    refine lv_iload_n hx hb dX6_number_22 rfl (lv_at hl 1 rfl) ?_
    refine mm_icmp_lt (X := (F 42).toInt) (Y := p0.toInt) (tgt := 34) hx hb dX6_number_23 (by decide) rfl rfl (fun c_3 => ?_) (fun c_3 => ?_)
    · refine lv_aload_n hx hb dX6_number_34 rfl (lv_at hl 0 rfl) ?_
      refine lv_iconst (v := 2) hx hb dX6_number_35 (by decide) ?_
      refine lv_aload_n hx hb dX6_number_36 rfl (lv_at hl 0 rfl) ?_
      have b_4 : 0 ≤ (F 43).toInt ∧ (F 43).toInt ≤ 1000 := hM.fb 43 rfl
      refine mr_get (v := .int (F 43)) E hM 43 (by decide) (index := 141) (mm_at 3 rfl) rfl rfl dX6_number_37 ?_
      refine mr_calli (av := [.int 2, .int (F 43)]) (rest := []) E hA hml hM (g3_X6_wrong l D h0 q cq F G _ 2 (F 43) hM.2.2.2.1 ) (cwV 2 hts gc_X6_number_X6_wrong_5 rfl rfl rfl (by decide +kernel) ⟨Nat.le_of_ble_eq_true rfl, Nat.le_of_ble_eq_true rfl⟩) rfl hl.1 rfl (Nat.le_of_ble_eq_true rfl) dX6_number_40 ⟨Nat.le_of_ble_eq_true rfl, Nat.le_of_ble_eq_true rfl⟩ (by decide) (by decide) (fun r_6 F_8 G_9 H locs fr_10 p_7 hM => ?_)
      replace p_7 : r_6.toInt = 0 := p_7
      have b_11 : 0 ≤ (F_8 40).toInt ∧ (F_8 40).toInt ≤ 1000 := hM.fb 40 rfl
      have e_12 : (F_8 40).toInt = (F 40).toInt := (congrArg Int32.toInt (fr_10.1 40 (by decide))).trans rfl
      have b_13 : 0 ≤ (F_8 41).toInt ∧ (F_8 41).toInt ≤ 5 := hM.fb 41 rfl
      have e_14 : (F_8 41).toInt = (F 41).toInt := (congrArg Int32.toInt (fr_10.1 41 (by decide))).trans rfl
      have e_15 : (F_8 42).toInt = (F 42).toInt := (congrArg Int32.toInt (fr_10.1 42 (by decide))).trans rfl
      exact mr_rz (X := r_6.toInt) E hr hlk hsz hM rfl (by omega) (show (F_8 40).toInt ≤ (F 39).toInt ∧ (F 40).toInt ≤ (F_8 40).toInt ∧ (¬ (F_8 41).toInt = 2 ∨ (65 ≤ (F_8 42).toInt ∧ (F_8 42).toInt ≤ 72)) from by omega) dX6_number_43
    · refine lv_aload_n hx hb dX6_number_26 rfl (lv_at hl 0 rfl) ?_
      refine mr_get (v := .int (F 42)) E hM 42 (by decide) (index := 155) (mm_at 2 rfl) rfl rfl dX6_number_27 ?_
      refine lv_iload_n hx hb dX6_number_30 rfl (lv_at hl 2 rfl) ?_
      refine mm_icmp_le (X := (F 42).toInt) (Y := p1.toInt) (tgt := 44) hx hb dX6_number_31 (by decide) rfl rfl (fun c_16 => ?_) (fun c_16 => ?_)
      · refine lv_aload_n hx hb dX6_number_44 rfl (lv_at hl 0 rfl) ?_
        refine lv_aload_n hx hb dX6_number_45 rfl (lv_at hl 0 rfl) ?_
        refine mr_get (v := .int (F 42)) E hM 42 (by decide) (index := 155) (mm_at 2 rfl) rfl rfl dX6_number_46 ?_
        refine mr_put (v := (F 42)) E hM 44 (by decide) (index := 169) (mm_at 11 rfl) rfl rfl (by decide +kernel) ms_44 (mm_nb rfl) (by decide) dX6_number_49 (fun H locs hM => ?_)
        refine lv_aload_n hx hb dX6_number_52 rfl (lv_at hl 0 rfl) ?_
        have b_18 : 0 ≤ (F 39).toInt ∧ (F 39).toInt ≤ 1000 := hM.fb 39 rfl
        have b_19 : 0 ≤ (F 40).toInt ∧ (F 40).toInt ≤ 1000 := hM.fb 40 rfl
        refine mr_callv (av := []) (rest := []) E hA hml hM (g3_X6_take l D h0 q cq (upd F 44 (F 42)) G _  hM.2.2.2.1 (show (F 40).toInt ≤ (F 39).toInt from by omega)) (cwV 0 hts gc_X6_number_X6_take_17 rfl rfl rfl (by decide +kernel) ⟨Nat.le_of_ble_eq_true rfl, Nat.le_of_ble_eq_true rfl⟩) rfl hl.1 rfl (Nat.le_of_ble_eq_true rfl) dX6_number_53 ⟨Nat.le_of_ble_eq_true rfl, Nat.le_of_ble_eq_true rfl⟩ (by decide) (by decide) (fun F_22 G_23 H locs fr_24 p_21 hM => ?_)
        replace p_21 : (F_22 40).toInt ≤ (F 39).toInt ∧ (F 40).toInt ≤ (F_22 40).toInt ∧ ((F_22 41).toInt = 0 ∨ (F 40).toInt < (F_22 40).toInt) ∧ (¬ (F_22 41).toInt = 2 ∨ (65 ≤ (F_22 42).toInt ∧ (F_22 42).toInt ≤ 72)) := p_21
        refine lv_iconst (v := 1) hx hb dX6_number_56 (by decide) ?_
        have b_25 : 0 ≤ (F_22 40).toInt ∧ (F_22 40).toInt ≤ 1000 := hM.fb 40 rfl
        have b_26 : 0 ≤ (F_22 41).toInt ∧ (F_22 41).toInt ≤ 5 := hM.fb 41 rfl
        exact mr_rz (X := 1) E hr hlk hsz hM num_1 (by omega) (show (F_22 40).toInt ≤ (F 39).toInt ∧ (F 40).toInt ≤ (F_22 40).toInt ∧ (¬ (F_22 41).toInt = 2 ∨ (65 ≤ (F_22 42).toInt ∧ (F_22 42).toInt ≤ 72)) from by have n9 := num_1; omega) dX6_number_57
      · refine lv_aload_n hx hb dX6_number_34 rfl (lv_at hl 0 rfl) ?_
        refine lv_iconst (v := 2) hx hb dX6_number_35 (by decide) ?_
        refine lv_aload_n hx hb dX6_number_36 rfl (lv_at hl 0 rfl) ?_
        have b_27 : 0 ≤ (F 43).toInt ∧ (F 43).toInt ≤ 1000 := hM.fb 43 rfl
        refine mr_get (v := .int (F 43)) E hM 43 (by decide) (index := 141) (mm_at 3 rfl) rfl rfl dX6_number_37 ?_
        refine mr_calli (av := [.int 2, .int (F 43)]) (rest := []) E hA hml hM (g3_X6_wrong l D h0 q cq F G _ 2 (F 43) hM.2.2.2.1 ) (cwV 2 hts gc_X6_number_X6_wrong_28 rfl rfl rfl (by decide +kernel) ⟨Nat.le_of_ble_eq_true rfl, Nat.le_of_ble_eq_true rfl⟩) rfl hl.1 rfl (Nat.le_of_ble_eq_true rfl) dX6_number_40 ⟨Nat.le_of_ble_eq_true rfl, Nat.le_of_ble_eq_true rfl⟩ (by decide) (by decide) (fun r_29 F_31 G_32 H locs fr_33 p_30 hM => ?_)
        replace p_30 : r_29.toInt = 0 := p_30
        have b_34 : 0 ≤ (F_31 40).toInt ∧ (F_31 40).toInt ≤ 1000 := hM.fb 40 rfl
        have e_35 : (F_31 40).toInt = (F 40).toInt := (congrArg Int32.toInt (fr_33.1 40 (by decide))).trans rfl
        have b_36 : 0 ≤ (F_31 41).toInt ∧ (F_31 41).toInt ≤ 5 := hM.fb 41 rfl
        have e_37 : (F_31 41).toInt = (F 41).toInt := (congrArg Int32.toInt (fr_33.1 41 (by decide))).trans rfl
        have e_38 : (F_31 42).toInt = (F 42).toInt := (congrArg Int32.toInt (fr_33.1 42 (by decide))).trans rfl
        exact mr_rz (X := r_29.toInt) E hr hlk hsz hM rfl (by omega) (show (F_31 40).toInt ≤ (F 39).toInt ∧ (F 40).toInt ≤ (F_31 40).toInt ∧ (¬ (F_31 41).toInt = 2 ∨ (65 ≤ (F_31 42).toInt ∧ (F_31 42).toInt ≤ 72)) from by omega) dX6_number_43
  · refine lv_aload_n hx hb dX6_number_8 rfl (lv_at hl 0 rfl) ?_
    refine lv_iconst (v := 1) hx hb dX6_number_9 (by decide) ?_
    refine lv_aload_n hx hb dX6_number_10 rfl (lv_at hl 0 rfl) ?_
    have b_39 : 0 ≤ (F 43).toInt ∧ (F 43).toInt ≤ 1000 := hM.fb 43 rfl
    refine mr_get (v := .int (F 43)) E hM 43 (by decide) (index := 141) (mm_at 3 rfl) rfl rfl dX6_number_11 ?_
    refine mr_calli (av := [.int 1, .int (F 43)]) (rest := []) E hA hml hM (g3_X6_wrong l D h0 q cq F G _ 1 (F 43) hM.2.2.2.1 ) (cwV 2 hts gc_X6_number_X6_wrong_40 rfl rfl rfl (by decide +kernel) ⟨Nat.le_of_ble_eq_true rfl, Nat.le_of_ble_eq_true rfl⟩) rfl hl.1 rfl (Nat.le_of_ble_eq_true rfl) dX6_number_14 ⟨Nat.le_of_ble_eq_true rfl, Nat.le_of_ble_eq_true rfl⟩ (by decide) (by decide) (fun r_41 F_43 G_44 H locs fr_45 p_42 hM => ?_)
    replace p_42 : r_41.toInt = 0 := p_42
    have b_46 : 0 ≤ (F_43 40).toInt ∧ (F_43 40).toInt ≤ 1000 := hM.fb 40 rfl
    have e_47 : (F_43 40).toInt = (F 40).toInt := (congrArg Int32.toInt (fr_45.1 40 (by decide))).trans rfl
    have b_48 : 0 ≤ (F_43 41).toInt ∧ (F_43 41).toInt ≤ 5 := hM.fb 41 rfl
    have e_49 : (F_43 41).toInt = (F 41).toInt := (congrArg Int32.toInt (fr_45.1 41 (by decide))).trans rfl
    have e_50 : (F_43 42).toInt = (F 42).toInt := (congrArg Int32.toInt (fr_45.1 42 (by decide))).trans rfl
    exact mr_rz (X := r_41.toInt) E hr hlk hsz hM rfl (by omega) (show (F_43 40).toInt ≤ (F 39).toInt ∧ (F 40).toInt ≤ (F_43 40).toInt ∧ (¬ (F_43 41).toInt = 2 ∨ (65 ≤ (F_43 42).toInt ∧ (F_43 42).toInt ≤ 72)) from by omega) dX6_number_17
def w3X6_shots : List Cond := .code yX6_shots cX6_shots 4 (some .boolean) :: ([.fieldLink RX6 144 "SkiShotsModel" "kind" "I", .fieldLink RX6 16 "SkiShotsModel" "shootMany" "[I", .fieldLink RX6 141 "SkiShotsModel" "place" "I", .methodLink RX6 162 yX6_wrong, .instanceMethod yX6_wrong, .selects RX6 yX6_wrong yX6_wrong, .initialized RX6, .code yX6_wrong cX6_wrong 3 (some .boolean), .fieldLink RX6 132 "SkiShotsModel" "fault" "I", .fieldLink RX6 38 "SkiShotsModel" "faultPlace" "I", .fieldLink RX6 155 "SkiShotsModel" "which" "I", .fieldLink RX6 13 "SkiShotsModel" "laps" "[I", .fieldLink RX6 19 "SkiShotsModel" "shoot" "[I", .methodLink RX6 166 yX6_take, .instanceMethod yX6_take, .selects RX6 yX6_take yX6_take, .code yX6_take cX6_take 1 none, .fieldLink RX6 138 "SkiShotsModel" "next" "I", .methodLink RX6 158 yX6_isDigit, .instanceMethod yX6_isDigit, .selects RX6 yX6_isDigit yX6_isDigit, .code yX6_isDigit cX6_isDigit 2 (some .boolean), .fieldLink RX6 135 "SkiShotsModel" "size" "I", .fieldLink RX6 7 "SkiShotsModel" "tape" "[I", .constant RX6 161 (99999), .methodLink RX6 147 yX6_isSmall, .instanceMethod yX6_isSmall, .selects RX6 yX6_isSmall yX6_isSmall, .code yX6_isSmall cX6_isSmall 2 (some .boolean), .methodLink RX6 151 yX6_wordAt, .instanceMethod yX6_wordAt, .selects RX6 yX6_wordAt yX6_wordAt, .code yX6_wordAt cX6_wordAt 8 (some .int), .fieldLink RX6 102 "SkiShotsModel" "words" "[I"] ++ wsX60)
set_option maxRecDepth 20000 in
theorem gc_X6_shots_X6_wrong_9 : GoodIn w3X6_shots (wsV RX6 162 RX6 yX6_wrong w3X6_wrong) := goodIn_p _ [8] rfl (by decide +kernel)
set_option maxRecDepth 20000 in
theorem gc_X6_shots_X6_wrong_22 : GoodIn w3X6_shots (wsV RX6 162 RX6 yX6_wrong w3X6_wrong) := goodIn_p _ [8] rfl (by decide +kernel)
set_option maxRecDepth 20000 in
theorem gc_X6_shots_X6_take_41 : GoodIn w3X6_shots (wsV RX6 166 RX6 yX6_take w3X6_take) := goodIn_p _ [17, 22, 29, 33] rfl (by decide +kernel)
set_option maxRecDepth 20000 in
theorem gc_X6_shots_X6_wrong_57 : GoodIn w3X6_shots (wsV RX6 162 RX6 yX6_wrong w3X6_wrong) := goodIn_p _ [8] rfl (by decide +kernel)
set_option maxRecDepth 20000 in
theorem gc_X6_shots_X6_wrong_69 : GoodIn w3X6_shots (wsV RX6 162 RX6 yX6_wrong w3X6_wrong) := goodIn_p _ [8] rfl (by decide +kernel)
set_option maxHeartbeats 4000000 in
set_option maxRecDepth 100000 in
theorem g3_X6_shots (l : Launch) (D : va_G) (h0 : Nat) (q : Nat → Nat) (cq : Nat → ClassId) (F : Nat → Int32) (G : Nat → Nat → Int32) (sz : Nat) (p0 : Int32) (hI : mI F G) (k0 : 8 ≤ p0.toInt ∧ p0.toInt < 16) (hns : (F 40).toInt ≤ (F 39).toInt) (hk2 : ¬ (F 41).toInt = 2 ∨ (65 ≤ (F 42).toInt ∧ (F 42).toInt ≤ 72)) : Met l yX6_shots w3X6_shots ({ frames := 2, cells := 0, slots := 0, locals := 47 }) (mPre D h0 q cq F G sz [.ref h0, .int p0]) (mQi D h0 q cq F G sz [13, 14, 40, 41, 42, 43] [6, 7] (fun r F' G' => (F' 40).toInt ≤ (F 39).toInt ∧ (F 40).toInt ≤ (F' 40).toInt ∧ (¬ (F' 41).toInt = 2 ∨ (65 ≤ (F' 42).toInt ∧ (F' 42).toInt ≤ 72)))) 0 0 (va_A (mW h0 q cq F G) sz) := by
  refine mr_met (WF := [13, 14, 40, 41, 42, 43]) (WG := [6, 7]) (cc := cX6_shots) (maxL := 4) (ret := (some .boolean)) (by decide) rfl rfl (by decide +kernel) (Nat.le_of_ble_eq_true rfl) hI ?_
  intro p e s m args below meth c ls E hml hr hlk hsz hA hM hl
  have hx := E.1
  have hb := E.2.1
  have hts := E.2.2.1
  have hown := E.2.2.2.2.1
  have hl : lv_has ls 4 [(0, .ref h0), (1, .int p0)] := hl
  have B_11 : ∀ n_11 : Nat, ∀ (H : Heap) (locs : List Loc) (ls : Array Slot) (F_11 : Nat → Int32) (G_11 : Nat → Nat → Int32) (la mo : Int32), (F_11 40).toInt ≤ (F 39).toInt → (F 40).toInt ≤ (F_11 40).toInt → ¬ (F_11 41).toInt = 2 ∨ (65 ≤ (F_11 42).toInt ∧ (F_11 42).toInt ≤ 72) → (5 - (G_11 6 (Int32.toNatClampNeg p0)).toInt) < (n_11 : Int) → mQ D h0 q cq (va_A (mW h0 q cq F G) sz) s.heap [13, 14, 40, 41, 42, 43] [6, 7] F G H locs F_11 G_11 → lv_has ls 4 [(0, .ref h0), (1, .int p0), (2, .int la), (3, .int mo)] → W p l e ({ frames := 2, cells := 0, slots := 0, locals := 47 }) s m args below meth c H locs 0 0 (MQ below (mQi D h0 q cq F G sz [13, 14, 40, 41, 42, 43] [6, 7] (fun r F' G' => (F' 40).toInt ≤ (F 39).toInt ∧ (F 40).toInt ≤ (F' 40).toInt ∧ (¬ (F' 41).toInt = 2 ∨ (65 ≤ (F' 42).toInt ∧ (F' 42).toInt ≤ 72)))) args s 0 0 (va_A (mW h0 q cq F G) sz)) (F0 m 11 ls []) := by
    intro n_11
    induction n_11 with
    | zero => intro H locs ls F_11 G_11 la mo f11_0 f11_1 f11_2 hn hM hl; exact False.elim (by have hfr_11 := hM.fr; have h6 := hM.ab 6 rfl (Int32.toNatClampNeg p0); omega)
    | succ n_11 ih_11 =>
      intro H locs ls F_11 G_11 la mo f11_0 f11_1 f11_2 hn hM hl
      have hfr_11 := hM.fr
      refine lv_iload_n hx hb dX6_shots_11 rfl (lv_at hl 3 rfl) ?_
      refine mm_if_eq (X := mo.toInt) (tgt := 129) hx hb dX6_shots_12 (by decide) rfl (fun c_1 => ?_) (fun c_1 => ?_)
      · refine lv_iconst (v := 1) hx hb dX6_shots_129 (by decide) ?_
        have b_2 : 0 ≤ (F_11 40).toInt ∧ (F_11 40).toInt ≤ 1000 := hM.fb 40 rfl
        have b_3 : 0 ≤ (F_11 41).toInt ∧ (F_11 41).toInt ≤ 5 := hM.fb 41 rfl
        exact mr_rz (X := 1) E hr hlk hsz hM num_1 (by omega) (show (F_11 40).toInt ≤ (F 39).toInt ∧ (F 40).toInt ≤ (F_11 40).toInt ∧ (¬ (F_11 41).toInt = 2 ∨ (65 ≤ (F_11 42).toInt ∧ (F_11 42).toInt ≤ 72)) from by have n9 := num_1; omega) dX6_shots_130
      · refine lv_aload_n hx hb dX6_shots_15 rfl (lv_at hl 0 rfl) ?_
        have b_4 : 0 ≤ (F_11 41).toInt ∧ (F_11 41).toInt ≤ 5 := hM.fb 41 rfl
        refine mr_get (v := .int (F_11 41)) E hM 41 (by decide) (index := 144) (mm_at 1 rfl) rfl rfl dX6_shots_16 ?_
        refine lv_iconst (v := 3) hx hb dX6_shots_19 (by decide) ?_
        refine mm_icmp_eq (X := (F_11 41).toInt) (Y := 3) (tgt := 33) hx hb dX6_shots_20 (by decide) rfl num_3 (fun c_5 => ?_) (fun c_5 => ?_)
        · refine lv_aload_n hx hb dX6_shots_33 rfl (lv_at hl 0 rfl) ?_
          refine mr_get (v := .ref (q 6)) E hM 6 (by decide) (index := 16) (mm_at 2 rfl) rfl rfl dX6_shots_34 ?_
          refine lv_iload_n hx hb dX6_shots_37 rfl (lv_at hl 1 rfl) ?_
          refine mr_ald (X := p0.toInt) E hM 3 2 rfl rfl rfl (by omega) dX6_shots_38 ?_
          have b_6 : 0 ≤ (G_11 6 (Int32.toNatClampNeg p0)).toInt ∧ (G_11 6 (Int32.toNatClampNeg p0)).toInt ≤ 4 := hM.ab 6 rfl _
          refine lv_iconst (v := 4) hx hb dX6_shots_39 (by decide) ?_
          refine mm_icmp_eq (X := (G_11 6 (Int32.toNatClampNeg p0)).toInt) (Y := 4) (tgt := 64) hx hb dX6_shots_40 (by decide) rfl num_4 (fun c_7 => ?_) (fun c_7 => ?_)
          · refine lv_aload_n hx hb dX6_shots_64 rfl (lv_at hl 0 rfl) ?_
            refine lv_iconst (v := 2) hx hb dX6_shots_65 (by decide) ?_
            refine lv_aload_n hx hb dX6_shots_66 rfl (lv_at hl 0 rfl) ?_
            have b_8 : 0 ≤ (F_11 43).toInt ∧ (F_11 43).toInt ≤ 1000 := hM.fb 43 rfl
            refine mr_get (v := .int (F_11 43)) E hM 43 (by decide) (index := 141) (mm_at 3 rfl) rfl rfl dX6_shots_67 ?_
            refine mr_calli (av := [.int 2, .int (F_11 43)]) (rest := []) E hA hml hM (g3_X6_wrong l D h0 q cq F_11 G_11 _ 2 (F_11 43) hM.2.2.2.1 ) (cwV 2 hts gc_X6_shots_X6_wrong_9 rfl rfl rfl (by decide +kernel) ⟨Nat.le_of_ble_eq_true rfl, Nat.le_of_ble_eq_true rfl⟩) rfl hl.1 rfl (Nat.le_of_ble_eq_true rfl) dX6_shots_70 ⟨Nat.le_of_ble_eq_true rfl, Nat.le_of_ble_eq_true rfl⟩ (by decide) (by decide) (fun r_10 F_12 G_13 H locs fr_14 p_11 hM => ?_)
            replace p_11 : r_10.toInt = 0 := p_11
            have b_15 : 0 ≤ (F_12 40).toInt ∧ (F_12 40).toInt ≤ 1000 := hM.fb 40 rfl
            have e_16 : (F_12 40).toInt = (F_11 40).toInt := (congrArg Int32.toInt (fr_14.1 40 (by decide))).trans rfl
            have b_17 : 0 ≤ (F_12 41).toInt ∧ (F_12 41).toInt ≤ 5 := hM.fb 41 rfl
            have e_18 : (F_12 41).toInt = (F_11 41).toInt := (congrArg Int32.toInt (fr_14.1 41 (by decide))).trans rfl
            have e_19 : (F_12 42).toInt = (F_11 42).toInt := (congrArg Int32.toInt (fr_14.1 42 (by decide))).trans rfl
            exact mr_rz (X := r_10.toInt) E hr hlk hsz hM rfl (by omega) (show (F_12 40).toInt ≤ (F 39).toInt ∧ (F 40).toInt ≤ (F_12 40).toInt ∧ (¬ (F_12 41).toInt = 2 ∨ (65 ≤ (F_12 42).toInt ∧ (F_12 42).toInt ≤ 72)) from by omega) dX6_shots_73
          · refine lv_aload_n hx hb dX6_shots_43 rfl (lv_at hl 0 rfl) ?_
            refine mr_get (v := .int (F_11 42)) E hM 42 (by decide) (index := 155) (mm_at 11 rfl) rfl rfl dX6_shots_44 ?_
            refine lv_iload_n hx hb dX6_shots_47 rfl (lv_at hl 2 rfl) ?_
            refine mm_icmp_le (X := (F_11 42).toInt) (Y := la.toInt) (tgt := 64) hx hb dX6_shots_48 (by decide) rfl rfl (fun c_20 => ?_) (fun c_20 => ?_)
            · refine lv_aload_n hx hb dX6_shots_64 rfl (lv_at hl 0 rfl) ?_
              refine lv_iconst (v := 2) hx hb dX6_shots_65 (by decide) ?_
              refine lv_aload_n hx hb dX6_shots_66 rfl (lv_at hl 0 rfl) ?_
              have b_21 : 0 ≤ (F_11 43).toInt ∧ (F_11 43).toInt ≤ 1000 := hM.fb 43 rfl
              refine mr_get (v := .int (F_11 43)) E hM 43 (by decide) (index := 141) (mm_at 3 rfl) rfl rfl dX6_shots_67 ?_
              refine mr_calli (av := [.int 2, .int (F_11 43)]) (rest := []) E hA hml hM (g3_X6_wrong l D h0 q cq F_11 G_11 _ 2 (F_11 43) hM.2.2.2.1 ) (cwV 2 hts gc_X6_shots_X6_wrong_22 rfl rfl rfl (by decide +kernel) ⟨Nat.le_of_ble_eq_true rfl, Nat.le_of_ble_eq_true rfl⟩) rfl hl.1 rfl (Nat.le_of_ble_eq_true rfl) dX6_shots_70 ⟨Nat.le_of_ble_eq_true rfl, Nat.le_of_ble_eq_true rfl⟩ (by decide) (by decide) (fun r_23 F_25 G_26 H locs fr_27 p_24 hM => ?_)
              replace p_24 : r_23.toInt = 0 := p_24
              have b_28 : 0 ≤ (F_25 40).toInt ∧ (F_25 40).toInt ≤ 1000 := hM.fb 40 rfl
              have e_29 : (F_25 40).toInt = (F_11 40).toInt := (congrArg Int32.toInt (fr_27.1 40 (by decide))).trans rfl
              have b_30 : 0 ≤ (F_25 41).toInt ∧ (F_25 41).toInt ≤ 5 := hM.fb 41 rfl
              have e_31 : (F_25 41).toInt = (F_11 41).toInt := (congrArg Int32.toInt (fr_27.1 41 (by decide))).trans rfl
              have e_32 : (F_25 42).toInt = (F_11 42).toInt := (congrArg Int32.toInt (fr_27.1 42 (by decide))).trans rfl
              exact mr_rz (X := r_23.toInt) E hr hlk hsz hM rfl (by omega) (show (F_25 40).toInt ≤ (F 39).toInt ∧ (F 40).toInt ≤ (F_25 40).toInt ∧ (¬ (F_25 41).toInt = 2 ∨ (65 ≤ (F_25 42).toInt ∧ (F_25 42).toInt ≤ 72)) from by omega) dX6_shots_73
            · refine lv_aload_n hx hb dX6_shots_51 rfl (lv_at hl 0 rfl) ?_
              refine mr_get (v := .int (F_11 42)) E hM 42 (by decide) (index := 155) (mm_at 11 rfl) rfl rfl dX6_shots_52 ?_
              refine lv_aload_n hx hb dX6_shots_55 rfl (lv_at hl 0 rfl) ?_
              refine mr_get (v := .ref (q 5)) E hM 5 (by decide) (index := 13) (mm_at 12 rfl) rfl rfl dX6_shots_56 ?_
              refine lv_iload_n hx hb dX6_shots_59 rfl (lv_at hl 1 rfl) ?_
              refine mr_ald (X := p0.toInt) E hM 2 1 rfl rfl rfl (by omega) dX6_shots_60 ?_
              refine mm_icmp_lt (X := (F_11 42).toInt) (Y := (G_11 5 (Int32.toNatClampNeg p0)).toInt) (tgt := 74) hx hb dX6_shots_61 (by decide) rfl rfl (fun c_33 => ?_) (fun c_33 => ?_)
              · refine lv_aload_n hx hb dX6_shots_74 rfl (lv_at hl 0 rfl) ?_
                refine mr_get (v := .int (F_11 42)) E hM 42 (by decide) (index := 155) (mm_at 11 rfl) rfl rfl dX6_shots_75 ?_
                refine lv_istore_n (lv' := [(2, .int (F_11 42)), (0, .ref h0), (1, .int p0), (3, .int mo)]) hx hb dX6_shots_78 rfl hl (by decide) rfl (fun ls hl => ?_)
                refine lv_aload_n hx hb dX6_shots_79 rfl (lv_at hl 1 rfl) ?_
                refine mr_get (v := .ref (q 7)) E hM 7 (by decide) (index := 19) (mm_at 13 rfl) rfl rfl dX6_shots_80 ?_
                refine lv_iconst (v := 4) hx hb dX6_shots_83 (by decide) ?_
                refine lv_iload_n hx hb dX6_shots_84 rfl (lv_at hl 2 rfl) ?_
                refine mm_imul (X := 4) (Y := p0.toInt) hx hb dX6_shots_85 num_4 rfl (by omega) (fun z_34 hz_34 => ?_)
                refine lv_aload_n hx hb dX6_shots_86 rfl (lv_at hl 1 rfl) ?_
                refine mr_get (v := .ref (q 6)) E hM 6 (by decide) (index := 16) (mm_at 2 rfl) rfl rfl dX6_shots_87 ?_
                refine lv_iload_n hx hb dX6_shots_90 rfl (lv_at hl 2 rfl) ?_
                refine mr_ald (X := p0.toInt) E hM 3 2 rfl rfl rfl (by omega) dX6_shots_91 ?_
                refine mm_iadd (X := z_34.toInt) (Y := (G_11 6 (Int32.toNatClampNeg p0)).toInt) hx hb dX6_shots_92 rfl rfl (by omega) (fun z_35 hz_35 => ?_)
                refine lv_aload_n hx hb dX6_shots_93 rfl (lv_at hl 1 rfl) ?_
                refine mr_get (v := .int (F_11 42)) E hM 42 (by decide) (index := 155) (mm_at 11 rfl) rfl rfl dX6_shots_94 ?_
                refine mr_ast (X := z_35.toInt) E hM 7 4 3 rfl rfl rfl (by omega) mg_7 (by decide) (mm_nbA rfl) (by decide) dX6_shots_97 (fun H locs G_36 eG_36 hM => ?_)
                have g6_37 : (G_36 6 (Int32.toNatClampNeg p0)).toInt = (G_11 6 (Int32.toNatClampNeg p0)).toInt := congrArg Int32.toInt (congrFun ((show G_36 6 = G_11 6 from by rw [eG_36]; rfl).trans rfl) _)
                refine lv_aload_n hx hb dX6_shots_98 rfl (lv_at hl 1 rfl) ?_
                refine mr_get (v := .ref (q 6)) E hM 6 (by decide) (index := 16) (mm_at 2 rfl) rfl rfl dX6_shots_99 ?_
                refine lv_iload_n hx hb dX6_shots_102 rfl (lv_at hl 2 rfl) ?_
                refine lv_dup2_11 hx hb dX6_shots_103 rfl rfl ?_
                refine mr_ald (X := p0.toInt) E hM 3 2 rfl rfl rfl (by omega) dX6_shots_104 ?_
                have b_38 : 0 ≤ (G_36 6 (Int32.toNatClampNeg p0)).toInt ∧ (G_36 6 (Int32.toNatClampNeg p0)).toInt ≤ 4 := hM.ab 6 rfl _
                refine lv_iconst (v := 1) hx hb dX6_shots_105 (by decide) ?_
                refine mm_iadd (X := (G_36 6 (Int32.toNatClampNeg p0)).toInt) (Y := 1) hx hb dX6_shots_106 rfl num_1 (by omega) (fun z_39 hz_39 => ?_)
                refine mr_ast (X := p0.toInt) E hM 6 3 2 rfl rfl rfl (by omega) mg_6 (by decide) (mm_bdA (X := z_39.toInt) (a := 0) (b := 4) rfl rfl (by omega)) (by decide) dX6_shots_107 (fun H locs G_40 eG_40 hM => ?_)
                refine lv_aload_n hx hb dX6_shots_108 rfl (lv_at hl 1 rfl) ?_
                have b_42 : 0 ≤ (F_11 39).toInt ∧ (F_11 39).toInt ≤ 1000 := hM.fb 39 rfl
                have e_43 : (F_11 39).toInt = (F 39).toInt := (congrArg Int32.toInt (hfr_11.1 39 (by decide))).trans rfl
                have b_44 : 0 ≤ (F_11 40).toInt ∧ (F_11 40).toInt ≤ 1000 := hM.fb 40 rfl
                refine mr_callv (av := []) (rest := []) E hA hml hM (g3_X6_take l D h0 q cq F_11 G_40 _  hM.2.2.2.1 (show (F_11 40).toInt ≤ (F_11 39).toInt from by omega)) (cwV 0 hts gc_X6_shots_X6_take_41 rfl rfl rfl (by decide +kernel) ⟨Nat.le_of_ble_eq_true rfl, Nat.le_of_ble_eq_true rfl⟩) rfl hl.1 rfl (Nat.le_of_ble_eq_true rfl) dX6_shots_109 ⟨Nat.le_of_ble_eq_true rfl, Nat.le_of_ble_eq_true rfl⟩ (by decide) (by decide) (fun F_47 G_48 H locs fr_49 p_46 hM => ?_)
                replace p_46 : (F_47 40).toInt ≤ (F_11 39).toInt ∧ (F_11 40).toInt ≤ (F_47 40).toInt ∧ ((F_47 41).toInt = 0 ∨ (F_11 40).toInt < (F_47 40).toInt) ∧ (¬ (F_47 41).toInt = 2 ∨ (65 ≤ (F_47 42).toInt ∧ (F_47 42).toInt ≤ 72)) := p_46
                refine lv_aload_n hx hb dX6_shots_112 rfl (lv_at hl 1 rfl) ?_
                have b_50 : 0 ≤ (F_47 41).toInt ∧ (F_47 41).toInt ≤ 5 := hM.fb 41 rfl
                refine mr_get (v := .int (F_47 41)) E hM 41 (by decide) (index := 144) (mm_at 1 rfl) rfl rfl dX6_shots_113 ?_
                refine lv_iconst (v := 3) hx hb dX6_shots_116 (by decide) ?_
                refine mm_icmp_ne (X := (F_47 41).toInt) (Y := 3) (tgt := 124) hx hb dX6_shots_117 (by decide) rfl num_3 (fun c_51 => ?_) (fun c_51 => ?_)
                · refine lv_iconst (v := 0) hx hb dX6_shots_124 (by decide) ?_
                  refine lv_istore_n (lv' := [(3, .int 0), (2, .int (F_11 42)), (0, .ref h0), (1, .int p0)]) hx hb dX6_shots_125 rfl hl (by decide) rfl (fun ls hl => ?_)
                  have g6_52 : (G_48 6 (Int32.toNatClampNeg p0)).toInt = z_39.toInt := by rw [((fr_49.2 6 (by decide)).trans ((show G_40 6 = upd (G_36 6) (Int32.toNatClampNeg p0) (z_39) from by rw [eG_40]; rfl).trans (congrArg (fun z => upd z (Int32.toNatClampNeg p0) (z_39)) ((show G_36 6 = G_11 6 from by rw [eG_36]; rfl).trans rfl))))]; simp only [upd, if_true]
                  refine lv_goto (tgt := 11) hx hb dX6_shots_126 (by decide) ?_
                  have b_53 : 0 ≤ (F_47 40).toInt ∧ (F_47 40).toInt ≤ 1000 := hM.fb 40 rfl
                  exact ih_11 _ _ _ F_47 G_48 (F_11 42) 0 (show (F_47 40).toInt ≤ (F 39).toInt from by have n_1 := num_0; omega) (show (F 40).toInt ≤ (F_47 40).toInt from by have n_1 := num_0; omega) (show ¬ (F_47 41).toInt = 2 ∨ (65 ≤ (F_47 42).toInt ∧ (F_47 42).toInt ≤ 72) from by have n_1 := num_0; omega) (show (5 - (G_48 6 (Int32.toNatClampNeg p0)).toInt) < ((n_11 : Nat) : Int) from by have n_1 := num_0; omega) hM (lv_sub hl [2, 3, 1, 0] rfl)
                · refine lv_iconst (v := 1) hx hb dX6_shots_120 (by decide) ?_
                  refine lv_goto (tgt := 125) hx hb dX6_shots_121 (by decide) ?_
                  refine lv_istore_n (lv' := [(3, .int 1), (2, .int (F_11 42)), (0, .ref h0), (1, .int p0)]) hx hb dX6_shots_125 rfl hl (by decide) rfl (fun ls hl => ?_)
                  have g6_54 : (G_48 6 (Int32.toNatClampNeg p0)).toInt = z_39.toInt := by rw [((fr_49.2 6 (by decide)).trans ((show G_40 6 = upd (G_36 6) (Int32.toNatClampNeg p0) (z_39) from by rw [eG_40]; rfl).trans (congrArg (fun z => upd z (Int32.toNatClampNeg p0) (z_39)) ((show G_36 6 = G_11 6 from by rw [eG_36]; rfl).trans rfl))))]; simp only [upd, if_true]
                  refine lv_goto (tgt := 11) hx hb dX6_shots_126 (by decide) ?_
                  have b_55 : 0 ≤ (F_47 40).toInt ∧ (F_47 40).toInt ≤ 1000 := hM.fb 40 rfl
                  exact ih_11 _ _ _ F_47 G_48 (F_11 42) 1 (show (F_47 40).toInt ≤ (F 39).toInt from by have n_1 := num_1; omega) (show (F 40).toInt ≤ (F_47 40).toInt from by have n_1 := num_1; omega) (show ¬ (F_47 41).toInt = 2 ∨ (65 ≤ (F_47 42).toInt ∧ (F_47 42).toInt ≤ 72) from by have n_1 := num_1; omega) (show (5 - (G_48 6 (Int32.toNatClampNeg p0)).toInt) < ((n_11 : Nat) : Int) from by have n_1 := num_1; omega) hM (lv_sub hl [2, 3, 1, 0] rfl)
              · refine lv_aload_n hx hb dX6_shots_64 rfl (lv_at hl 0 rfl) ?_
                refine lv_iconst (v := 2) hx hb dX6_shots_65 (by decide) ?_
                refine lv_aload_n hx hb dX6_shots_66 rfl (lv_at hl 0 rfl) ?_
                have b_56 : 0 ≤ (F_11 43).toInt ∧ (F_11 43).toInt ≤ 1000 := hM.fb 43 rfl
                refine mr_get (v := .int (F_11 43)) E hM 43 (by decide) (index := 141) (mm_at 3 rfl) rfl rfl dX6_shots_67 ?_
                refine mr_calli (av := [.int 2, .int (F_11 43)]) (rest := []) E hA hml hM (g3_X6_wrong l D h0 q cq F_11 G_11 _ 2 (F_11 43) hM.2.2.2.1 ) (cwV 2 hts gc_X6_shots_X6_wrong_57 rfl rfl rfl (by decide +kernel) ⟨Nat.le_of_ble_eq_true rfl, Nat.le_of_ble_eq_true rfl⟩) rfl hl.1 rfl (Nat.le_of_ble_eq_true rfl) dX6_shots_70 ⟨Nat.le_of_ble_eq_true rfl, Nat.le_of_ble_eq_true rfl⟩ (by decide) (by decide) (fun r_58 F_60 G_61 H locs fr_62 p_59 hM => ?_)
                replace p_59 : r_58.toInt = 0 := p_59
                have b_63 : 0 ≤ (F_60 40).toInt ∧ (F_60 40).toInt ≤ 1000 := hM.fb 40 rfl
                have e_64 : (F_60 40).toInt = (F_11 40).toInt := (congrArg Int32.toInt (fr_62.1 40 (by decide))).trans rfl
                have b_65 : 0 ≤ (F_60 41).toInt ∧ (F_60 41).toInt ≤ 5 := hM.fb 41 rfl
                have e_66 : (F_60 41).toInt = (F_11 41).toInt := (congrArg Int32.toInt (fr_62.1 41 (by decide))).trans rfl
                have e_67 : (F_60 42).toInt = (F_11 42).toInt := (congrArg Int32.toInt (fr_62.1 42 (by decide))).trans rfl
                exact mr_rz (X := r_58.toInt) E hr hlk hsz hM rfl (by omega) (show (F_60 40).toInt ≤ (F 39).toInt ∧ (F 40).toInt ≤ (F_60 40).toInt ∧ (¬ (F_60 41).toInt = 2 ∨ (65 ≤ (F_60 42).toInt ∧ (F_60 42).toInt ≤ 72)) from by omega) dX6_shots_73
        · refine lv_aload_n hx hb dX6_shots_23 rfl (lv_at hl 0 rfl) ?_
          refine lv_iconst (v := 1) hx hb dX6_shots_24 (by decide) ?_
          refine lv_aload_n hx hb dX6_shots_25 rfl (lv_at hl 0 rfl) ?_
          have b_68 : 0 ≤ (F_11 43).toInt ∧ (F_11 43).toInt ≤ 1000 := hM.fb 43 rfl
          refine mr_get (v := .int (F_11 43)) E hM 43 (by decide) (index := 141) (mm_at 3 rfl) rfl rfl dX6_shots_26 ?_
          refine mr_calli (av := [.int 1, .int (F_11 43)]) (rest := []) E hA hml hM (g3_X6_wrong l D h0 q cq F_11 G_11 _ 1 (F_11 43) hM.2.2.2.1 ) (cwV 2 hts gc_X6_shots_X6_wrong_69 rfl rfl rfl (by decide +kernel) ⟨Nat.le_of_ble_eq_true rfl, Nat.le_of_ble_eq_true rfl⟩) rfl hl.1 rfl (Nat.le_of_ble_eq_true rfl) dX6_shots_29 ⟨Nat.le_of_ble_eq_true rfl, Nat.le_of_ble_eq_true rfl⟩ (by decide) (by decide) (fun r_70 F_72 G_73 H locs fr_74 p_71 hM => ?_)
          replace p_71 : r_70.toInt = 0 := p_71
          have b_75 : 0 ≤ (F_72 40).toInt ∧ (F_72 40).toInt ≤ 1000 := hM.fb 40 rfl
          have e_76 : (F_72 40).toInt = (F_11 40).toInt := (congrArg Int32.toInt (fr_74.1 40 (by decide))).trans rfl
          have b_77 : 0 ≤ (F_72 41).toInt ∧ (F_72 41).toInt ≤ 5 := hM.fb 41 rfl
          have e_78 : (F_72 41).toInt = (F_11 41).toInt := (congrArg Int32.toInt (fr_74.1 41 (by decide))).trans rfl
          have e_79 : (F_72 42).toInt = (F_11 42).toInt := (congrArg Int32.toInt (fr_74.1 42 (by decide))).trans rfl
          exact mr_rz (X := r_70.toInt) E hr hlk hsz hM rfl (by omega) (show (F_72 40).toInt ≤ (F 39).toInt ∧ (F 40).toInt ≤ (F_72 40).toInt ∧ (¬ (F_72 41).toInt = 2 ∨ (65 ≤ (F_72 42).toInt ∧ (F_72 42).toInt ≤ 72)) from by omega) dX6_shots_32
  refine lv_aload_n hx hb dX6_shots_0 rfl (lv_at hl 0 rfl) ?_
  refine mr_get (v := .ref (q 6)) E hM 6 (by decide) (index := 16) (mm_at 2 rfl) rfl rfl dX6_shots_1 ?_
  refine lv_iload_n hx hb dX6_shots_4 rfl (lv_at hl 1 rfl) ?_
  refine lv_iconst (v := 0) hx hb dX6_shots_5 (by decide) ?_
  refine mr_ast (X := p0.toInt) E hM 6 3 2 rfl rfl rfl (by omega) mg_6 (by decide) (mm_bdA (X := 0) (a := 0) (b := 4) rfl num_0 (by omega)) (by decide) dX6_shots_6 (fun H locs G_80 eG_80 hM => ?_)
  have h6b : 0 ≤ (G_80 6 (Int32.toNatClampNeg p0)).toInt ∧ (G_80 6 (Int32.toNatClampNeg p0)).toInt ≤ 4 := hM.ab 6 rfl _
  refine lv_iconst (v := 0) hx hb dX6_shots_7 (by decide) ?_
  refine lv_istore_n (lv' := [(2, .int 0), (0, .ref h0), (1, .int p0)]) hx hb dX6_shots_8 rfl hl (by decide) rfl (fun ls hl => ?_)
  refine lv_iconst (v := 1) hx hb dX6_shots_9 (by decide) ?_
  refine lv_istore_n (lv' := [(3, .int 1), (2, .int 0), (0, .ref h0), (1, .int p0)]) hx hb dX6_shots_10 rfl hl (by decide) rfl (fun ls hl => ?_)
  have b_81 : 0 ≤ (F 40).toInt ∧ (F 40).toInt ≤ 1000 := hM.fb 40 rfl
  have b_82 : 0 ≤ (F 39).toInt ∧ (F 39).toInt ≤ 1000 := hM.fb 39 rfl
  have b_83 : 0 ≤ (F 41).toInt ∧ (F 41).toInt ≤ 5 := hM.fb 41 rfl
  exact B_11 4294967296 _ _ _ F G_80 0 1 (show (F 40).toInt ≤ (F 39).toInt from by have n_0 := num_0; have n_1 := num_1; omega) (show (F 40).toInt ≤ (F 40).toInt from by have n_0 := num_0; have n_1 := num_1; omega) (show ¬ (F 41).toInt = 2 ∨ (65 ≤ (F 42).toInt ∧ (F 42).toInt ≤ 72) from by have n_0 := num_0; have n_1 := num_1; omega) (show (5 - (G_80 6 (Int32.toNatClampNeg p0)).toInt) < ((4294967296 : Nat) : Int) from by have n_0 := num_0; have n_1 := num_1; omega) hM (lv_sub hl [2, 3, 1, 0] rfl)
