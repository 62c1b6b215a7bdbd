theorem wk_div10 {a : Int32} (h : 0 ≤ a.toInt) : (a / 10).toInt = a.toInt / 10 := by
  rw [Int32.toInt_div_of_ne_right _ _ (by decide), Int.tdiv_eq_ediv_of_nonneg h]
  rfl
theorem wk_n32 {x : Int32} (h : 0 ≤ x.toInt ∧ x.toInt ≤ 31) : ∃ n : Nat, n < 32 ∧ x = Int32.ofNat n := ⟨x.toInt.toNat, by omega, Int32.toInt_inj.mp (by rw [show (Int32.ofNat x.toInt.toNat).toInt = ((x.toInt.toNat : Nat) : Int) from nI_toInt (by omega)]; omega)⟩
theorem wk_bit0 {x k : Int32} (h : 0 ≤ x.toInt ∧ x.toInt ≤ 31) (hk : k.toInt = 0) : ((x >>> (k &&& 31)) &&& 1).toInt = x.toInt / 1 % 2 := by
  obtain ⟨n, hn, e⟩ := wk_n32 h
  have e2 : k = 0 := Int32.toInt_inj.mp (by rw [hk]; decide)
  subst e2
  subst e
  clear h hk
  revert n
  decide
theorem wk_bit1 {x k : Int32} (h : 0 ≤ x.toInt ∧ x.toInt ≤ 31) (hk : k.toInt = 1) : ((x >>> (k &&& 31)) &&& 1).toInt = x.toInt / 2 % 2 := by
  obtain ⟨n, hn, e⟩ := wk_n32 h
  have e2 : k = 1 := Int32.toInt_inj.mp (by rw [hk]; decide)
  subst e2
  subst e
  clear h hk
  revert n
  decide
theorem wk_bit2 {x k : Int32} (h : 0 ≤ x.toInt ∧ x.toInt ≤ 31) (hk : k.toInt = 2) : ((x >>> (k &&& 31)) &&& 1).toInt = x.toInt / 4 % 2 := by
  obtain ⟨n, hn, e⟩ := wk_n32 h
  have e2 : k = 2 := Int32.toInt_inj.mp (by rw [hk]; decide)
  subst e2
  subst e
  clear h hk
  revert n
  decide
theorem wk_bit3 {x k : Int32} (h : 0 ≤ x.toInt ∧ x.toInt ≤ 31) (hk : k.toInt = 3) : ((x >>> (k &&& 31)) &&& 1).toInt = x.toInt / 8 % 2 := by
  obtain ⟨n, hn, e⟩ := wk_n32 h
  have e2 : k = 3 := Int32.toInt_inj.mp (by rw [hk]; decide)
  subst e2
  subst e
  clear h hk
  revert n
  decide
theorem wk_bit4 {x k : Int32} (h : 0 ≤ x.toInt ∧ x.toInt ≤ 31) (hk : k.toInt = 4) : ((x >>> (k &&& 31)) &&& 1).toInt = x.toInt / 16 % 2 := by
  obtain ⟨n, hn, e⟩ := wk_n32 h
  have e2 : k = 4 := Int32.toInt_inj.mp (by rw [hk]; decide)
  subst e2
  subst e
  clear h hk
  revert n
  decide
def lMn (G : Nat → Nat → Int32) (p n : Nat) (r : Int) : Prop := (r = -1 ∧ ∀ w : Nat, w < n → 0 ≤ (G 30 (16 * p + w)).toInt → (G 46 (16 * p + w)).toInt < 0) ∨ (0 ≤ r ∧ (∃ w : Nat, w < n ∧ 0 ≤ (G 30 (16 * p + w)).toInt ∧ (G 46 (16 * p + w)).toInt = r) ∧ ∀ w : Nat, w < n → 0 ≤ (G 30 (16 * p + w)).toInt → 0 ≤ (G 46 (16 * p + w)).toInt → r ≤ (G 46 (16 * p + w)).toInt)
section LMN
variable {G : Nat → Nat → Int32} {p n : Nat} {r x : Int}
theorem lMn_0 : lMn G p 0 (-1) := Or.inl ⟨rfl, fun w hw => absurd hw (Nat.not_lt_zero w)⟩
theorem lMn_skip (h : lMn G p n r) (c : (G 30 (16 * p + n)).toInt < 0 ∨ (G 46 (16 * p + n)).toInt < 0) : lMn G p (n + 1) r := by
  rcases h with ⟨a, b⟩ | ⟨a, ⟨w, w1, w2, w3⟩, b⟩
  · refine Or.inl ⟨a, fun u hu h0 => ?_⟩
    by_cases e : u = n
    · subst e; omega
    · exact b u (by omega) h0
  · refine Or.inr ⟨a, ⟨w, by omega, w2, w3⟩, fun u hu h0 h1 => ?_⟩
    by_cases e : u = n
    · subst e; omega
    · exact b u (by omega) h0 h1
theorem lMn_keep (h : lMn G p n r) (c : 0 ≤ r) (d : r ≤ (G 46 (16 * p + n)).toInt) : lMn G p (n + 1) r := by
  rcases h with ⟨a, b⟩ | ⟨a, ⟨w, w1, w2, w3⟩, b⟩
  · omega
  · refine Or.inr ⟨a, ⟨w, by omega, w2, w3⟩, fun u hu h0 h1 => ?_⟩
    by_cases e : u = n
    · subst e; omega
    · exact b u (by omega) h0 h1
theorem lMn_take (h : lMn G p n r) (c0 : 0 ≤ (G 30 (16 * p + n)).toInt) (c1 : 0 ≤ x) (e : (G 46 (16 * p + n)).toInt = x) (d : r < 0 ∨ x < r) : lMn G p (n + 1) x := by
  refine Or.inr ⟨c1, ⟨n, by omega, c0, e⟩, fun u hu h0 h1 => ?_⟩
  by_cases q : u = n
  · subst q; omega
  · rcases h with ⟨a, b⟩ | ⟨a, -, b⟩
    · have := b u (by omega) h0; omega
    · have := b u (by omega) h0 h1; omega
end LMN
def w7X6_known : List Cond := .code yX6_known cX6_known 7 (some .int) :: ([.fieldLink RX6 99 "SkiShotsModel" "tDay" "[I", .fieldLink RX6 84 "SkiShotsModel" "tRace" "[I", .fieldLink RX6 87 "SkiShotsModel" "tRacer" "[I", .fieldLink RX6 90 "SkiShotsModel" "tSort" "[I", .fieldLink RX6 93 "SkiShotsModel" "tK" "[I", .fieldLink RX6 96 "SkiShotsModel" "tV" "[I", .fieldLink RX6 217 "SkiShotsModel" "told" "I"] ++ wsX60)
set_option maxHeartbeats 4000000 in
set_option maxRecDepth 100000 in
theorem g7_X6_known (l : Launch) (D : va_G) (h0 : Nat) (q : Nat → Nat) (cq : Nat → ClassId) (F : Nat → Int32) (G : Nat → Nat → Int32) (sz : Nat) (p0 : Int32) (p1 : Int32) (p2 : Int32) (p3 : Int32) (p4 : Int32) (hI : mI F G)  : Met l yX6_known w7X6_known ({ frames := 0, cells := 0, slots := 0, locals := 0 }) (mPre D h0 q cq F G sz [.ref h0, .int p0, .int p1, .int p2, .int p3, .int p4]) (mQi D h0 q cq F G sz [] [] (fun r F' G' => r.toInt = kN G p0.toInt p1.toInt p2.toInt p3.toInt p4.toInt (F 31).toInt.toNat)) 0 0 (va_A (mW h0 q cq F G) sz) := by
  refine mr_met (WF := []) (WG := []) (cc := cX6_known) (maxL := 7) (ret := (some .int)) (by decide) rfl rfl (by decide +kernel) (Nat.le_of_ble_eq_true rfl) hI ?_
  intro p e s m args below meth c ls E hml hr hlk hsz hA hM hl
  have hx := E.1
  have hb := E.2.1
  have hts := E.2.2.1
  have hown := E.2.2.2.2.1
  have hl : lv_has ls 7 [(0, .ref h0), (1, .int p0), (2, .int p1), (3, .int p2), (4, .int p3), (5, .int p4)] := hl
  have B_8 : ∀ n_8 : Nat, ∀ (H : Heap) (locs : List Loc) (ls : Array Slot) (Fc_8 : Nat → Int32) (Gc_8 : Nat → Nat → Int32) (i : Int32), ((-1) ≤ i.toInt ∧ i.toInt ≤ 399) → i.toInt < (F 31).toInt → kN G p0.toInt p1.toInt p2.toInt p3.toInt p4.toInt (F 31).toInt.toNat = kN G p0.toInt p1.toInt p2.toInt p3.toInt p4.toInt (i.toInt + 1).toNat → (i.toInt + 1) < (n_8 : Int) → mQ D h0 q cq (va_A (mW h0 q cq F G) sz) s.heap [] [] F G H locs Fc_8 Gc_8 → lv_has ls 7 [(0, .ref h0), (1, .int p0), (2, .int p1), (3, .int p2), (4, .int p3), (5, .int p4), (6, .int i)] → W p l e ({ frames := 0, cells := 0, slots := 0, locals := 0 }) s m args below meth c H locs 0 0 (MQ below (mQi D h0 q cq F G sz [] [] (fun r F' G' => r.toInt = kN G p0.toInt p1.toInt p2.toInt p3.toInt p4.toInt (F 31).toInt.toNat)) args s 0 0 (va_A (mW h0 q cq F G) sz)) (F0 m 8 ls []) := by
    intro n_8
    induction n_8 with
    | zero => intro H locs ls Fc_8 Gc_8 i f8_0 f8_1 f8_2 hn hM hl; exact False.elim (by have hfr_8 := hM.fr; omega)
    | succ n_8 ih_8 =>
      intro H locs ls Fc_8 Gc_8 i f8_0 f8_1 f8_2 hn hM hl
      have hfr_8 := hM.fr
      refine lv_iload hx hb dX6_known_8 (lv_at hl 6 rfl) ?_
      refine mm_if_lt (X := i.toInt) (tgt := 84) hx hb dX6_known_10 (by decide) rfl (fun c_1 => ?_) (fun c_1 => ?_)
      · refine lv_iconst (v := (-1)) hx hb dX6_known_84 (by decide) ?_
        exact mr_ri E hr hlk hsz hM (show ((-1) : Int32).toInt = kN G p0.toInt p1.toInt p2.toInt p3.toInt p4.toInt (F 31).toInt.toNat from by have n9 := num_m1; rw [f8_2, show (i.toInt + 1).toNat = 0 from by omega]; exact n9) dX6_known_85
      · refine lv_aload_n hx hb dX6_known_13 rfl (lv_at hl 0 rfl) ?_
        refine mr_get (v := .ref (q 37)) E hM 37 (by decide) (index := 99) (mm_at 1 rfl) rfl rfl dX6_known_14 ?_
        refine lv_iload hx hb dX6_known_17 (lv_at hl 6 rfl) ?_
        refine mr_ald (X := i.toInt) E hM 29 28 rfl rfl rfl (by omega) dX6_known_19 ?_
        have gq_2 : (Gc_8 37 (Int32.toNatClampNeg i)).toInt = (G 37 (Int32.toNatClampNeg i)).toInt := congrArg Int32.toInt (congrFun ((hfr_8.2 37 (by decide)).trans rfl) _)
        refine lv_iload hx hb dX6_known_20 (lv_at hl 5 rfl) ?_
        refine mm_icmp_gt (X := (Gc_8 37 (Int32.toNatClampNeg i)).toInt) (Y := p4.toInt) (tgt := 78) hx hb dX6_known_22 (by decide) rfl rfl (fun c_3 => ?_) (fun c_3 => ?_)
        · refine mm_iinc (X := i.toInt) (v := (-1)) (lv2 := fun z => [(6, .int z), (0, .ref h0), (1, .int p0), (2, .int p1), (3, .int p2), (4, .int p3), (5, .int p4)]) hx hb dX6_known_78 hl (k := 6) rfl rfl (by decide) num_m1 (by omega) (by decide) (fun _ => rfl) (fun z_4 ls hz_4 hl => ?_)
          have hl : lv_has ls 7 [(6, .int z_4), (0, .ref h0), (1, .int p0), (2, .int p1), (3, .int p2), (4, .int p3), (5, .int p4)] := hl
          refine lv_goto (tgt := 8) hx hb dX6_known_81 (by decide) ?_
          exact ih_8 _ _ _ Fc_8 Gc_8 z_4 (show ((-1) ≤ z_4.toInt ∧ z_4.toInt ≤ 399) from by omega) (show z_4.toInt < (F 31).toInt from by omega) (show kN G p0.toInt p1.toInt p2.toInt p3.toInt p4.toInt (F 31).toInt.toNat = kN G p0.toInt p1.toInt p2.toInt p3.toInt p4.toInt (z_4.toInt + 1).toNat from by rw [f8_2, show (i.toInt + 1).toNat = Int32.toNatClampNeg i + 1 from by rw [mm_nat]; omega, show (z_4.toInt + 1).toNat = Int32.toNatClampNeg i from by rw [mm_nat]; omega]; simp only [kN]; rw [if_neg (by omega)]) (show (z_4.toInt + 1) < ((n_8 : Nat) : Int) from by omega) hM (lv_sub hl [1, 2, 3, 4, 5, 6, 0] rfl)
        · refine lv_aload_n hx hb dX6_known_25 rfl (lv_at hl 0 rfl) ?_
          refine mr_get (v := .ref (q 32)) E hM 32 (by decide) (index := 84) (mm_at 2 rfl) rfl rfl dX6_known_26 ?_
          refine lv_iload hx hb dX6_known_29 (lv_at hl 6 rfl) ?_
          refine mr_ald (X := i.toInt) E hM 24 23 rfl rfl rfl (by omega) dX6_known_31 ?_
          have gq_5 : (Gc_8 32 (Int32.toNatClampNeg i)).toInt = (G 32 (Int32.toNatClampNeg i)).toInt := congrArg Int32.toInt (congrFun ((hfr_8.2 32 (by decide)).trans rfl) _)
          refine lv_iload_n hx hb dX6_known_32 rfl (lv_at hl 1 rfl) ?_
          refine mm_icmp_ne (X := (Gc_8 32 (Int32.toNatClampNeg i)).toInt) (Y := p0.toInt) (tgt := 78) hx hb dX6_known_33 (by decide) rfl rfl (fun c_6 => ?_) (fun c_6 => ?_)
          · refine mm_iinc (X := i.toInt) (v := (-1)) (lv2 := fun z => [(6, .int z), (0, .ref h0), (1, .int p0), (2, .int p1), (3, .int p2), (4, .int p3), (5, .int p4)]) hx hb dX6_known_78 hl (k := 6) rfl rfl (by decide) num_m1 (by omega) (by decide) (fun _ => rfl) (fun z_7 ls hz_7 hl => ?_)
            have hl : lv_has ls 7 [(6, .int z_7), (0, .ref h0), (1, .int p0), (2, .int p1), (3, .int p2), (4, .int p3), (5, .int p4)] := hl
            refine lv_goto (tgt := 8) hx hb dX6_known_81 (by decide) ?_
            exact ih_8 _ _ _ Fc_8 Gc_8 z_7 (show ((-1) ≤ z_7.toInt ∧ z_7.toInt ≤ 399) from by omega) (show z_7.toInt < (F 31).toInt from by omega) (show kN G p0.toInt p1.toInt p2.toInt p3.toInt p4.toInt (F 31).toInt.toNat = kN G p0.toInt p1.toInt p2.toInt p3.toInt p4.toInt (z_7.toInt + 1).toNat from by rw [f8_2, show (i.toInt + 1).toNat = Int32.toNatClampNeg i + 1 from by rw [mm_nat]; omega, show (z_7.toInt + 1).toNat = Int32.toNatClampNeg i from by rw [mm_nat]; omega]; simp only [kN]; rw [if_neg (by omega)]) (show (z_7.toInt + 1) < ((n_8 : Nat) : Int) from by omega) hM (lv_sub hl [1, 2, 3, 4, 5, 6, 0] rfl)
          · refine lv_aload_n hx hb dX6_known_36 rfl (lv_at hl 0 rfl) ?_
            refine mr_get (v := .ref (q 33)) E hM 33 (by decide) (index := 87) (mm_at 3 rfl) rfl rfl dX6_known_37 ?_
            refine lv_iload hx hb dX6_known_40 (lv_at hl 6 rfl) ?_
            refine mr_ald (X := i.toInt) E hM 25 24 rfl rfl rfl (by omega) dX6_known_42 ?_
            have gq_8 : (Gc_8 33 (Int32.toNatClampNeg i)).toInt = (G 33 (Int32.toNatClampNeg i)).toInt := congrArg Int32.toInt (congrFun ((hfr_8.2 33 (by decide)).trans rfl) _)
            refine lv_iload_n hx hb dX6_known_43 rfl (lv_at hl 2 rfl) ?_
            refine mm_icmp_ne (X := (Gc_8 33 (Int32.toNatClampNeg i)).toInt) (Y := p1.toInt) (tgt := 78) hx hb dX6_known_44 (by decide) rfl rfl (fun c_9 => ?_) (fun c_9 => ?_)
            · refine mm_iinc (X := i.toInt) (v := (-1)) (lv2 := fun z => [(6, .int z), (0, .ref h0), (1, .int p0), (2, .int p1), (3, .int p2), (4, .int p3), (5, .int p4)]) hx hb dX6_known_78 hl (k := 6) rfl rfl (by decide) num_m1 (by omega) (by decide) (fun _ => rfl) (fun z_10 ls hz_10 hl => ?_)
              have hl : lv_has ls 7 [(6, .int z_10), (0, .ref h0), (1, .int p0), (2, .int p1), (3, .int p2), (4, .int p3), (5, .int p4)] := hl
              refine lv_goto (tgt := 8) hx hb dX6_known_81 (by decide) ?_
              exact ih_8 _ _ _ Fc_8 Gc_8 z_10 (show ((-1) ≤ z_10.toInt ∧ z_10.toInt ≤ 399) from by omega) (show z_10.toInt < (F 31).toInt from by omega) (show kN G p0.toInt p1.toInt p2.toInt p3.toInt p4.toInt (F 31).toInt.toNat = kN G p0.toInt p1.toInt p2.toInt p3.toInt p4.toInt (z_10.toInt + 1).toNat from by rw [f8_2, show (i.toInt + 1).toNat = Int32.toNatClampNeg i + 1 from by rw [mm_nat]; omega, show (z_10.toInt + 1).toNat = Int32.toNatClampNeg i from by rw [mm_nat]; omega]; simp only [kN]; rw [if_neg (by omega)]) (show (z_10.toInt + 1) < ((n_8 : Nat) : Int) from by omega) hM (lv_sub hl [1, 2, 3, 4, 5, 6, 0] rfl)
            · refine lv_aload_n hx hb dX6_known_47 rfl (lv_at hl 0 rfl) ?_
              refine mr_get (v := .ref (q 34)) E hM 34 (by decide) (index := 90) (mm_at 4 rfl) rfl rfl dX6_known_48 ?_
              refine lv_iload hx hb dX6_known_51 (lv_at hl 6 rfl) ?_
              refine mr_ald (X := i.toInt) E hM 26 25 rfl rfl rfl (by omega) dX6_known_53 ?_
              have gq_11 : (Gc_8 34 (Int32.toNatClampNeg i)).toInt = (G 34 (Int32.toNatClampNeg i)).toInt := congrArg Int32.toInt (congrFun ((hfr_8.2 34 (by decide)).trans rfl) _)
              refine lv_iload_n hx hb dX6_known_54 rfl (lv_at hl 3 rfl) ?_
              refine mm_icmp_ne (X := (Gc_8 34 (Int32.toNatClampNeg i)).toInt) (Y := p2.toInt) (tgt := 78) hx hb dX6_known_55 (by decide) rfl rfl (fun c_12 => ?_) (fun c_12 => ?_)
              · refine mm_iinc (X := i.toInt) (v := (-1)) (lv2 := fun z => [(6, .int z), (0, .ref h0), (1, .int p0), (2, .int p1), (3, .int p2), (4, .int p3), (5, .int p4)]) hx hb dX6_known_78 hl (k := 6) rfl rfl (by decide) num_m1 (by omega) (by decide) (fun _ => rfl) (fun z_13 ls hz_13 hl => ?_)
                have hl : lv_has ls 7 [(6, .int z_13), (0, .ref h0), (1, .int p0), (2, .int p1), (3, .int p2), (4, .int p3), (5, .int p4)] := hl
                refine lv_goto (tgt := 8) hx hb dX6_known_81 (by decide) ?_
                exact ih_8 _ _ _ Fc_8 Gc_8 z_13 (show ((-1) ≤ z_13.toInt ∧ z_13.toInt ≤ 399) from by omega) (show z_13.toInt < (F 31).toInt from by omega) (show kN G p0.toInt p1.toInt p2.toInt p3.toInt p4.toInt (F 31).toInt.toNat = kN G p0.toInt p1.toInt p2.toInt p3.toInt p4.toInt (z_13.toInt + 1).toNat from by rw [f8_2, show (i.toInt + 1).toNat = Int32.toNatClampNeg i + 1 from by rw [mm_nat]; omega, show (z_13.toInt + 1).toNat = Int32.toNatClampNeg i from by rw [mm_nat]; omega]; simp only [kN]; rw [if_neg (by omega)]) (show (z_13.toInt + 1) < ((n_8 : Nat) : Int) from by omega) hM (lv_sub hl [1, 2, 3, 4, 5, 6, 0] rfl)
              · refine lv_aload_n hx hb dX6_known_58 rfl (lv_at hl 0 rfl) ?_
                refine mr_get (v := .ref (q 35)) E hM 35 (by decide) (index := 93) (mm_at 5 rfl) rfl rfl dX6_known_59 ?_
                refine lv_iload hx hb dX6_known_62 (lv_at hl 6 rfl) ?_
                refine mr_ald (X := i.toInt) E hM 27 26 rfl rfl rfl (by omega) dX6_known_64 ?_
                have gq_14 : (Gc_8 35 (Int32.toNatClampNeg i)).toInt = (G 35 (Int32.toNatClampNeg i)).toInt := congrArg Int32.toInt (congrFun ((hfr_8.2 35 (by decide)).trans rfl) _)
                refine lv_iload hx hb dX6_known_65 (lv_at hl 4 rfl) ?_
                refine mm_icmp_ne (X := (Gc_8 35 (Int32.toNatClampNeg i)).toInt) (Y := p3.toInt) (tgt := 78) hx hb dX6_known_67 (by decide) rfl rfl (fun c_15 => ?_) (fun c_15 => ?_)
                · refine mm_iinc (X := i.toInt) (v := (-1)) (lv2 := fun z => [(6, .int z), (0, .ref h0), (1, .int p0), (2, .int p1), (3, .int p2), (4, .int p3), (5, .int p4)]) hx hb dX6_known_78 hl (k := 6) rfl rfl (by decide) num_m1 (by omega) (by decide) (fun _ => rfl) (fun z_16 ls hz_16 hl => ?_)
                  have hl : lv_has ls 7 [(6, .int z_16), (0, .ref h0), (1, .int p0), (2, .int p1), (3, .int p2), (4, .int p3), (5, .int p4)] := hl
                  refine lv_goto (tgt := 8) hx hb dX6_known_81 (by decide) ?_
                  exact ih_8 _ _ _ Fc_8 Gc_8 z_16 (show ((-1) ≤ z_16.toInt ∧ z_16.toInt ≤ 399) from by omega) (show z_16.toInt < (F 31).toInt from by omega) (show kN G p0.toInt p1.toInt p2.toInt p3.toInt p4.toInt (F 31).toInt.toNat = kN G p0.toInt p1.toInt p2.toInt p3.toInt p4.toInt (z_16.toInt + 1).toNat from by rw [f8_2, show (i.toInt + 1).toNat = Int32.toNatClampNeg i + 1 from by rw [mm_nat]; omega, show (z_16.toInt + 1).toNat = Int32.toNatClampNeg i from by rw [mm_nat]; omega]; simp only [kN]; rw [if_neg (by omega)]) (show (z_16.toInt + 1) < ((n_8 : Nat) : Int) from by omega) hM (lv_sub hl [1, 2, 3, 4, 5, 6, 0] rfl)
                · refine lv_aload_n hx hb dX6_known_70 rfl (lv_at hl 0 rfl) ?_
                  refine mr_get (v := .ref (q 36)) E hM 36 (by decide) (index := 96) (mm_at 6 rfl) rfl rfl dX6_known_71 ?_
                  refine lv_iload hx hb dX6_known_74 (lv_at hl 6 rfl) ?_
                  refine mr_ald (X := i.toInt) E hM 28 27 rfl rfl rfl (by omega) dX6_known_76 ?_
                  have gq_17 : (Gc_8 36 (Int32.toNatClampNeg i)).toInt = (G 36 (Int32.toNatClampNeg i)).toInt := congrArg Int32.toInt (congrFun ((hfr_8.2 36 (by decide)).trans rfl) _)
                  exact mr_ri E hr hlk hsz hM (show (Gc_8 36 (Int32.toNatClampNeg i)).toInt = kN G p0.toInt p1.toInt p2.toInt p3.toInt p4.toInt (F 31).toInt.toNat from by rw [f8_2, show (i.toInt + 1).toNat = Int32.toNatClampNeg i + 1 from by rw [mm_nat]; omega]; simp only [kN]; rw [if_pos (by omega)]; omega) dX6_known_77
  refine lv_aload_n hx hb dX6_known_0 rfl (lv_at hl 0 rfl) ?_
  have b_18 : 0 ≤ (F 31).toInt ∧ (F 31).toInt ≤ 400 := hM.fb 31 rfl
  refine mr_get (v := .int (F 31)) E hM 31 (by decide) (index := 217) (mm_at 7 rfl) rfl rfl dX6_known_1 ?_
  refine lv_iconst (v := 1) hx hb dX6_known_4 (by decide) ?_
  refine mm_isub (X := (F 31).toInt) (Y := 1) hx hb dX6_known_5 rfl num_1 (by omega) (fun z_19 hz_19 => ?_)
  refine lv_istore (lv' := [(6, .int z_19), (0, .ref h0), (1, .int p0), (2, .int p1), (3, .int p2), (4, .int p3), (5, .int p4)]) hx hb dX6_known_6 hl (by decide) rfl (fun ls hl => ?_)
  exact B_8 4294967296 _ _ _ F G z_19 (show ((-1) ≤ z_19.toInt ∧ z_19.toInt ≤ 399) from by omega) (show z_19.toInt < (F 31).toInt from by omega) (show kN G p0.toInt p1.toInt p2.toInt p3.toInt p4.toInt (F 31).toInt.toNat = kN G p0.toInt p1.toInt p2.toInt p3.toInt p4.toInt (z_19.toInt + 1).toNat from by rw [show (z_19.toInt + 1).toNat = (F 31).toInt.toNat from by omega]) (show (z_19.toInt + 1) < ((4294967296 : Nat) : Int) from by omega) hM (lv_sub hl [1, 2, 3, 4, 5, 6, 0] rfl)
def w7X6_hits : List Cond := .code yX6_hits cX6_hits 3 (some .int) :: ([] ++ wsX60)
set_option maxHeartbeats 4000000 in
set_option maxRecDepth 100000 in
theorem g7_X6_hits (l : Launch) (D : va_G) (h0 : Nat) (q : Nat → Nat) (cq : Nat → ClassId) (F : Nat → Int32) (G : Nat → Nat → Int32) (sz : Nat) (p0 : Int32) (hI : mI F G) (k0 : 0 ≤ p0.toInt ∧ p0.toInt ≤ 31) : Met l yX6_hits w7X6_hits ({ frames := 0, cells := 0, slots := 0, locals := 0 }) (mPre D h0 q cq F G sz [.int p0]) (mQi D h0 q cq F G sz [] [] (fun r F' G' => r.toInt = hB p0.toInt)) 0 0 (va_A (mW h0 q cq F G) sz) := by
  refine mr_met (WF := []) (WG := []) (cc := cX6_hits) (maxL := 3) (ret := (some .int)) (by decide) rfl rfl (by decide +kernel) (Nat.le_of_ble_eq_true rfl) hI ?_
  intro p e s m args below meth c ls E hml hr hlk hsz hA hM hl
  have hx := E.1
  have hb := E.2.1
  have hts := E.2.2.1
  have hown := E.2.2.2.2.1
  have hl : lv_has ls 3 [(0, .int p0)] := hl
  refine lv_iconst (v := 0) hx hb dX6_hits_0 (by decide) ?_
  refine lv_istore_n (lv' := [(1, .int 0), (0, .int p0)]) hx hb dX6_hits_1 rfl hl (by decide) rfl (fun ls hl => ?_)
  refine lv_iconst (v := 0) hx hb dX6_hits_2 (by decide) ?_
  refine lv_istore_n (lv' := [(2, .int 0), (1, .int 0), (0, .int p0)]) hx hb dX6_hits_3 rfl hl (by decide) rfl (fun ls hl => ?_)
  refine lv_iload_n hx hb dX6_hits_4 rfl (lv_at hl 0 rfl) ?_
  refine lv_iconst (v := 5) hx hb dX6_hits_5 (by decide) ?_
  refine mm_icmp_ge (X := 0) (Y := 5) (tgt := 23) hx hb dX6_hits_6 (by decide) num_0 num_5 (fun c_1 => False.elim (by omega)) (fun c_1 => ?_)
  refine lv_iload_n hx hb dX6_hits_9 rfl (lv_at hl 1 rfl) ?_
  refine lv_iload_n hx hb dX6_hits_10 rfl (lv_at hl 2 rfl) ?_
  refine lv_iload_n hx hb dX6_hits_11 rfl (lv_at hl 0 rfl) ?_
  refine lv_ishr hx hb dX6_hits_12 ?_
  refine lv_iconst (v := 1) hx hb dX6_hits_13 (by decide) ?_
  refine lv_iand hx hb dX6_hits_14 ?_
  have hb_0 : ((p0 >>> ((0 : Int32) &&& 31)) &&& (1 : Int32)).toInt = p0.toInt / 1 % 2 := wk_bit0 k0 (k := (0 : Int32)) (by decide)
  refine mm_iadd (X := 0) (Y := ((p0 >>> ((0 : Int32) &&& 31)) &&& (1 : Int32)).toInt) hx hb dX6_hits_15 num_0 rfl (by omega) (fun z_2 hz_2 => ?_)
  refine lv_istore_n (lv' := [(1, .int z_2), (2, .int 0), (0, .int p0)]) hx hb dX6_hits_16 rfl hl (by decide) rfl (fun ls hl => ?_)
  refine mm_iinc (X := 0) (v := 1) (lv2 := fun z => [(2, .int z), (1, .int z_2), (0, .int p0)]) hx hb dX6_hits_17 hl (k := 1) rfl num_0 (by decide) num_1 (by omega) (by decide) (fun _ => rfl) (fun z_3 ls hz_3 hl => ?_)
  have hl : lv_has ls 3 [(2, .int z_3), (1, .int z_2), (0, .int p0)] := hl
  refine lv_goto (tgt := 4) hx hb dX6_hits_20 (by decide) ?_
  refine lv_iload_n hx hb dX6_hits_4 rfl (lv_at hl 0 rfl) ?_
  refine lv_iconst (v := 5) hx hb dX6_hits_5 (by decide) ?_
  refine mm_icmp_ge (X := z_3.toInt) (Y := 5) (tgt := 23) hx hb dX6_hits_6 (by decide) rfl num_5 (fun c_4 => False.elim (by omega)) (fun c_4 => ?_)
  refine lv_iload_n hx hb dX6_hits_9 rfl (lv_at hl 1 rfl) ?_
  refine lv_iload_n hx hb dX6_hits_10 rfl (lv_at hl 2 rfl) ?_
  refine lv_iload_n hx hb dX6_hits_11 rfl (lv_at hl 0 rfl) ?_
  refine lv_ishr hx hb dX6_hits_12 ?_
  refine lv_iconst (v := 1) hx hb dX6_hits_13 (by decide) ?_
  refine lv_iand hx hb dX6_hits_14 ?_
  have hb_1 : ((p0 >>> (z_3 &&& 31)) &&& (1 : Int32)).toInt = p0.toInt / 2 % 2 := wk_bit1 k0 (k := z_3) (by omega)
  refine mm_iadd (X := z_2.toInt) (Y := ((p0 >>> (z_3 &&& 31)) &&& (1 : Int32)).toInt) hx hb dX6_hits_15 rfl rfl (by omega) (fun z_5 hz_5 => ?_)
  refine lv_istore_n (lv' := [(1, .int z_5), (2, .int z_3), (0, .int p0)]) hx hb dX6_hits_16 rfl hl (by decide) rfl (fun ls hl => ?_)
  refine mm_iinc (X := z_3.toInt) (v := 1) (lv2 := fun z => [(2, .int z), (1, .int z_5), (0, .int p0)]) hx hb dX6_hits_17 hl (k := 1) rfl rfl (by decide) num_1 (by omega) (by decide) (fun _ => rfl) (fun z_6 ls hz_6 hl => ?_)
  have hl : lv_has ls 3 [(2, .int z_6), (1, .int z_5), (0, .int p0)] := hl
  refine lv_goto (tgt := 4) hx hb dX6_hits_20 (by decide) ?_
  refine lv_iload_n hx hb dX6_hits_4 rfl (lv_at hl 0 rfl) ?_
  refine lv_iconst (v := 5) hx hb dX6_hits_5 (by decide) ?_
  refine mm_icmp_ge (X := z_6.toInt) (Y := 5) (tgt := 23) hx hb dX6_hits_6 (by decide) rfl num_5 (fun c_7 => False.elim (by omega)) (fun c_7 => ?_)
  refine lv_iload_n hx hb dX6_hits_9 rfl (lv_at hl 1 rfl) ?_
  refine lv_iload_n hx hb dX6_hits_10 rfl (lv_at hl 2 rfl) ?_
  refine lv_iload_n hx hb dX6_hits_11 rfl (lv_at hl 0 rfl) ?_
  refine lv_ishr hx hb dX6_hits_12 ?_
  refine lv_iconst (v := 1) hx hb dX6_hits_13 (by decide) ?_
  refine lv_iand hx hb dX6_hits_14 ?_
  have hb_2 : ((p0 >>> (z_6 &&& 31)) &&& (1 : Int32)).toInt = p0.toInt / 4 % 2 := wk_bit2 k0 (k := z_6) (by omega)
  refine mm_iadd (X := z_5.toInt) (Y := ((p0 >>> (z_6 &&& 31)) &&& (1 : Int32)).toInt) hx hb dX6_hits_15 rfl rfl (by omega) (fun z_8 hz_8 => ?_)
  refine lv_istore_n (lv' := [(1, .int z_8), (2, .int z_6), (0, .int p0)]) hx hb dX6_hits_16 rfl hl (by decide) rfl (fun ls hl => ?_)
  refine mm_iinc (X := z_6.toInt) (v := 1) (lv2 := fun z => [(2, .int z), (1, .int z_8), (0, .int p0)]) hx hb dX6_hits_17 hl (k := 1) rfl rfl (by decide) num_1 (by omega) (by decide) (fun _ => rfl) (fun z_9 ls hz_9 hl => ?_)
  have hl : lv_has ls 3 [(2, .int z_9), (1, .int z_8), (0, .int p0)] := hl
  refine lv_goto (tgt := 4) hx hb dX6_hits_20 (by decide) ?_
  refine lv_iload_n hx hb dX6_hits_4 rfl (lv_at hl 0 rfl) ?_
  refine lv_iconst (v := 5) hx hb dX6_hits_5 (by decide) ?_
  refine mm_icmp_ge (X := z_9.toInt) (Y := 5) (tgt := 23) hx hb dX6_hits_6 (by decide) rfl num_5 (fun c_10 => False.elim (by omega)) (fun c_10 => ?_)
  refine lv_iload_n hx hb dX6_hits_9 rfl (lv_at hl 1 rfl) ?_
  refine lv_iload_n hx hb dX6_hits_10 rfl (lv_at hl 2 rfl) ?_
  refine lv_iload_n hx hb dX6_hits_11 rfl (lv_at hl 0 rfl) ?_
  refine lv_ishr hx hb dX6_hits_12 ?_
  refine lv_iconst (v := 1) hx hb dX6_hits_13 (by decide) ?_
  refine lv_iand hx hb dX6_hits_14 ?_
  have hb_3 : ((p0 >>> (z_9 &&& 31)) &&& (1 : Int32)).toInt = p0.toInt / 8 % 2 := wk_bit3 k0 (k := z_9) (by omega)
  refine mm_iadd (X := z_8.toInt) (Y := ((p0 >>> (z_9 &&& 31)) &&& (1 : Int32)).toInt) hx hb dX6_hits_15 rfl rfl (by omega) (fun z_11 hz_11 => ?_)
  refine lv_istore_n (lv' := [(1, .int z_11), (2, .int z_9), (0, .int p0)]) hx hb dX6_hits_16 rfl hl (by decide) rfl (fun ls hl => ?_)
  refine mm_iinc (X := z_9.toInt) (v := 1) (lv2 := fun z => [(2, .int z), (1, .int z_11), (0, .int p0)]) hx hb dX6_hits_17 hl (k := 1) rfl rfl (by decide) num_1 (by omega) (by decide) (fun _ => rfl) (fun z_12 ls hz_12 hl => ?_)
  have hl : lv_has ls 3 [(2, .int z_12), (1, .int z_11), (0, .int p0)] := hl
  refine lv_goto (tgt := 4) hx hb dX6_hits_20 (by decide) ?_
  refine lv_iload_n hx hb dX6_hits_4 rfl (lv_at hl 0 rfl) ?_
  refine lv_iconst (v := 5) hx hb dX6_hits_5 (by decide) ?_
  refine mm_icmp_ge (X := z_12.toInt) (Y := 5) (tgt := 23) hx hb dX6_hits_6 (by decide) rfl num_5 (fun c_13 => False.elim (by omega)) (fun c_13 => ?_)
  refine lv_iload_n hx hb dX6_hits_9 rfl (lv_at hl 1 rfl) ?_
  refine lv_iload_n hx hb dX6_hits_10 rfl (lv_at hl 2 rfl) ?_
  refine lv_iload_n hx hb dX6_hits_11 rfl (lv_at hl 0 rfl) ?_
  refine lv_ishr hx hb dX6_hits_12 ?_
  refine lv_iconst (v := 1) hx hb dX6_hits_13 (by decide) ?_
  refine lv_iand hx hb dX6_hits_14 ?_
  have hb_4 : ((p0 >>> (z_12 &&& 31)) &&& (1 : Int32)).toInt = p0.toInt / 16 % 2 := wk_bit4 k0 (k := z_12) (by omega)
  refine mm_iadd (X := z_11.toInt) (Y := ((p0 >>> (z_12 &&& 31)) &&& (1 : Int32)).toInt) hx hb dX6_hits_15 rfl rfl (by omega) (fun z_14 hz_14 => ?_)
  refine lv_istore_n (lv' := [(1, .int z_14), (2, .int z_12), (0, .int p0)]) hx hb dX6_hits_16 rfl hl (by decide) rfl (fun ls hl => ?_)
  refine mm_iinc (X := z_12.toInt) (v := 1) (lv2 := fun z => [(2, .int z), (1, .int z_14), (0, .int p0)]) hx hb dX6_hits_17 hl (k := 1) rfl rfl (by decide) num_1 (by omega) (by decide) (fun _ => rfl) (fun z_15 ls hz_15 hl => ?_)
  have hl : lv_has ls 3 [(2, .int z_15), (1, .int z_14), (0, .int p0)] := hl
  refine lv_goto (tgt := 4) hx hb dX6_hits_20 (by decide) ?_
  refine lv_iload_n hx hb dX6_hits_4 rfl (lv_at hl 0 rfl) ?_
  refine lv_iconst (v := 5) hx hb dX6_hits_5 (by decide) ?_
  refine mm_icmp_ge (X := z_15.toInt) (Y := 5) (tgt := 23) hx hb dX6_hits_6 (by decide) rfl num_5 (fun c_16 => ?_) (fun c_16 => False.elim (by omega))
  refine lv_iload_n hx hb dX6_hits_23 rfl (lv_at hl 1 rfl) ?_
  exact mr_ri E hr hlk hsz hM (show z_14.toInt = hB p0.toInt from by unfold hB; omega) dX6_hits_24
def w7X6_least : List Cond := .code yX6_least cX6_least 4 (some .int) :: ([.fieldLink RX6 197 "SkiShotsModel" "racers" "I", .fieldLink RX6 81 "SkiShotsModel" "entryOf" "[I", .fieldLink RX6 108 "SkiShotsModel" "low" "[I"] ++ wsX60)
set_option maxHeartbeats 4000000 in
set_option maxRecDepth 100000 in
theorem g7_X6_least (l : Launch) (D : va_G) (h0 : Nat) (q : Nat → Nat) (cq : Nat → ClassId) (F : Nat → Int32) (G : Nat → Nat → Int32) (sz : Nat) (p0 : Int32) (hI : mI F G) (k0 : 0 ≤ p0.toInt ∧ p0.toInt < 8) : Met l yX6_least w7X6_least ({ frames := 0, cells := 0, slots := 0, locals := 0 }) (mPre D h0 q cq F G sz [.ref h0, .int p0]) (mQi D h0 q cq F G sz [] [] (fun r F' G' => lMn G (Int32.toNatClampNeg p0) (Int32.toNatClampNeg (F 15)) r.toInt)) 0 0 (va_A (mW h0 q cq F G) sz) := by
  refine mr_met (WF := []) (WG := []) (cc := cX6_least) (maxL := 4) (ret := (some .int)) (by decide) rfl rfl (by decide +kernel) (Nat.le_of_ble_eq_true rfl) hI ?_
  intro p e s m args below meth c ls E hml hr hlk hsz hA hM hl
  have hx := E.1
  have hb := E.2.1
  have hts := E.2.2.1
  have hown := E.2.2.2.2.1
  have hl : lv_has ls 4 [(0, .ref h0), (1, .int p0)] := hl
  have B_4 : ∀ n_4 : Nat, ∀ (H : Heap) (locs : List Loc) (ls : Array Slot) (Fc_4 : Nat → Int32) (Gc_4 : Nat → Nat → Int32) (b w : Int32), (0 ≤ w.toInt ∧ w.toInt ≤ 16) → w.toInt ≤ (F 15).toInt → lMn G (Int32.toNatClampNeg p0) (Int32.toNatClampNeg w) b.toInt → (16 - w.toInt) < (n_4 : Int) → mQ D h0 q cq (va_A (mW h0 q cq F G) sz) s.heap [] [] F G H locs Fc_4 Gc_4 → lv_has ls 4 [(0, .ref h0), (1, .int p0), (2, .int b), (3, .int w)] → W p l e ({ frames := 0, cells := 0, slots := 0, locals := 0 }) s m args below meth c H locs 0 0 (MQ below (mQi D h0 q cq F G sz [] [] (fun r F' G' => lMn G (Int32.toNatClampNeg p0) (Int32.toNatClampNeg (F 15)) r.toInt)) args s 0 0 (va_A (mW h0 q cq F G) sz)) (F0 m 4 ls []) := by
    intro n_4
    induction n_4 with
    | zero => intro H locs ls Fc_4 Gc_4 b w f4_0 f4_1 f4_2 hn hM hl; exact False.elim (by have hfr_4 := hM.fr; omega)
    | succ n_4 ih_4 =>
      intro H locs ls Fc_4 Gc_4 b w f4_0 f4_1 f4_2 hn hM hl
      have hfr_4 := hM.fr
      refine lv_iload_n hx hb dX6_least_4 rfl (lv_at hl 3 rfl) ?_
      refine lv_aload_n hx hb dX6_least_5 rfl (lv_at hl 0 rfl) ?_
      have b_1 : 0 ≤ (Fc_4 15).toInt ∧ (Fc_4 15).toInt ≤ 16 := hM.fb 15 rfl
      have e_2 : (Fc_4 15).toInt = (F 15).toInt := (congrArg Int32.toInt (hfr_4.1 15 (by decide))).trans rfl
      refine mr_get (v := .int (Fc_4 15)) E hM 15 (by decide) (index := 197) (mm_at 1 rfl) rfl rfl dX6_least_6 ?_
      refine mm_icmp_ge (X := w.toInt) (Y := (Fc_4 15).toInt) (tgt := 77) hx hb dX6_least_9 (by decide) rfl rfl (fun c_3 => ?_) (fun c_3 => ?_)
      · refine lv_iload_n hx hb dX6_least_77 rfl (lv_at hl 2 rfl) ?_
        exact mr_ri E hr hlk hsz hM (show lMn G (Int32.toNatClampNeg p0) (Int32.toNatClampNeg (F 15)) b.toInt from by rw [show Int32.toNatClampNeg (F 15) = Int32.toNatClampNeg w from by simp only [mm_nat]; omega]; exact f4_2) dX6_least_78
      · refine lv_aload_n hx hb dX6_least_12 rfl (lv_at hl 0 rfl) ?_
        refine mr_get (v := .ref (q 30)) E hM 30 (by decide) (index := 81) (mm_at 2 rfl) rfl rfl dX6_least_13 ?_
        refine lv_bipush (v := 16) hx hb dX6_least_16 (by decide) ?_
        refine lv_iload_n hx hb dX6_least_18 rfl (lv_at hl 1 rfl) ?_
        refine mm_imul (X := 16) (Y := p0.toInt) hx hb dX6_least_19 num_16 rfl (by omega) (fun z_4 hz_4 => ?_)
        refine lv_iload_n hx hb dX6_least_20 rfl (lv_at hl 3 rfl) ?_
        refine mm_iadd (X := z_4.toInt) (Y := w.toInt) hx hb dX6_least_21 rfl rfl (by omega) (fun z_5 hz_5 => ?_)
        have ex_6 : (G 30 (Int32.toNatClampNeg z_5)).toInt = (G 30 (16 * Int32.toNatClampNeg p0 + Int32.toNatClampNeg w)).toInt := by rw [show Int32.toNatClampNeg z_5 = 16 * Int32.toNatClampNeg p0 + Int32.toNatClampNeg w from by simp only [mm_nat]; omega]
        refine mr_ald (X := z_5.toInt) E hM 23 22 rfl rfl rfl (by omega) dX6_least_22 ?_
        have b_7 : -1 ≤ (Gc_4 30 (Int32.toNatClampNeg z_5)).toInt ∧ (Gc_4 30 (Int32.toNatClampNeg z_5)).toInt ≤ 15 := hM.ab 30 rfl _
        have gq_8 : (Gc_4 30 (Int32.toNatClampNeg z_5)).toInt = (G 30 (Int32.toNatClampNeg z_5)).toInt := congrArg Int32.toInt (congrFun ((hfr_4.2 30 (by decide)).trans rfl) _)
        refine mm_if_lt (X := (Gc_4 30 (Int32.toNatClampNeg z_5)).toInt) (tgt := 71) hx hb dX6_least_23 (by decide) rfl (fun c_9 => ?_) (fun c_9 => ?_)
        · refine mm_iinc (X := w.toInt) (v := 1) (lv2 := fun z => [(3, .int z), (0, .ref h0), (1, .int p0), (2, .int b)]) hx hb dX6_least_71 hl (k := 3) rfl rfl (by decide) num_1 (by omega) (by decide) (fun _ => rfl) (fun z_10 ls hz_10 hl => ?_)
          have hl : lv_has ls 4 [(3, .int z_10), (0, .ref h0), (1, .int p0), (2, .int b)] := hl
          refine lv_goto (tgt := 4) hx hb dX6_least_74 (by decide) ?_
          exact ih_4 _ _ _ Fc_4 Gc_4 b z_10 (show (0 ≤ z_10.toInt ∧ z_10.toInt ≤ 16) from by omega) (show z_10.toInt ≤ (F 15).toInt from by omega) (show lMn G (Int32.toNatClampNeg p0) (Int32.toNatClampNeg z_10) b.toInt from by rw [show Int32.toNatClampNeg z_10 = Int32.toNatClampNeg w + 1 from by simp only [mm_nat]; omega]; first | exact lMn_skip f4_2 (by omega) | exact lMn_keep f4_2 (by omega) (by omega)) (show (16 - z_10.toInt) < ((n_4 : Nat) : Int) from by omega) hM (lv_sub hl [1, 2, 3, 0] rfl)
        · refine lv_aload_n hx hb dX6_least_26 rfl (lv_at hl 0 rfl) ?_
          refine mr_get (v := .ref (q 46)) E hM 46 (by decide) (index := 108) (mm_at 3 rfl) rfl rfl dX6_least_27 ?_
          refine lv_bipush (v := 16) hx hb dX6_least_30 (by decide) ?_
          refine lv_iload_n hx hb dX6_least_32 rfl (lv_at hl 1 rfl) ?_
          refine mm_imul (X := 16) (Y := p0.toInt) hx hb dX6_least_33 num_16 rfl (by omega) (fun z_11 hz_11 => ?_)
          refine lv_iload_n hx hb dX6_least_34 rfl (lv_at hl 3 rfl) ?_
          refine mm_iadd (X := z_11.toInt) (Y := w.toInt) hx hb dX6_least_35 rfl rfl (by omega) (fun z_12 hz_12 => ?_)
          have ex_13 : (G 46 (Int32.toNatClampNeg z_12)).toInt = (G 46 (16 * Int32.toNatClampNeg p0 + Int32.toNatClampNeg w)).toInt := by rw [show Int32.toNatClampNeg z_12 = 16 * Int32.toNatClampNeg p0 + Int32.toNatClampNeg w from by simp only [mm_nat]; omega]
          refine mr_ald (X := z_12.toInt) E hM 32 31 rfl rfl rfl (by omega) dX6_least_36 ?_
          have gq_14 : (Gc_4 46 (Int32.toNatClampNeg z_12)).toInt = (G 46 (Int32.toNatClampNeg z_12)).toInt := congrArg Int32.toInt (congrFun ((hfr_4.2 46 (by decide)).trans rfl) _)
          refine mm_if_lt (X := (Gc_4 46 (Int32.toNatClampNeg z_12)).toInt) (tgt := 71) hx hb dX6_least_37 (by decide) rfl (fun c_15 => ?_) (fun c_15 => ?_)
          · refine mm_iinc (X := w.toInt) (v := 1) (lv2 := fun z => [(3, .int z), (0, .ref h0), (1, .int p0), (2, .int b)]) hx hb dX6_least_71 hl (k := 3) rfl rfl (by decide) num_1 (by omega) (by decide) (fun _ => rfl) (fun z_16 ls hz_16 hl => ?_)
            have hl : lv_has ls 4 [(3, .int z_16), (0, .ref h0), (1, .int p0), (2, .int b)] := hl
            refine lv_goto (tgt := 4) hx hb dX6_least_74 (by decide) ?_
            exact ih_4 _ _ _ Fc_4 Gc_4 b z_16 (show (0 ≤ z_16.toInt ∧ z_16.toInt ≤ 16) from by omega) (show z_16.toInt ≤ (F 15).toInt from by omega) (show lMn G (Int32.toNatClampNeg p0) (Int32.toNatClampNeg z_16) b.toInt from by rw [show Int32.toNatClampNeg z_16 = Int32.toNatClampNeg w + 1 from by simp only [mm_nat]; omega]; first | exact lMn_skip f4_2 (by omega) | exact lMn_keep f4_2 (by omega) (by omega)) (show (16 - z_16.toInt) < ((n_4 : Nat) : Int) from by omega) hM (lv_sub hl [1, 2, 3, 0] rfl)
          · refine lv_iload_n hx hb dX6_least_40 rfl (lv_at hl 2 rfl) ?_
            refine mm_if_lt (X := b.toInt) (tgt := 59) hx hb dX6_least_41 (by decide) rfl (fun c_17 => ?_) (fun c_17 => ?_)
            · refine lv_aload_n hx hb dX6_least_59 rfl (lv_at hl 0 rfl) ?_
              refine mr_get (v := .ref (q 46)) E hM 46 (by decide) (index := 108) (mm_at 3 rfl) rfl rfl dX6_least_60 ?_
              refine lv_bipush (v := 16) hx hb dX6_least_63 (by decide) ?_
              refine lv_iload_n hx hb dX6_least_65 rfl (lv_at hl 1 rfl) ?_
              refine mm_imul (X := 16) (Y := p0.toInt) hx hb dX6_least_66 num_16 rfl (by omega) (fun z_18 hz_18 => ?_)
              refine lv_iload_n hx hb dX6_least_67 rfl (lv_at hl 3 rfl) ?_
              refine mm_iadd (X := z_18.toInt) (Y := w.toInt) hx hb dX6_least_68 rfl rfl (by omega) (fun z_19 hz_19 => ?_)
              have ex_20 : (G 46 (Int32.toNatClampNeg z_19)).toInt = (G 46 (16 * Int32.toNatClampNeg p0 + Int32.toNatClampNeg w)).toInt := by rw [show Int32.toNatClampNeg z_19 = 16 * Int32.toNatClampNeg p0 + Int32.toNatClampNeg w from by simp only [mm_nat]; omega]
              refine mr_ald (X := z_19.toInt) E hM 32 31 rfl rfl rfl (by omega) dX6_least_69 ?_
              have gq_21 : (Gc_4 46 (Int32.toNatClampNeg z_19)).toInt = (G 46 (Int32.toNatClampNeg z_19)).toInt := congrArg Int32.toInt (congrFun ((hfr_4.2 46 (by decide)).trans rfl) _)
              refine lv_istore_n (lv' := [(2, .int (Gc_4 46 (Int32.toNatClampNeg z_19))), (0, .ref h0), (1, .int p0), (3, .int w)]) hx hb dX6_least_70 rfl hl (by decide) rfl (fun ls hl => ?_)
              refine mm_iinc (X := w.toInt) (v := 1) (lv2 := fun z => [(3, .int z), (2, .int (Gc_4 46 (Int32.toNatClampNeg z_19))), (0, .ref h0), (1, .int p0)]) hx hb dX6_least_71 hl (k := 3) rfl rfl (by decide) num_1 (by omega) (by decide) (fun _ => rfl) (fun z_22 ls hz_22 hl => ?_)
              have hl : lv_has ls 4 [(3, .int z_22), (2, .int (Gc_4 46 (Int32.toNatClampNeg z_19))), (0, .ref h0), (1, .int p0)] := hl
              refine lv_goto (tgt := 4) hx hb dX6_least_74 (by decide) ?_
              exact ih_4 _ _ _ Fc_4 Gc_4 (Gc_4 46 (Int32.toNatClampNeg z_19)) z_22 (show (0 ≤ z_22.toInt ∧ z_22.toInt ≤ 16) from by omega) (show z_22.toInt ≤ (F 15).toInt from by omega) (show lMn G (Int32.toNatClampNeg p0) (Int32.toNatClampNeg z_22) (Gc_4 46 (Int32.toNatClampNeg z_19)).toInt from by rw [show Int32.toNatClampNeg z_22 = Int32.toNatClampNeg w + 1 from by simp only [mm_nat]; omega]; exact lMn_take f4_2 (by omega) (by omega) (by omega) (by omega)) (show (16 - z_22.toInt) < ((n_4 : Nat) : Int) from by omega) hM (lv_sub hl [2, 3, 1, 0] rfl)
            · refine lv_aload_n hx hb dX6_least_44 rfl (lv_at hl 0 rfl) ?_
              refine mr_get (v := .ref (q 46)) E hM 46 (by decide) (index := 108) (mm_at 3 rfl) rfl rfl dX6_least_45 ?_
              refine lv_bipush (v := 16) hx hb dX6_least_48 (by decide) ?_
              refine lv_iload_n hx hb dX6_least_50 rfl (lv_at hl 1 rfl) ?_
              refine mm_imul (X := 16) (Y := p0.toInt) hx hb dX6_least_51 num_16 rfl (by omega) (fun z_23 hz_23 => ?_)
              refine lv_iload_n hx hb dX6_least_52 rfl (lv_at hl 3 rfl) ?_
              refine mm_iadd (X := z_23.toInt) (Y := w.toInt) hx hb dX6_least_53 rfl rfl (by omega) (fun z_24 hz_24 => ?_)
              have ex_25 : (G 46 (Int32.toNatClampNeg z_24)).toInt = (G 46 (16 * Int32.toNatClampNeg p0 + Int32.toNatClampNeg w)).toInt := by rw [show Int32.toNatClampNeg z_24 = 16 * Int32.toNatClampNeg p0 + Int32.toNatClampNeg w from by simp only [mm_nat]; omega]
              refine mr_ald (X := z_24.toInt) E hM 32 31 rfl rfl rfl (by omega) dX6_least_54 ?_
              have gq_26 : (Gc_4 46 (Int32.toNatClampNeg z_24)).toInt = (G 46 (Int32.toNatClampNeg z_24)).toInt := congrArg Int32.toInt (congrFun ((hfr_4.2 46 (by decide)).trans rfl) _)
              refine lv_iload_n hx hb dX6_least_55 rfl (lv_at hl 2 rfl) ?_
              refine mm_icmp_ge (X := (Gc_4 46 (Int32.toNatClampNeg z_24)).toInt) (Y := b.toInt) (tgt := 71) hx hb dX6_least_56 (by decide) rfl rfl (fun c_27 => ?_) (fun c_27 => ?_)
              · refine mm_iinc (X := w.toInt) (v := 1) (lv2 := fun z => [(3, .int z), (0, .ref h0), (1, .int p0), (2, .int b)]) hx hb dX6_least_71 hl (k := 3) rfl rfl (by decide) num_1 (by omega) (by decide) (fun _ => rfl) (fun z_28 ls hz_28 hl => ?_)
                have hl : lv_has ls 4 [(3, .int z_28), (0, .ref h0), (1, .int p0), (2, .int b)] := hl
                refine lv_goto (tgt := 4) hx hb dX6_least_74 (by decide) ?_
                exact ih_4 _ _ _ Fc_4 Gc_4 b z_28 (show (0 ≤ z_28.toInt ∧ z_28.toInt ≤ 16) from by omega) (show z_28.toInt ≤ (F 15).toInt from by omega) (show lMn G (Int32.toNatClampNeg p0) (Int32.toNatClampNeg z_28) b.toInt from by rw [show Int32.toNatClampNeg z_28 = Int32.toNatClampNeg w + 1 from by simp only [mm_nat]; omega]; first | exact lMn_skip f4_2 (by omega) | exact lMn_keep f4_2 (by omega) (by omega)) (show (16 - z_28.toInt) < ((n_4 : Nat) : Int) from by omega) hM (lv_sub hl [1, 2, 3, 0] rfl)
              · refine lv_aload_n hx hb dX6_least_59 rfl (lv_at hl 0 rfl) ?_
                refine mr_get (v := .ref (q 46)) E hM 46 (by decide) (index := 108) (mm_at 3 rfl) rfl rfl dX6_least_60 ?_
                refine lv_bipush (v := 16) hx hb dX6_least_63 (by decide) ?_
                refine lv_iload_n hx hb dX6_least_65 rfl (lv_at hl 1 rfl) ?_
                refine mm_imul (X := 16) (Y := p0.toInt) hx hb dX6_least_66 num_16 rfl (by omega) (fun z_29 hz_29 => ?_)
                refine lv_iload_n hx hb dX6_least_67 rfl (lv_at hl 3 rfl) ?_
                refine mm_iadd (X := z_29.toInt) (Y := w.toInt) hx hb dX6_least_68 rfl rfl (by omega) (fun z_30 hz_30 => ?_)
                have ex_31 : (G 46 (Int32.toNatClampNeg z_30)).toInt = (G 46 (16 * Int32.toNatClampNeg p0 + Int32.toNatClampNeg w)).toInt := by rw [show Int32.toNatClampNeg z_30 = 16 * Int32.toNatClampNeg p0 + Int32.toNatClampNeg w from by simp only [mm_nat]; omega]
                refine mr_ald (X := z_30.toInt) E hM 32 31 rfl rfl rfl (by omega) dX6_least_69 ?_
                have gq_32 : (Gc_4 46 (Int32.toNatClampNeg z_30)).toInt = (G 46 (Int32.toNatClampNeg z_30)).toInt := congrArg Int32.toInt (congrFun ((hfr_4.2 46 (by decide)).trans rfl) _)
                refine lv_istore_n (lv' := [(2, .int (Gc_4 46 (Int32.toNatClampNeg z_30))), (0, .ref h0), (1, .int p0), (3, .int w)]) hx hb dX6_least_70 rfl hl (by decide) rfl (fun ls hl => ?_)
                refine mm_iinc (X := w.toInt) (v := 1) (lv2 := fun z => [(3, .int z), (2, .int (Gc_4 46 (Int32.toNatClampNeg z_30))), (0, .ref h0), (1, .int p0)]) hx hb dX6_least_71 hl (k := 3) rfl rfl (by decide) num_1 (by omega) (by decide) (fun _ => rfl) (fun z_33 ls hz_33 hl => ?_)
                have hl : lv_has ls 4 [(3, .int z_33), (2, .int (Gc_4 46 (Int32.toNatClampNeg z_30))), (0, .ref h0), (1, .int p0)] := hl
                refine lv_goto (tgt := 4) hx hb dX6_least_74 (by decide) ?_
                exact ih_4 _ _ _ Fc_4 Gc_4 (Gc_4 46 (Int32.toNatClampNeg z_30)) z_33 (show (0 ≤ z_33.toInt ∧ z_33.toInt ≤ 16) from by omega) (show z_33.toInt ≤ (F 15).toInt from by omega) (show lMn G (Int32.toNatClampNeg p0) (Int32.toNatClampNeg z_33) (Gc_4 46 (Int32.toNatClampNeg z_30)).toInt from by rw [show Int32.toNatClampNeg z_33 = Int32.toNatClampNeg w + 1 from by simp only [mm_nat]; omega]; exact lMn_take f4_2 (by omega) (by omega) (by omega) (by omega)) (show (16 - z_33.toInt) < ((n_4 : Nat) : Int) from by omega) hM (lv_sub hl [2, 3, 1, 0] rfl)
  refine lv_iconst (v := (-1)) hx hb dX6_least_0 (by decide) ?_
  refine lv_istore_n (lv' := [(2, .int (-1)), (0, .ref h0), (1, .int p0)]) hx hb dX6_least_1 rfl hl (by decide) rfl (fun ls hl => ?_)
  refine lv_iconst (v := 0) hx hb dX6_least_2 (by decide) ?_
  refine lv_istore_n (lv' := [(3, .int 0), (2, .int (-1)), (0, .ref h0), (1, .int p0)]) hx hb dX6_least_3 rfl hl (by decide) rfl (fun ls hl => ?_)
  have b_34 : 0 ≤ (F 15).toInt ∧ (F 15).toInt ≤ 16 := hM.fb 15 rfl
  exact B_4 4294967296 _ _ _ F G (-1) 0 (show (0 ≤ (0 : Int32).toInt ∧ (0 : Int32).toInt ≤ 16) from by have n_0 := num_m1; have n_1 := num_0; omega) (show (0 : Int32).toInt ≤ (F 15).toInt from by have n_0 := num_m1; have n_1 := num_0; omega) (show lMn G (Int32.toNatClampNeg p0) (Int32.toNatClampNeg (0 : Int32)) ((-1) : Int32).toInt from by have n_0 := num_m1; have n_1 := num_0; rw [show ((-1) : Int32).toInt = -1 from by decide]; exact lMn_0) (show (16 - (0 : Int32).toInt) < ((4294967296 : Nat) : Int) from by have n_0 := num_m1; have n_1 := num_0; omega) hM (lv_sub hl [2, 3, 1, 0] rfl)
