def w5X5_race : List Cond := .code yX5_race cX5_race 6 (some .int) :: ([.fieldLink RX5 80 "SkiShots" "raceCount" "I", .fieldLink RX5 15 "SkiShots" "formatsByName" "[LSkiShots$Format;", .methodLink RX5 83 yX5_raceAt, .instanceMethod yX5_raceAt, .selects RX5 yX5_raceAt yX5_raceAt, .initialized RX5, .code yX5_raceAt cX5_raceAt 2 (some (.object "SkiShots$Race")), .fieldLink RX5 29 "SkiShots" "races" "[LSkiShots$Race;", .fieldLink RX5 87 "SkiShots$Format" "startSort" "I", .classLink RX5 27 RX3, .instantiable RX3 7, .initialized RX3, .methodLink RX5 90 yX3_init, .instanceMethod yX3_init, .code yX3_init cX3_init 4 none, .methodLink RX3 3 objectInit, .instanceMethod objectInit, .code objectInit ⟨#[0xb1]⟩ 1 none, .fieldLink RX3 9 "SkiShots$Race" "format" "LSkiShots$Format;", .fieldLink RX3 15 "SkiShots$Race" "by" "LSkiShots$Race;", .fieldLink RX3 19 "SkiShots$Race" "byNumber" "I", .classLink RX3 23 RX0, .fieldLink RX3 25 "SkiShots$Race" "entries" "[LSkiShots$Entry;"] ++ wsX20 ++ wsX30 ++ wsX50)
set_option maxRecDepth 20000 in
theorem gz_X5_race_X5_raceAt_8 : GoodIn w5X5_race (wsV RX5 83 RX5 yX5_raceAt w5X5_raceAt) := goodIn_p _ [7] rfl (by decide +kernel)
set_option maxRecDepth 20000 in
theorem gz_X5_race_X3_init_22 : GoodIn w5X5_race (w5X3_init) := goodIn_p _ [15, 18] rfl (by decide +kernel)
set_option maxRecDepth 20000 in
theorem gz_X5_race_X3_init_66 : GoodIn w5X5_race (w5X3_init) := goodIn_p _ [15, 18] rfl (by decide +kernel)
set_option maxRecDepth 20000 in
theorem gz_X5_race_X3_init_107 : GoodIn w5X5_race (w5X3_init) := goodIn_p _ [15, 18] rfl (by decide +kernel)
set_option maxHeartbeats 4000000 in
set_option maxRecDepth 100000 in
theorem h5_X5_race (l : Launch) (D : va_G) (cA : Nat → ClassId) (ad av : Nat → Nat) (L : List Nat) (K : Nat → Nat) (I : Nat → Nat → Int32) (O : Nat → Nat → Option Nat) (sz : Nat) (x0 : Nat) (p0 : Int32) (p1 : Int32) (hI : cI L K I O) (mx0 : x0 ∈ L) (kx0 : K x0 = 5) (fm : Nat) (hfm : O x0 2 = some fm) (fo : Option Nat) (hfo : O fm (Int32.toNatClampNeg p0) = fo) (rr : Nat) (hrr : O x0 9 = some rr) : Met l yX5_race w5X5_race ({ frames := 2, cells := 2, slots := 23, locals := 43 }) (cPre D cA ad av L K I O sz [.ref x0, .int p0, .int p1]) (cQi D cA L K I O sz [] [(5, 10)] [(12, 0)] (fun r L' K' I' O' => (r.toInt = -1 ∧ (L' = L ∧ K' = K ∧ I' = I ∧ O' = O) ∧ (¬ (0 ≤ p0.toInt ∧ p0.toInt < 8) ∨ 8 ≤ (I x0 10).toInt ∨ fo = none ∨ (∃ a : Nat, fo = some a ∧ (((I a 6).toInt = 2 ∧ ¬ (0 ≤ p1.toInt ∧ p1.toInt < (I x0 10).toInt)) ∨ (¬ (I a 6).toInt = 2 ∧ ¬ p1.toInt = -1))))) ∨ (∃ a b es : Nat, fo = some a ∧ r.toInt = (I x0 10).toInt ∧ (I' x0 10).toInt = (I x0 10).toInt + 1 ∧ (0 ≤ p0.toInt ∧ p0.toInt < 8) ∧ (I x0 10).toInt < 8 ∧ (((I a 6).toInt = 2 ∧ (0 ≤ p1.toInt ∧ p1.toInt < (I x0 10).toInt) ∧ O' b 1 = O rr (Int32.toNatClampNeg p1)) ∨ (¬ (I a 6).toInt = 2 ∧ p1.toInt = -1 ∧ O' b 1 = none)) ∧ b ∉ L ∧ b ∈ L' ∧ K' b = 3 ∧ O' b 0 = some a ∧ (I' b 2).toInt = p1.toInt ∧ (I' b 4).toInt = 0 ∧ (I' b 5).toInt = 0 ∧ O' b 3 = some es ∧ es ∉ L ∧ es ∈ L' ∧ K' es = 15 ∧ (∀ g : Nat, O' rr g = if g = Int32.toNatClampNeg (I x0 10) then some b else O rr g)))) 2 23 (va_A (cW cA L K I O) sz) := by
  refine cr_met (own := RX5) (xs := []) (WI := [(5, 10)]) (WO := [(12, 0)]) (cc := cX5_race) (maxL := 6) (ret := (some .int)) (by decide) rfl rfl (Nat.le_of_ble_eq_true rfl) hI ?_
  intro p e s m args below meth c ls E hV hml hr hlk hname hsz hA hM hl
  have hx := E.1
  have hb := E.2.1
  have hts := E.2.2.1
  have hown := E.2.2.2.1
  have hl : lv_has ls 6 [(0, .ref x0), (1, .int p0), (2, .int p1)] := hl
  have hin2 : ∀ w ∈ wsX20, w ∈ w5X5_race := by decide +kernel
  have hin3 : ∀ w ∈ wsX30, w ∈ w5X5_race := by decide +kernel
  have hin5 : ∀ w ∈ wsX50, w ∈ w5X5_race := by decide +kernel
  obtain ⟨mfm, kfm⟩ := hM.rt mx0 kx0 2 (κ' := 14) rfl hfm
  obtain ⟨mrr, krr⟩ := hM.rt mx0 kx0 9 (κ' := 12) rfl hrr
  refine lv_iload_n hx hb dX5_race_0 rfl (lv_at hl 1 rfl) ?_
  refine mm_if_lt (X := p0.toInt) (tgt := 19) hx hb dX5_race_1 (by decide) rfl (fun c_1 => ?_) (fun c_1 => ?_)
  · refine lv_iconst (v := (-1)) hx hb dX5_race_19 (by decide) ?_
    have b_2 : 0 ≤ (I x0 10).toInt ∧ (I x0 10).toInt ≤ 8 := hM.ib mx0 kx0 10 rfl
    exact cr_ri (mc := 2) (ms := 23) E hr hlk hsz hM ⟨show (0 : Nat) ≤ 2 from by omega, show (0 : Nat) ≤ 23 from by omega⟩ (show (((-1) : Int32).toInt = -1 ∧ (L = L ∧ K = K ∧ I = I ∧ O = O) ∧ (¬ (0 ≤ p0.toInt ∧ p0.toInt < 8) ∨ 8 ≤ (I x0 10).toInt ∨ fo = none ∨ (∃ a : Nat, fo = some a ∧ (((I a 6).toInt = 2 ∧ ¬ (0 ≤ p1.toInt ∧ p1.toInt < (I x0 10).toInt)) ∨ (¬ (I a 6).toInt = 2 ∧ ¬ p1.toInt = -1))))) ∨ (∃ a b es : Nat, fo = some a ∧ ((-1) : Int32).toInt = (I x0 10).toInt ∧ (I x0 10).toInt = (I x0 10).toInt + 1 ∧ (0 ≤ p0.toInt ∧ p0.toInt < 8) ∧ (I x0 10).toInt < 8 ∧ (((I a 6).toInt = 2 ∧ (0 ≤ p1.toInt ∧ p1.toInt < (I x0 10).toInt) ∧ O b 1 = O rr (Int32.toNatClampNeg p1)) ∨ (¬ (I a 6).toInt = 2 ∧ p1.toInt = -1 ∧ O b 1 = none)) ∧ b ∉ L ∧ b ∈ L ∧ K b = 3 ∧ O b 0 = some a ∧ (I b 2).toInt = p1.toInt ∧ (I b 4).toInt = 0 ∧ (I b 5).toInt = 0 ∧ O b 3 = some es ∧ es ∉ L ∧ es ∈ L ∧ K es = 15 ∧ (∀ g : Nat, O rr g = if g = Int32.toNatClampNeg (I x0 10) then some b else O rr g)) from by have n9 := num_m1; first | exact Or.inl ⟨by omega, ⟨rfl, rfl, rfl, rfl⟩, Or.inl (by omega)⟩ | exact Or.inl ⟨by omega, ⟨rfl, rfl, rfl, rfl⟩, Or.inr (Or.inl (by omega))⟩) dX5_race_20
  · refine lv_iload_n hx hb dX5_race_4 rfl (lv_at hl 1 rfl) ?_
    refine lv_bipush (v := 8) hx hb dX5_race_5 (by decide) ?_
    refine mm_icmp_ge (X := p0.toInt) (Y := 8) (tgt := 19) hx hb dX5_race_7 (by decide) rfl num_8 (fun c_3 => ?_) (fun c_3 => ?_)
    · refine lv_iconst (v := (-1)) hx hb dX5_race_19 (by decide) ?_
      have b_4 : 0 ≤ (I x0 10).toInt ∧ (I x0 10).toInt ≤ 8 := hM.ib mx0 kx0 10 rfl
      exact cr_ri (mc := 2) (ms := 23) E hr hlk hsz hM ⟨show (0 : Nat) ≤ 2 from by omega, show (0 : Nat) ≤ 23 from by omega⟩ (show (((-1) : Int32).toInt = -1 ∧ (L = L ∧ K = K ∧ I = I ∧ O = O) ∧ (¬ (0 ≤ p0.toInt ∧ p0.toInt < 8) ∨ 8 ≤ (I x0 10).toInt ∨ fo = none ∨ (∃ a : Nat, fo = some a ∧ (((I a 6).toInt = 2 ∧ ¬ (0 ≤ p1.toInt ∧ p1.toInt < (I x0 10).toInt)) ∨ (¬ (I a 6).toInt = 2 ∧ ¬ p1.toInt = -1))))) ∨ (∃ a b es : Nat, fo = some a ∧ ((-1) : Int32).toInt = (I x0 10).toInt ∧ (I x0 10).toInt = (I x0 10).toInt + 1 ∧ (0 ≤ p0.toInt ∧ p0.toInt < 8) ∧ (I x0 10).toInt < 8 ∧ (((I a 6).toInt = 2 ∧ (0 ≤ p1.toInt ∧ p1.toInt < (I x0 10).toInt) ∧ O b 1 = O rr (Int32.toNatClampNeg p1)) ∨ (¬ (I a 6).toInt = 2 ∧ p1.toInt = -1 ∧ O b 1 = none)) ∧ b ∉ L ∧ b ∈ L ∧ K b = 3 ∧ O b 0 = some a ∧ (I b 2).toInt = p1.toInt ∧ (I b 4).toInt = 0 ∧ (I b 5).toInt = 0 ∧ O b 3 = some es ∧ es ∉ L ∧ es ∈ L ∧ K es = 15 ∧ (∀ g : Nat, O rr g = if g = Int32.toNatClampNeg (I x0 10) then some b else O rr g)) from by have n9 := num_m1; first | exact Or.inl ⟨by omega, ⟨rfl, rfl, rfl, rfl⟩, Or.inl (by omega)⟩ | exact Or.inl ⟨by omega, ⟨rfl, rfl, rfl, rfl⟩, Or.inr (Or.inl (by omega))⟩) dX5_race_20
    · refine lv_aload_n hx hb dX5_race_10 rfl (lv_at hl 0 rfl) ?_
      have b_5 : 0 ≤ (I x0 10).toInt ∧ (I x0 10).toInt ≤ 8 := hM.ib mx0 kx0 10 rfl
      refine cr_get (κ := 5) (ci := 5) (k := 10) (C := RX5) (T := TX5) (N := 13) (fs := cfs 5) (v := .int (I x0 10)) E hM mx0 kx0 (fun _ _ => rfl) rfl hin5 (by decide) (index := 80) (mm_at 1 rfl) rfl rfl dX5_race_11 ?_
      refine lv_bipush (v := 8) hx hb dX5_race_14 (by decide) ?_
      refine mm_icmp_lt (X := (I x0 10).toInt) (Y := 8) (tgt := 21) hx hb dX5_race_16 (by decide) rfl num_8 (fun c_6 => ?_) (fun c_6 => ?_)
      · refine lv_aload_n hx hb dX5_race_21 rfl (lv_at hl 0 rfl) ?_
        refine cr_get (κ := 5) (ci := 5) (k := 2) (C := RX5) (T := TX5) (N := 13) (fs := cfs 5) (v := .ref fm) E hM mx0 kx0 (fun _ _ => rfl) rfl hin5 (by decide) (index := 15) (mm_at 2 rfl) rfl (by show some (va_rf (O x0 2)) = some (.ref fm); rw [hfm]; rfl) dX5_race_22 ?_
        refine lv_iload_n hx hb dX5_race_25 rfl (lv_at hl 1 rfl) ?_
        rcases o_7 : O fm (Int32.toNatClampNeg p0) with _ | x_7
        · refine cr_aaldn (κ := 14) (t0 := 3) (X := p0.toInt) E hM mfm kfm (fun _ _ => rfl) rfl rfl (by omega) o_7 dX5_race_26 ?_
          refine lv_astore_nN (lv' := [(3, .null), (0, .ref x0), (1, .int p0), (2, .int p1)]) hx hb dX5_race_27 rfl hl (by decide) rfl (fun ls hl => ?_)
          refine lv_aload_nN hx hb dX5_race_28 rfl (lv_at hl 0 rfl) ?_
          refine lv_ifnonnullN hx hb dX5_race_29 ?_
          refine lv_iconst (v := (-1)) hx hb dX5_race_32 (by decide) ?_
          exact cr_ri (mc := 2) (ms := 23) E hr hlk hsz hM ⟨show (0 : Nat) ≤ 2 from by omega, show (0 : Nat) ≤ 23 from by omega⟩ (show (((-1) : Int32).toInt = -1 ∧ (L = L ∧ K = K ∧ I = I ∧ O = O) ∧ (¬ (0 ≤ p0.toInt ∧ p0.toInt < 8) ∨ 8 ≤ (I x0 10).toInt ∨ fo = none ∨ (∃ a : Nat, fo = some a ∧ (((I a 6).toInt = 2 ∧ ¬ (0 ≤ p1.toInt ∧ p1.toInt < (I x0 10).toInt)) ∨ (¬ (I a 6).toInt = 2 ∧ ¬ p1.toInt = -1))))) ∨ (∃ a b es : Nat, fo = some a ∧ ((-1) : Int32).toInt = (I x0 10).toInt ∧ (I x0 10).toInt = (I x0 10).toInt + 1 ∧ (0 ≤ p0.toInt ∧ p0.toInt < 8) ∧ (I x0 10).toInt < 8 ∧ (((I a 6).toInt = 2 ∧ (0 ≤ p1.toInt ∧ p1.toInt < (I x0 10).toInt) ∧ O b 1 = O rr (Int32.toNatClampNeg p1)) ∨ (¬ (I a 6).toInt = 2 ∧ p1.toInt = -1 ∧ O b 1 = none)) ∧ b ∉ L ∧ b ∈ L ∧ K b = 3 ∧ O b 0 = some a ∧ (I b 2).toInt = p1.toInt ∧ (I b 4).toInt = 0 ∧ (I b 5).toInt = 0 ∧ O b 3 = some es ∧ es ∉ L ∧ es ∈ L ∧ K es = 15 ∧ (∀ g : Nat, O rr g = if g = Int32.toNatClampNeg (I x0 10) then some b else O rr g)) from by have n9 := num_m1; exact Or.inl ⟨by omega, ⟨rfl, rfl, rfl, rfl⟩, Or.inr (Or.inr (Or.inl (hfo.symm.trans o_7)))⟩) dX5_race_33
        · obtain ⟨m_7, k_7⟩ := hM.rt mfm kfm (Int32.toNatClampNeg p0) (κ' := 2) rfl o_7
          refine cr_aalds (κ := 14) (t0 := 3) (X := p0.toInt) E hM mfm kfm (fun _ _ => rfl) rfl rfl (by omega) o_7 dX5_race_26 ?_
          refine lv_astore_n (lv' := [(3, .ref x_7), (0, .ref x0), (1, .int p0), (2, .int p1)]) hx hb dX5_race_27 rfl hl (by decide) rfl (fun ls hl => ?_)
          refine lv_aload_n hx hb dX5_race_28 rfl (lv_at hl 0 rfl) ?_
          refine lv_ifnonnull (tgt := 34) hx hb dX5_race_29 (by decide) ?_
          refine lv_aload_n hx hb dX5_race_34 rfl (lv_at hl 1 rfl) ?_
          refine lv_iload_n hx hb dX5_race_35 rfl (lv_at hl 3 rfl) ?_
          refine cc_Vqp (vs := [.int p1]) (rest := []) (b := x0) (κ := 5) E hV rfl hA hml hM mx0 kx0 rfl rfl (h5_X5_raceAt l D cA ad av L K I O _ x0 p1 hM.2.2.2.1 mx0 kx0 rr hrr) (cwV 1 hts gz_X5_race_X5_raceAt_8 rfl rfl rfl (by decide +kernel) ⟨Nat.le_of_ble_eq_true rfl, Nat.le_of_ble_eq_true rfl⟩) rfl hl.1 rfl (Nat.le_of_ble_eq_true rfl) dX5_race_36 ⟨show (0 : Nat) ≤ 2 from by omega, show (0 : Nat) ≤ 23 from by omega⟩ (fun r_9 H locs p_10 hM => ?_)
          rcases p_10 with ⟨rfl, hn_12⟩ | ⟨b_12, rfl, mb_12, kb_12, ob_12, g0_12, g1_12⟩
          · show W _ _ _ _ _ _ _ _ _ _ _ _ _ _ _ (F0 m 39 ls [.null])
            refine lv_astoreN (lv' := [(4, .null), (3, .ref x_7), (0, .ref x0), (1, .int p0), (2, .int p1)]) hx hb dX5_race_39 hl (by decide) rfl (fun ls hl => ?_)
            refine lv_aload_n hx hb dX5_race_41 rfl (lv_at hl 1 rfl) ?_
            refine cr_get (κ := 2) (ci := 2) (k := 6) (C := RX2) (T := TX2) (N := 8) (fs := cfs 2) (v := .int (I x_7 6)) E hM m_7 k_7 (fun _ _ => rfl) rfl hin2 (by decide) (index := 87) (mm_at 9 rfl) rfl rfl dX5_race_42 ?_
            refine lv_iconst (v := 2) hx hb dX5_race_45 (by decide) ?_
            refine mm_icmp_ne (X := (I x_7 6).toInt) (Y := 2) (tgt := 62) hx hb dX5_race_46 (by decide) rfl num_2 (fun c_13 => ?_) (fun c_13 => ?_)
            · refine lv_iload_n hx hb dX5_race_62 rfl (lv_at hl 4 rfl) ?_
              refine lv_iconst (v := (-1)) hx hb dX5_race_63 (by decide) ?_
              refine mm_icmp_ne (X := p1.toInt) (Y := (-1)) (tgt := 71) hx hb dX5_race_64 (by decide) rfl num_m1 (fun c_14 => ?_) (fun c_14 => ?_)
              · refine lv_iconst (v := 0) hx hb dX5_race_71 (by decide) ?_
                refine lv_istore (lv' := [(5, .int 0), (4, .null), (3, .ref x_7), (0, .ref x0), (1, .int p0), (2, .int p1)]) hx hb dX5_race_72 hl (by decide) rfl (fun ls hl => ?_)
                refine lv_iload hx hb dX5_race_74 (lv_at hl 0 rfl) ?_
                refine mm_if_ne (X := 0) (tgt := 81) hx hb dX5_race_76 (by decide) num_0 (fun c_15 => False.elim (by omega)) (fun c_15 => ?_)
                refine lv_iconst (v := (-1)) hx hb dX5_race_79 (by decide) ?_
                exact cr_ri (mc := 2) (ms := 23) E hr hlk hsz hM ⟨show (0 : Nat) ≤ 2 from by omega, show (0 : Nat) ≤ 23 from by omega⟩ (show (((-1) : Int32).toInt = -1 ∧ (L = L ∧ K = K ∧ I = I ∧ O = O) ∧ (¬ (0 ≤ p0.toInt ∧ p0.toInt < 8) ∨ 8 ≤ (I x0 10).toInt ∨ fo = none ∨ (∃ a : Nat, fo = some a ∧ (((I a 6).toInt = 2 ∧ ¬ (0 ≤ p1.toInt ∧ p1.toInt < (I x0 10).toInt)) ∨ (¬ (I a 6).toInt = 2 ∧ ¬ p1.toInt = -1))))) ∨ (∃ a b es : Nat, fo = some a ∧ ((-1) : Int32).toInt = (I x0 10).toInt ∧ (I x0 10).toInt = (I x0 10).toInt + 1 ∧ (0 ≤ p0.toInt ∧ p0.toInt < 8) ∧ (I x0 10).toInt < 8 ∧ (((I a 6).toInt = 2 ∧ (0 ≤ p1.toInt ∧ p1.toInt < (I x0 10).toInt) ∧ O b 1 = O rr (Int32.toNatClampNeg p1)) ∨ (¬ (I a 6).toInt = 2 ∧ p1.toInt = -1 ∧ O b 1 = none)) ∧ b ∉ L ∧ b ∈ L ∧ K b = 3 ∧ O b 0 = some a ∧ (I b 2).toInt = p1.toInt ∧ (I b 4).toInt = 0 ∧ (I b 5).toInt = 0 ∧ O b 3 = some es ∧ es ∉ L ∧ es ∈ L ∧ K es = 15 ∧ (∀ g : Nat, O rr g = if g = Int32.toNatClampNeg (I x0 10) then some b else O rr g)) from by have n9 := num_m1; exact Or.inl ⟨by omega, ⟨rfl, rfl, rfl, rfl⟩, Or.inr (Or.inr (Or.inr ⟨x_7, (hfo.symm.trans o_7), by omega⟩))⟩) dX5_race_80
              · refine lv_iconst (v := 1) hx hb dX5_race_67 (by decide) ?_
                refine lv_goto (tgt := 72) hx hb dX5_race_68 (by decide) ?_
                refine lv_istore (lv' := [(5, .int 1), (4, .null), (3, .ref x_7), (0, .ref x0), (1, .int p0), (2, .int p1)]) hx hb dX5_race_72 hl (by decide) rfl (fun ls hl => ?_)
                refine lv_iload hx hb dX5_race_74 (lv_at hl 0 rfl) ?_
                refine mm_if_ne (X := 1) (tgt := 81) hx hb dX5_race_76 (by decide) num_1 (fun c_16 => ?_) (fun c_16 => False.elim (by omega))
                refine lv_aload_n hx hb dX5_race_81 rfl (lv_at hl 3 rfl) ?_
                refine cr_get (κ := 5) (ci := 5) (k := 9) (C := RX5) (T := TX5) (N := 13) (fs := cfs 5) (v := .ref rr) E hM mx0 kx0 (fun _ _ => rfl) rfl hin5 (by decide) (index := 29) (mm_at 8 rfl) rfl (by show some (va_rf (O x0 9)) = some (.ref rr); rw [hrr]; rfl) dX5_race_82 ?_
                refine lv_aload_n hx hb dX5_race_85 rfl (lv_at hl 3 rfl) ?_
                refine cr_get (κ := 5) (ci := 5) (k := 10) (C := RX5) (T := TX5) (N := 13) (fs := cfs 5) (v := .int (I x0 10)) E hM mx0 kx0 (fun _ _ => rfl) rfl hin5 (by decide) (index := 80) (mm_at 1 rfl) rfl rfl dX5_race_86 ?_
                have hM0_17 := hM
                refine cr_new (κ := 23) (ci := 3) (C := RX3) (T := TX3) (N := 7) E hA hM (fun _ _ => rfl) rfl hin3 tyX3 tyX3_ok (mm_at 10 rfl) (mm_at 11 rfl) (mm_at 12 rfl) (fun j hj => by rcases (show j = 0 ∨ j = 1 ∨ j = 2 ∨ j = 3 ∨ j = 4 ∨ j = 5 ∨ j = 6 by omega) with rfl | rfl | rfl | rfl | rfl | rfl | rfl <;> rfl) (fun _ => rfl) (by decide) (show (0 + 1 : Nat) ≤ 2 from by omega) (show (0 + 7 : Nat) ≤ 23 from by omega) dX5_race_89 (fun q_17 H L_17 K_17 I_17 O_17 hq_17 eL_17 eK_17 eI_17 eO_17 tr_17 mq_17 kq_17 hM => ?_)
                have hn_17 : q_17 ∉ L := fun z => hq_17 (hM0_17.2.2.2.2 q_17 z (fun z => by cases z)).1
                have m_18 := (tr_17 x0 mx0).1
                have k_18 : K_17 x0 = 5 := (tr_17 x0 mx0).2.trans kx0
                have m_19 := (tr_17 fm mfm).1
                have k_19 : K_17 fm = 14 := (tr_17 fm mfm).2.trans kfm
                have m_20 := (tr_17 rr mrr).1
                have k_20 : K_17 rr = 12 := (tr_17 rr mrr).2.trans krr
                have m_21 := (tr_17 x_7 m_7).1
                have k_21 : K_17 x_7 = 2 := (tr_17 x_7 m_7).2.trans k_7
                refine W.widen (k := 1) (n := 7) (by omega) (by omega) ?_
                refine lv_dup hx hb dX5_race_92 rfl ?_
                refine lv_aload_n hx hb dX5_race_93 rfl (lv_at hl 2 rfl) ?_
                refine lv_aloadN hx hb dX5_race_94 (lv_at hl 1 rfl) ?_
                refine lv_iload_n hx hb dX5_race_96 rfl (lv_at hl 5 rfl) ?_
                have sb9 : ∀ a : Nat, a ∈ L → a ∈ L_17 := fun a h => (hM.2.2.2.2 a h (fun z => by cases z)).1
                have b_23 : 0 ≤ (I_17 q_17 4).toInt ∧ (I_17 q_17 4).toInt ≤ 16 := hM.ib mq_17 kq_17 4 rfl
                have e_24 : (I_17 q_17 4).toInt = 0 := (congrArg Int32.toInt (cn_s eI_17)).trans mm_z0
                have e_25 : (I_17 q_17 5).toInt = 0 := (congrArg Int32.toInt (cn_s eI_17)).trans mm_z0
                refine cc_Iv (vs := [.ref x_7, .null, .int p1]) (rest := [.ref q_17, .int (I x0 10), .ref rr]) (ret := none) (b := q_17) E hV rfl hA hml hM (h5_X3_init l D cA ad av L_17 K_17 I_17 O_17 _ q_17 x_7 none p1 hM.2.2.2.1 mq_17 kq_17 m_21 k_21 (fun b h => by cases h) (show (I_17 q_17 4).toInt = 0 from by omega) (show (I_17 q_17 5).toInt = 0 from by omega)) (cwI 3 hts gz_X5_race_X3_init_22 rfl rfl rfl (hts _ (mm_at 12 rfl)) (hts _ (mm_at 13 rfl)) (hts _ (mm_at 14 rfl)) rfl (by decide +kernel) ⟨Nat.le_of_ble_eq_true rfl, Nat.le_of_ble_eq_true rfl⟩) rfl hl.1 rfl (Nat.le_of_ble_eq_true rfl) dX5_race_97 ⟨show (1 + 1 : Nat) ≤ 2 from by omega, show (7 + 16 : Nat) ≤ 23 from by omega⟩ (fun w h => by rw [List.mem_singleton.mp h]; exact Or.inl hn_17) (by decide) (by decide) (fun L_28 K_28 I_28 O_28 H locs fr_28 p_27 hM => ?_)
                have m_29 := (fr_28 x0 m_18 (fun z => hq_17 (List.mem_singleton.mp z ▸ mx0))).1
                have k_29 : K_28 x0 = 5 := (fr_28 x0 m_18 (fun z => hq_17 (List.mem_singleton.mp z ▸ mx0))).2.1.trans k_18
                have m_30 := (fr_28 fm m_19 (fun z => hq_17 (List.mem_singleton.mp z ▸ mfm))).1
                have k_30 : K_28 fm = 14 := (fr_28 fm m_19 (fun z => hq_17 (List.mem_singleton.mp z ▸ mfm))).2.1.trans k_19
                have m_31 := (fr_28 rr m_20 (fun z => hq_17 (List.mem_singleton.mp z ▸ mrr))).1
                have k_31 : K_28 rr = 12 := (fr_28 rr m_20 (fun z => hq_17 (List.mem_singleton.mp z ▸ mrr))).2.1.trans k_20
                have m_32 := (fr_28 x_7 m_21 (fun z => hq_17 (List.mem_singleton.mp z ▸ m_7))).1
                have k_32 : K_28 x_7 = 2 := (fr_28 x_7 m_21 (fun z => hq_17 (List.mem_singleton.mp z ▸ m_7))).2.1.trans k_21
                refine W.widen (k := 2) (n := 23) (by omega) (by omega) ?_
                obtain ⟨m_33, k_33, p_27⟩ := p_27
                replace p_27 : O_28 q_17 0 = some x_7 ∧ O_28 q_17 1 = none ∧ (I_28 q_17 2).toInt = p1.toInt ∧ (I_28 q_17 4).toInt = 0 ∧ (I_28 q_17 5).toInt = 0 ∧ ∃ es : Nat, O_28 q_17 3 = some es ∧ es ∉ L_17 ∧ es ∈ L_28 ∧ K_28 es = 15 := p_27
                rcases p_27 with ⟨o0_34, o1_34, b2_34, b4_34, b5_34, es_34, o3_34, el_34, em_34, ek_34⟩
                have ex_34 : es_34 ∉ L := fun z => el_34 (sb9 _ z)
                refine cr_aast (κ := 12) (κb := 3) (ci := 3) (t0 := 2) (r := (RX3, TX3, 7)) (X := (I x0 10).toInt) E hM m_31 k_31 (fun _ _ => rfl) rfl m_33 k_33 rfl rfl rfl (by omega) (by decide) (fun _ => rfl) (Or.inr (Or.inr (fun _ => rfl))) dX5_race_100 (fun H locs O_35 eO_35 hM => ?_)
                refine lv_aload_n hx hb dX5_race_101 rfl (lv_at hl 3 rfl) ?_
                refine lv_dup hx hb dX5_race_102 rfl ?_
                have b_36 : 0 ≤ (I_28 x0 10).toInt ∧ (I_28 x0 10).toInt ≤ 8 := hM.ib m_29 k_29 10 rfl
                have e_37 : (I_17 x0 10).toInt = (I x0 10).toInt := congrArg (fun z => Int32.toInt (z 10)) (cu_a eI_17 (fun z => hq_17 (z ▸ mx0)))
                have e_38 : (I_28 x0 10).toInt = (I_17 x0 10).toInt := congrArg Int32.toInt ((fr_28 x0 m_18 (fun z => hq_17 (List.mem_singleton.mp z ▸ mx0))).2.2.1 10 (by rw [k_18]; rfl))
                refine cr_get (κ := 5) (ci := 5) (k := 10) (C := RX5) (T := TX5) (N := 13) (fs := cfs 5) (v := .int (I_28 x0 10)) E hM m_29 k_29 (fun _ _ => rfl) rfl hin5 (by decide) (index := 80) (mm_at 1 rfl) rfl rfl dX5_race_103 ?_
                refine lv_iconst (v := 1) hx hb dX5_race_106 (by decide) ?_
                refine mm_iadd (X := (I_28 x0 10).toInt) (Y := 1) hx hb dX5_race_107 rfl num_1 (by omega) (fun z_39 hz_39 => ?_)
                have o_40 : O_17 x0 9 = some rr := (congrFun (cu_a eO_17 (fun z => hq_17 (z ▸ mx0))) 9).trans hrr
                have o_41 : O_28 x0 9 = some rr := ((fr_28 x0 m_18 (fun z => hq_17 (List.mem_singleton.mp z ▸ mx0))).2.2.2 9 (by rw [k_18]; rfl)).trans o_40
                have o_42 : O_35 x0 9 = some rr := (congrFun (cu_a eO_35 (c_ne k_29 k_31 (by decide))) 9).trans o_41
                have o_43 : O_35 rr (Int32.toNatClampNeg (I x0 10)) = some q_17 := co_s eO_35
                refine cr_puti (κ := 5) (ci := 5) (k := 10) (C := RX5) (T := TX5) (N := 13) (fs := cfs 5) (ty := .int) (v := z_39) E hM m_29 k_29 (fun _ _ => rfl) rfl hin5 tyX5 tyX5_ok nmX5 (by decide) (index := 80) (mm_at 1 rfl) rfl (Or.inl rfl) (by decide +kernel) rfl rfl (show (10 : Nat) < 13 from by decide) (fun _ _ _ => rfl) (cz_bd (X := z_39.toInt) (a := 0) (b := 8) rfl rfl (by omega)) (cS_cnt5 (hM.sp m_29 k_29) o_42 (n0 := Int32.toNatClampNeg (I x0 10)) (by rw [o_43]; exact fun z => by cases z) (by rw [mm_nat]; omega) (by omega)) (Or.inr (Or.inr rfl)) dX5_race_108 (fun H locs I_44 eI_44 hM => ?_)
                refine lv_aload_n hx hb dX5_race_111 rfl (lv_at hl 3 rfl) ?_
                have b_45 : 0 ≤ (I_44 x0 10).toInt ∧ (I_44 x0 10).toInt ≤ 8 := hM.ib m_29 k_29 10 rfl
                have e_46 : (I_44 x0 10).toInt = z_39.toInt := (congrArg Int32.toInt (cu_s eI_44)).trans rfl
                refine cr_get (κ := 5) (ci := 5) (k := 10) (C := RX5) (T := TX5) (N := 13) (fs := cfs 5) (v := .int (I_44 x0 10)) E hM m_29 k_29 (fun _ _ => rfl) rfl hin5 (by decide) (index := 80) (mm_at 1 rfl) rfl rfl dX5_race_112 ?_
                refine lv_iconst (v := 1) hx hb dX5_race_115 (by decide) ?_
                refine mm_isub (X := (I_44 x0 10).toInt) (Y := 1) hx hb dX5_race_116 rfl num_1 (by omega) (fun z_47 hz_47 => ?_)
                exact cr_ri (mc := 2) (ms := 23) E hr hlk hsz hM ⟨show (2 : Nat) ≤ 2 from by omega, show (23 : Nat) ≤ 23 from by omega⟩ (show (z_47.toInt = -1 ∧ (L_28 = L ∧ K_28 = K ∧ I_44 = I ∧ O_35 = O) ∧ (¬ (0 ≤ p0.toInt ∧ p0.toInt < 8) ∨ 8 ≤ (I x0 10).toInt ∨ fo = none ∨ (∃ a : Nat, fo = some a ∧ (((I a 6).toInt = 2 ∧ ¬ (0 ≤ p1.toInt ∧ p1.toInt < (I x0 10).toInt)) ∨ (¬ (I a 6).toInt = 2 ∧ ¬ p1.toInt = -1))))) ∨ (∃ a b es : Nat, fo = some a ∧ z_47.toInt = (I x0 10).toInt ∧ (I_44 x0 10).toInt = (I x0 10).toInt + 1 ∧ (0 ≤ p0.toInt ∧ p0.toInt < 8) ∧ (I x0 10).toInt < 8 ∧ (((I a 6).toInt = 2 ∧ (0 ≤ p1.toInt ∧ p1.toInt < (I x0 10).toInt) ∧ O_35 b 1 = O rr (Int32.toNatClampNeg p1)) ∨ (¬ (I a 6).toInt = 2 ∧ p1.toInt = -1 ∧ O_35 b 1 = none)) ∧ b ∉ L ∧ b ∈ L_28 ∧ K_28 b = 3 ∧ O_35 b 0 = some a ∧ (I_44 b 2).toInt = p1.toInt ∧ (I_44 b 4).toInt = 0 ∧ (I_44 b 5).toInt = 0 ∧ O_35 b 3 = some es ∧ es ∉ L ∧ es ∈ L_28 ∧ K_28 es = 15 ∧ (∀ g : Nat, O_35 rr g = if g = Int32.toNatClampNeg (I x0 10) then some b else O rr g)) from by have o_48 : O_35 q_17 0 = some x_7 := (congrFun (cu_a eO_35 (c_ne k_33 k_31 (by decide))) 0).trans o0_34; have o_49 : O_35 q_17 1 = none := (congrFun (cu_a eO_35 (c_ne k_33 k_31 (by decide))) 1).trans o1_34; have o_50 : O_35 q_17 3 = some es_34 := (congrFun (cu_a eO_35 (c_ne k_33 k_31 (by decide))) 3).trans o3_34; have e_51 : (I_44 q_17 2).toInt = (I_28 q_17 2).toInt := congrArg Int32.toInt (cu_k eI_44 (by decide)); have b_52 : 0 ≤ (I_44 q_17 4).toInt ∧ (I_44 q_17 4).toInt ≤ 16 := hM.ib m_33 k_33 4 rfl; have e_53 : (I_44 q_17 4).toInt = (I_28 q_17 4).toInt := congrArg Int32.toInt (cu_k eI_44 (by decide)); have e_54 : (I_44 q_17 5).toInt = (I_28 q_17 5).toInt := congrArg Int32.toInt (cu_k eI_44 (by decide)); exact Or.inr ⟨x_7, q_17, es_34, hfo.symm.trans o_7, by omega, by omega, ⟨by omega, by omega⟩, by omega, Or.inr ⟨by omega, by omega, o_49⟩, hn_17, m_33, k_33, o_48, by omega, by omega, by omega, o_50, ex_34, em_34, ek_34, fun g => (show O_35 rr g = O_35 rr g from (by have t1_ := tr_17 rr mrr; have k1_ := t1_.2.trans krr; have m1_ := t1_.1; have t2_ := fr_28 rr m1_ (fun z => (fun z => hn_17 (by rw [← z]; exact mrr)) (List.mem_singleton.mp z)); have k2_ := t2_.2.1.trans k1_; have m2_ := t2_.1; exact rfl)).trans ((co_all eO_35).trans (by rw [show O_28 rr g = O rr g from (by have t1_ := tr_17 rr mrr; have k1_ := t1_.2.trans krr; have m1_ := t1_.1; have t2_ := fr_28 rr m1_ (fun z => (fun z => hn_17 (by rw [← z]; exact mrr)) (List.mem_singleton.mp z)); have k2_ := t2_.2.1.trans k1_; have m2_ := t2_.1; exact ((t2_.2.2.2 g (by rw [k1_]; rfl)).trans (congrFun (cu_a eO_17 (fun z => hq_17 (z ▸ mrr))) g)))]))⟩) dX5_race_117
            · refine lv_aloadN hx hb dX5_race_49 (lv_at hl 0 rfl) ?_
              refine lv_ifnullN (tgt := 58) hx hb dX5_race_51 (by decide) ?_
              refine lv_iconst (v := 0) hx hb dX5_race_58 (by decide) ?_
              refine lv_goto (tgt := 72) hx hb dX5_race_59 (by decide) ?_
              refine lv_istore (lv' := [(5, .int 0), (4, .null), (3, .ref x_7), (0, .ref x0), (1, .int p0), (2, .int p1)]) hx hb dX5_race_72 hl (by decide) rfl (fun ls hl => ?_)
              refine lv_iload hx hb dX5_race_74 (lv_at hl 0 rfl) ?_
              refine mm_if_ne (X := 0) (tgt := 81) hx hb dX5_race_76 (by decide) num_0 (fun c_55 => False.elim (by omega)) (fun c_55 => ?_)
              refine lv_iconst (v := (-1)) hx hb dX5_race_79 (by decide) ?_
              exact cr_ri (mc := 2) (ms := 23) E hr hlk hsz hM ⟨show (0 : Nat) ≤ 2 from by omega, show (0 : Nat) ≤ 23 from by omega⟩ (show (((-1) : Int32).toInt = -1 ∧ (L = L ∧ K = K ∧ I = I ∧ O = O) ∧ (¬ (0 ≤ p0.toInt ∧ p0.toInt < 8) ∨ 8 ≤ (I x0 10).toInt ∨ fo = none ∨ (∃ a : Nat, fo = some a ∧ (((I a 6).toInt = 2 ∧ ¬ (0 ≤ p1.toInt ∧ p1.toInt < (I x0 10).toInt)) ∨ (¬ (I a 6).toInt = 2 ∧ ¬ p1.toInt = -1))))) ∨ (∃ a b es : Nat, fo = some a ∧ ((-1) : Int32).toInt = (I x0 10).toInt ∧ (I x0 10).toInt = (I x0 10).toInt + 1 ∧ (0 ≤ p0.toInt ∧ p0.toInt < 8) ∧ (I x0 10).toInt < 8 ∧ (((I a 6).toInt = 2 ∧ (0 ≤ p1.toInt ∧ p1.toInt < (I x0 10).toInt) ∧ O b 1 = O rr (Int32.toNatClampNeg p1)) ∨ (¬ (I a 6).toInt = 2 ∧ p1.toInt = -1 ∧ O b 1 = none)) ∧ b ∉ L ∧ b ∈ L ∧ K b = 3 ∧ O b 0 = some a ∧ (I b 2).toInt = p1.toInt ∧ (I b 4).toInt = 0 ∧ (I b 5).toInt = 0 ∧ O b 3 = some es ∧ es ∉ L ∧ es ∈ L ∧ K es = 15 ∧ (∀ g : Nat, O rr g = if g = Int32.toNatClampNeg (I x0 10) then some b else O rr g)) from by have n9 := num_m1; exact Or.inl ⟨by omega, ⟨rfl, rfl, rfl, rfl⟩, Or.inr (Or.inr (Or.inr ⟨x_7, (hfo.symm.trans o_7), by omega⟩))⟩) dX5_race_80
          · show W _ _ _ _ _ _ _ _ _ _ _ _ _ _ _ (F0 m 39 ls [.ref b_12])
            refine lv_astore (lv' := [(4, .ref b_12), (3, .ref x_7), (0, .ref x0), (1, .int p0), (2, .int p1)]) hx hb dX5_race_39 hl (by decide) rfl (fun ls hl => ?_)
            refine lv_aload_n hx hb dX5_race_41 rfl (lv_at hl 1 rfl) ?_
            refine cr_get (κ := 2) (ci := 2) (k := 6) (C := RX2) (T := TX2) (N := 8) (fs := cfs 2) (v := .int (I x_7 6)) E hM m_7 k_7 (fun _ _ => rfl) rfl hin2 (by decide) (index := 87) (mm_at 9 rfl) rfl rfl dX5_race_42 ?_
            refine lv_iconst (v := 2) hx hb dX5_race_45 (by decide) ?_
            refine mm_icmp_ne (X := (I x_7 6).toInt) (Y := 2) (tgt := 62) hx hb dX5_race_46 (by decide) rfl num_2 (fun c_56 => ?_) (fun c_56 => ?_)
            · refine lv_iload_n hx hb dX5_race_62 rfl (lv_at hl 4 rfl) ?_
              refine lv_iconst (v := (-1)) hx hb dX5_race_63 (by decide) ?_
              refine mm_icmp_ne (X := p1.toInt) (Y := (-1)) (tgt := 71) hx hb dX5_race_64 (by decide) rfl num_m1 (fun c_57 => ?_) (fun c_57 => ?_)
              · refine lv_iconst (v := 0) hx hb dX5_race_71 (by decide) ?_
                refine lv_istore (lv' := [(5, .int 0), (4, .ref b_12), (3, .ref x_7), (0, .ref x0), (1, .int p0), (2, .int p1)]) hx hb dX5_race_72 hl (by decide) rfl (fun ls hl => ?_)
                refine lv_iload hx hb dX5_race_74 (lv_at hl 0 rfl) ?_
                refine mm_if_ne (X := 0) (tgt := 81) hx hb dX5_race_76 (by decide) num_0 (fun c_58 => False.elim (by omega)) (fun c_58 => ?_)
                refine lv_iconst (v := (-1)) hx hb dX5_race_79 (by decide) ?_
                exact cr_ri (mc := 2) (ms := 23) E hr hlk hsz hM ⟨show (0 : Nat) ≤ 2 from by omega, show (0 : Nat) ≤ 23 from by omega⟩ (show (((-1) : Int32).toInt = -1 ∧ (L = L ∧ K = K ∧ I = I ∧ O = O) ∧ (¬ (0 ≤ p0.toInt ∧ p0.toInt < 8) ∨ 8 ≤ (I x0 10).toInt ∨ fo = none ∨ (∃ a : Nat, fo = some a ∧ (((I a 6).toInt = 2 ∧ ¬ (0 ≤ p1.toInt ∧ p1.toInt < (I x0 10).toInt)) ∨ (¬ (I a 6).toInt = 2 ∧ ¬ p1.toInt = -1))))) ∨ (∃ a b es : Nat, fo = some a ∧ ((-1) : Int32).toInt = (I x0 10).toInt ∧ (I x0 10).toInt = (I x0 10).toInt + 1 ∧ (0 ≤ p0.toInt ∧ p0.toInt < 8) ∧ (I x0 10).toInt < 8 ∧ (((I a 6).toInt = 2 ∧ (0 ≤ p1.toInt ∧ p1.toInt < (I x0 10).toInt) ∧ O b 1 = O rr (Int32.toNatClampNeg p1)) ∨ (¬ (I a 6).toInt = 2 ∧ p1.toInt = -1 ∧ O b 1 = none)) ∧ b ∉ L ∧ b ∈ L ∧ K b = 3 ∧ O b 0 = some a ∧ (I b 2).toInt = p1.toInt ∧ (I b 4).toInt = 0 ∧ (I b 5).toInt = 0 ∧ O b 3 = some es ∧ es ∉ L ∧ es ∈ L ∧ K es = 15 ∧ (∀ g : Nat, O rr g = if g = Int32.toNatClampNeg (I x0 10) then some b else O rr g)) from by have n9 := num_m1; exact Or.inl ⟨by omega, ⟨rfl, rfl, rfl, rfl⟩, Or.inr (Or.inr (Or.inr ⟨x_7, (hfo.symm.trans o_7), by omega⟩))⟩) dX5_race_80
              · refine lv_iconst (v := 1) hx hb dX5_race_67 (by decide) ?_
                refine lv_goto (tgt := 72) hx hb dX5_race_68 (by decide) ?_
                refine lv_istore (lv' := [(5, .int 1), (4, .ref b_12), (3, .ref x_7), (0, .ref x0), (1, .int p0), (2, .int p1)]) hx hb dX5_race_72 hl (by decide) rfl (fun ls hl => ?_)
                refine lv_iload hx hb dX5_race_74 (lv_at hl 0 rfl) ?_
                refine mm_if_ne (X := 1) (tgt := 81) hx hb dX5_race_76 (by decide) num_1 (fun c_59 => ?_) (fun c_59 => False.elim (by omega))
                refine lv_aload_n hx hb dX5_race_81 rfl (lv_at hl 3 rfl) ?_
                refine cr_get (κ := 5) (ci := 5) (k := 9) (C := RX5) (T := TX5) (N := 13) (fs := cfs 5) (v := .ref rr) E hM mx0 kx0 (fun _ _ => rfl) rfl hin5 (by decide) (index := 29) (mm_at 8 rfl) rfl (by show some (va_rf (O x0 9)) = some (.ref rr); rw [hrr]; rfl) dX5_race_82 ?_
                refine lv_aload_n hx hb dX5_race_85 rfl (lv_at hl 3 rfl) ?_
                refine cr_get (κ := 5) (ci := 5) (k := 10) (C := RX5) (T := TX5) (N := 13) (fs := cfs 5) (v := .int (I x0 10)) E hM mx0 kx0 (fun _ _ => rfl) rfl hin5 (by decide) (index := 80) (mm_at 1 rfl) rfl rfl dX5_race_86 ?_
                have hM0_60 := hM
                refine cr_new (κ := 23) (ci := 3) (C := RX3) (T := TX3) (N := 7) E hA hM (fun _ _ => rfl) rfl hin3 tyX3 tyX3_ok (mm_at 10 rfl) (mm_at 11 rfl) (mm_at 12 rfl) (fun j hj => by rcases (show j = 0 ∨ j = 1 ∨ j = 2 ∨ j = 3 ∨ j = 4 ∨ j = 5 ∨ j = 6 by omega) with rfl | rfl | rfl | rfl | rfl | rfl | rfl <;> rfl) (fun _ => rfl) (by decide) (show (0 + 1 : Nat) ≤ 2 from by omega) (show (0 + 7 : Nat) ≤ 23 from by omega) dX5_race_89 (fun q_60 H L_60 K_60 I_60 O_60 hq_60 eL_60 eK_60 eI_60 eO_60 tr_60 mq_60 kq_60 hM => ?_)
                have hn_60 : q_60 ∉ L := fun z => hq_60 (hM0_60.2.2.2.2 q_60 z (fun z => by cases z)).1
                have m_61 := (tr_60 x0 mx0).1
                have k_61 : K_60 x0 = 5 := (tr_60 x0 mx0).2.trans kx0
                have m_62 := (tr_60 fm mfm).1
                have k_62 : K_60 fm = 14 := (tr_60 fm mfm).2.trans kfm
                have m_63 := (tr_60 rr mrr).1
                have k_63 : K_60 rr = 12 := (tr_60 rr mrr).2.trans krr
                have m_64 := (tr_60 x_7 m_7).1
                have k_64 : K_60 x_7 = 2 := (tr_60 x_7 m_7).2.trans k_7
                have m_65 := (tr_60 b_12 mb_12).1
                have k_65 : K_60 b_12 = 3 := (tr_60 b_12 mb_12).2.trans kb_12
                refine W.widen (k := 1) (n := 7) (by omega) (by omega) ?_
                refine lv_dup hx hb dX5_race_92 rfl ?_
                refine lv_aload_n hx hb dX5_race_93 rfl (lv_at hl 2 rfl) ?_
                refine lv_aload hx hb dX5_race_94 (lv_at hl 1 rfl) ?_
                refine lv_iload_n hx hb dX5_race_96 rfl (lv_at hl 5 rfl) ?_
                have sb9 : ∀ a : Nat, a ∈ L → a ∈ L_60 := fun a h => (hM.2.2.2.2 a h (fun z => by cases z)).1
                have b_67 : 0 ≤ (I_60 q_60 4).toInt ∧ (I_60 q_60 4).toInt ≤ 16 := hM.ib mq_60 kq_60 4 rfl
                have e_68 : (I_60 q_60 4).toInt = 0 := (congrArg Int32.toInt (cn_s eI_60)).trans mm_z0
                have e_69 : (I_60 q_60 5).toInt = 0 := (congrArg Int32.toInt (cn_s eI_60)).trans mm_z0
                refine cc_Iv (vs := [.ref x_7, .ref b_12, .int p1]) (rest := [.ref q_60, .int (I x0 10), .ref rr]) (ret := none) (b := q_60) E hV rfl hA hml hM (h5_X3_init l D cA ad av L_60 K_60 I_60 O_60 _ q_60 x_7 (some b_12) p1 hM.2.2.2.1 mq_60 kq_60 m_64 k_64 (fun b h => by cases h; exact ⟨m_65, k_65⟩) (show (I_60 q_60 4).toInt = 0 from by omega) (show (I_60 q_60 5).toInt = 0 from by omega)) (cwI 3 hts gz_X5_race_X3_init_66 rfl rfl rfl (hts _ (mm_at 12 rfl)) (hts _ (mm_at 13 rfl)) (hts _ (mm_at 14 rfl)) rfl (by decide +kernel) ⟨Nat.le_of_ble_eq_true rfl, Nat.le_of_ble_eq_true rfl⟩) rfl hl.1 rfl (Nat.le_of_ble_eq_true rfl) dX5_race_97 ⟨show (1 + 1 : Nat) ≤ 2 from by omega, show (7 + 16 : Nat) ≤ 23 from by omega⟩ (fun w h => by rw [List.mem_singleton.mp h]; exact Or.inl hn_60) (by decide) (by decide) (fun L_72 K_72 I_72 O_72 H locs fr_72 p_71 hM => ?_)
                have m_73 := (fr_72 x0 m_61 (fun z => hq_60 (List.mem_singleton.mp z ▸ mx0))).1
                have k_73 : K_72 x0 = 5 := (fr_72 x0 m_61 (fun z => hq_60 (List.mem_singleton.mp z ▸ mx0))).2.1.trans k_61
                have m_74 := (fr_72 fm m_62 (fun z => hq_60 (List.mem_singleton.mp z ▸ mfm))).1
                have k_74 : K_72 fm = 14 := (fr_72 fm m_62 (fun z => hq_60 (List.mem_singleton.mp z ▸ mfm))).2.1.trans k_62
                have m_75 := (fr_72 rr m_63 (fun z => hq_60 (List.mem_singleton.mp z ▸ mrr))).1
                have k_75 : K_72 rr = 12 := (fr_72 rr m_63 (fun z => hq_60 (List.mem_singleton.mp z ▸ mrr))).2.1.trans k_63
                have m_76 := (fr_72 x_7 m_64 (fun z => hq_60 (List.mem_singleton.mp z ▸ m_7))).1
                have k_76 : K_72 x_7 = 2 := (fr_72 x_7 m_64 (fun z => hq_60 (List.mem_singleton.mp z ▸ m_7))).2.1.trans k_64
                have m_77 := (fr_72 b_12 m_65 (fun z => hq_60 (List.mem_singleton.mp z ▸ mb_12))).1
                have k_77 : K_72 b_12 = 3 := (fr_72 b_12 m_65 (fun z => hq_60 (List.mem_singleton.mp z ▸ mb_12))).2.1.trans k_65
                refine W.widen (k := 2) (n := 23) (by omega) (by omega) ?_
                obtain ⟨m_78, k_78, p_71⟩ := p_71
                replace p_71 : O_72 q_60 0 = some x_7 ∧ O_72 q_60 1 = (some b_12) ∧ (I_72 q_60 2).toInt = p1.toInt ∧ (I_72 q_60 4).toInt = 0 ∧ (I_72 q_60 5).toInt = 0 ∧ ∃ es : Nat, O_72 q_60 3 = some es ∧ es ∉ L_60 ∧ es ∈ L_72 ∧ K_72 es = 15 := p_71
                rcases p_71 with ⟨o0_79, o1_79, b2_79, b4_79, b5_79, es_79, o3_79, el_79, em_79, ek_79⟩
                have ex_79 : es_79 ∉ L := fun z => el_79 (sb9 _ z)
                refine cr_aast (κ := 12) (κb := 3) (ci := 3) (t0 := 2) (r := (RX3, TX3, 7)) (X := (I x0 10).toInt) E hM m_75 k_75 (fun _ _ => rfl) rfl m_78 k_78 rfl rfl rfl (by omega) (by decide) (fun _ => rfl) (Or.inr (Or.inr (fun _ => rfl))) dX5_race_100 (fun H locs O_80 eO_80 hM => ?_)
                refine lv_aload_n hx hb dX5_race_101 rfl (lv_at hl 3 rfl) ?_
                refine lv_dup hx hb dX5_race_102 rfl ?_
                have b_81 : 0 ≤ (I_72 x0 10).toInt ∧ (I_72 x0 10).toInt ≤ 8 := hM.ib m_73 k_73 10 rfl
                have e_82 : (I_60 x0 10).toInt = (I x0 10).toInt := congrArg (fun z => Int32.toInt (z 10)) (cu_a eI_60 (fun z => hq_60 (z ▸ mx0)))
                have e_83 : (I_72 x0 10).toInt = (I_60 x0 10).toInt := congrArg Int32.toInt ((fr_72 x0 m_61 (fun z => hq_60 (List.mem_singleton.mp z ▸ mx0))).2.2.1 10 (by rw [k_61]; rfl))
                refine cr_get (κ := 5) (ci := 5) (k := 10) (C := RX5) (T := TX5) (N := 13) (fs := cfs 5) (v := .int (I_72 x0 10)) E hM m_73 k_73 (fun _ _ => rfl) rfl hin5 (by decide) (index := 80) (mm_at 1 rfl) rfl rfl dX5_race_103 ?_
                refine lv_iconst (v := 1) hx hb dX5_race_106 (by decide) ?_
                refine mm_iadd (X := (I_72 x0 10).toInt) (Y := 1) hx hb dX5_race_107 rfl num_1 (by omega) (fun z_84 hz_84 => ?_)
                have o_85 : O_60 x0 9 = some rr := (congrFun (cu_a eO_60 (fun z => hq_60 (z ▸ mx0))) 9).trans hrr
                have o_86 : O_72 x0 9 = some rr := ((fr_72 x0 m_61 (fun z => hq_60 (List.mem_singleton.mp z ▸ mx0))).2.2.2 9 (by rw [k_61]; rfl)).trans o_85
                have o_87 : O_80 x0 9 = some rr := (congrFun (cu_a eO_80 (c_ne k_73 k_75 (by decide))) 9).trans o_86
                have o_88 : O_80 rr (Int32.toNatClampNeg (I x0 10)) = some q_60 := co_s eO_80
                refine cr_puti (κ := 5) (ci := 5) (k := 10) (C := RX5) (T := TX5) (N := 13) (fs := cfs 5) (ty := .int) (v := z_84) E hM m_73 k_73 (fun _ _ => rfl) rfl hin5 tyX5 tyX5_ok nmX5 (by decide) (index := 80) (mm_at 1 rfl) rfl (Or.inl rfl) (by decide +kernel) rfl rfl (show (10 : Nat) < 13 from by decide) (fun _ _ _ => rfl) (cz_bd (X := z_84.toInt) (a := 0) (b := 8) rfl rfl (by omega)) (cS_cnt5 (hM.sp m_73 k_73) o_87 (n0 := Int32.toNatClampNeg (I x0 10)) (by rw [o_88]; exact fun z => by cases z) (by rw [mm_nat]; omega) (by omega)) (Or.inr (Or.inr rfl)) dX5_race_108 (fun H locs I_89 eI_89 hM => ?_)
                refine lv_aload_n hx hb dX5_race_111 rfl (lv_at hl 3 rfl) ?_
                have b_90 : 0 ≤ (I_89 x0 10).toInt ∧ (I_89 x0 10).toInt ≤ 8 := hM.ib m_73 k_73 10 rfl
                have e_91 : (I_89 x0 10).toInt = z_84.toInt := (congrArg Int32.toInt (cu_s eI_89)).trans rfl
                refine cr_get (κ := 5) (ci := 5) (k := 10) (C := RX5) (T := TX5) (N := 13) (fs := cfs 5) (v := .int (I_89 x0 10)) E hM m_73 k_73 (fun _ _ => rfl) rfl hin5 (by decide) (index := 80) (mm_at 1 rfl) rfl rfl dX5_race_112 ?_
                refine lv_iconst (v := 1) hx hb dX5_race_115 (by decide) ?_
                refine mm_isub (X := (I_89 x0 10).toInt) (Y := 1) hx hb dX5_race_116 rfl num_1 (by omega) (fun z_92 hz_92 => ?_)
                exact cr_ri (mc := 2) (ms := 23) E hr hlk hsz hM ⟨show (2 : Nat) ≤ 2 from by omega, show (23 : Nat) ≤ 23 from by omega⟩ (show (z_92.toInt = -1 ∧ (L_72 = L ∧ K_72 = K ∧ I_89 = I ∧ O_80 = O) ∧ (¬ (0 ≤ p0.toInt ∧ p0.toInt < 8) ∨ 8 ≤ (I x0 10).toInt ∨ fo = none ∨ (∃ a : Nat, fo = some a ∧ (((I a 6).toInt = 2 ∧ ¬ (0 ≤ p1.toInt ∧ p1.toInt < (I x0 10).toInt)) ∨ (¬ (I a 6).toInt = 2 ∧ ¬ p1.toInt = -1))))) ∨ (∃ a b es : Nat, fo = some a ∧ z_92.toInt = (I x0 10).toInt ∧ (I_89 x0 10).toInt = (I x0 10).toInt + 1 ∧ (0 ≤ p0.toInt ∧ p0.toInt < 8) ∧ (I x0 10).toInt < 8 ∧ (((I a 6).toInt = 2 ∧ (0 ≤ p1.toInt ∧ p1.toInt < (I x0 10).toInt) ∧ O_80 b 1 = O rr (Int32.toNatClampNeg p1)) ∨ (¬ (I a 6).toInt = 2 ∧ p1.toInt = -1 ∧ O_80 b 1 = none)) ∧ b ∉ L ∧ b ∈ L_72 ∧ K_72 b = 3 ∧ O_80 b 0 = some a ∧ (I_89 b 2).toInt = p1.toInt ∧ (I_89 b 4).toInt = 0 ∧ (I_89 b 5).toInt = 0 ∧ O_80 b 3 = some es ∧ es ∉ L ∧ es ∈ L_72 ∧ K_72 es = 15 ∧ (∀ g : Nat, O_80 rr g = if g = Int32.toNatClampNeg (I x0 10) then some b else O rr g)) from by have o_93 : O_80 q_60 0 = some x_7 := (congrFun (cu_a eO_80 (c_ne k_78 k_75 (by decide))) 0).trans o0_79; have o_94 : O_80 q_60 1 = some b_12 := (congrFun (cu_a eO_80 (c_ne k_78 k_75 (by decide))) 1).trans o1_79; have o_95 : O_80 q_60 3 = some es_79 := (congrFun (cu_a eO_80 (c_ne k_78 k_75 (by decide))) 3).trans o3_79; have e_96 : (I_89 q_60 2).toInt = (I_72 q_60 2).toInt := congrArg Int32.toInt (cu_k eI_89 (by decide)); have b_97 : 0 ≤ (I_89 q_60 4).toInt ∧ (I_89 q_60 4).toInt ≤ 16 := hM.ib m_78 k_78 4 rfl; have e_98 : (I_89 q_60 4).toInt = (I_72 q_60 4).toInt := congrArg Int32.toInt (cu_k eI_89 (by decide)); have e_99 : (I_89 q_60 5).toInt = (I_72 q_60 5).toInt := congrArg Int32.toInt (cu_k eI_89 (by decide)); exact Or.inr ⟨x_7, q_60, es_79, hfo.symm.trans o_7, by omega, by omega, ⟨by omega, by omega⟩, by omega, Or.inl ⟨by omega, ⟨by omega, by omega⟩, (o_94).trans ob_12.symm⟩, hn_60, m_78, k_78, o_93, by omega, by omega, by omega, o_95, ex_79, em_79, ek_79, fun g => (show O_80 rr g = O_80 rr g from (by have t1_ := tr_60 rr mrr; have k1_ := t1_.2.trans krr; have m1_ := t1_.1; have t2_ := fr_72 rr m1_ (fun z => (fun z => hn_60 (by rw [← z]; exact mrr)) (List.mem_singleton.mp z)); have k2_ := t2_.2.1.trans k1_; have m2_ := t2_.1; exact rfl)).trans ((co_all eO_80).trans (by rw [show O_72 rr g = O rr g from (by have t1_ := tr_60 rr mrr; have k1_ := t1_.2.trans krr; have m1_ := t1_.1; have t2_ := fr_72 rr m1_ (fun z => (fun z => hn_60 (by rw [← z]; exact mrr)) (List.mem_singleton.mp z)); have k2_ := t2_.2.1.trans k1_; have m2_ := t2_.1; exact ((t2_.2.2.2 g (by rw [k1_]; rfl)).trans (congrFun (cu_a eO_60 (fun z => hq_60 (z ▸ mrr))) g)))]))⟩) dX5_race_117
            · refine lv_aload hx hb dX5_race_49 (lv_at hl 0 rfl) ?_
              refine lv_ifnull hx hb dX5_race_51 ?_
              refine lv_iconst (v := 1) hx hb dX5_race_54 (by decide) ?_
              refine lv_goto (tgt := 72) hx hb dX5_race_55 (by decide) ?_
              refine lv_istore (lv' := [(5, .int 1), (4, .ref b_12), (3, .ref x_7), (0, .ref x0), (1, .int p0), (2, .int p1)]) hx hb dX5_race_72 hl (by decide) rfl (fun ls hl => ?_)
              refine lv_iload hx hb dX5_race_74 (lv_at hl 0 rfl) ?_
              refine mm_if_ne (X := 1) (tgt := 81) hx hb dX5_race_76 (by decide) num_1 (fun c_100 => ?_) (fun c_100 => False.elim (by omega))
              refine lv_aload_n hx hb dX5_race_81 rfl (lv_at hl 3 rfl) ?_
              refine cr_get (κ := 5) (ci := 5) (k := 9) (C := RX5) (T := TX5) (N := 13) (fs := cfs 5) (v := .ref rr) E hM mx0 kx0 (fun _ _ => rfl) rfl hin5 (by decide) (index := 29) (mm_at 8 rfl) rfl (by show some (va_rf (O x0 9)) = some (.ref rr); rw [hrr]; rfl) dX5_race_82 ?_
              refine lv_aload_n hx hb dX5_race_85 rfl (lv_at hl 3 rfl) ?_
              refine cr_get (κ := 5) (ci := 5) (k := 10) (C := RX5) (T := TX5) (N := 13) (fs := cfs 5) (v := .int (I x0 10)) E hM mx0 kx0 (fun _ _ => rfl) rfl hin5 (by decide) (index := 80) (mm_at 1 rfl) rfl rfl dX5_race_86 ?_
              have hM0_101 := hM
              refine cr_new (κ := 23) (ci := 3) (C := RX3) (T := TX3) (N := 7) E hA hM (fun _ _ => rfl) rfl hin3 tyX3 tyX3_ok (mm_at 10 rfl) (mm_at 11 rfl) (mm_at 12 rfl) (fun j hj => by rcases (show j = 0 ∨ j = 1 ∨ j = 2 ∨ j = 3 ∨ j = 4 ∨ j = 5 ∨ j = 6 by omega) with rfl | rfl | rfl | rfl | rfl | rfl | rfl <;> rfl) (fun _ => rfl) (by decide) (show (0 + 1 : Nat) ≤ 2 from by omega) (show (0 + 7 : Nat) ≤ 23 from by omega) dX5_race_89 (fun q_101 H L_101 K_101 I_101 O_101 hq_101 eL_101 eK_101 eI_101 eO_101 tr_101 mq_101 kq_101 hM => ?_)
              have hn_101 : q_101 ∉ L := fun z => hq_101 (hM0_101.2.2.2.2 q_101 z (fun z => by cases z)).1
              have m_102 := (tr_101 x0 mx0).1
              have k_102 : K_101 x0 = 5 := (tr_101 x0 mx0).2.trans kx0
              have m_103 := (tr_101 fm mfm).1
              have k_103 : K_101 fm = 14 := (tr_101 fm mfm).2.trans kfm
              have m_104 := (tr_101 rr mrr).1
              have k_104 : K_101 rr = 12 := (tr_101 rr mrr).2.trans krr
              have m_105 := (tr_101 x_7 m_7).1
              have k_105 : K_101 x_7 = 2 := (tr_101 x_7 m_7).2.trans k_7
              have m_106 := (tr_101 b_12 mb_12).1
              have k_106 : K_101 b_12 = 3 := (tr_101 b_12 mb_12).2.trans kb_12
              refine W.widen (k := 1) (n := 7) (by omega) (by omega) ?_
              refine lv_dup hx hb dX5_race_92 rfl ?_
              refine lv_aload_n hx hb dX5_race_93 rfl (lv_at hl 2 rfl) ?_
              refine lv_aload hx hb dX5_race_94 (lv_at hl 1 rfl) ?_
              refine lv_iload_n hx hb dX5_race_96 rfl (lv_at hl 5 rfl) ?_
              have sb9 : ∀ a : Nat, a ∈ L → a ∈ L_101 := fun a h => (hM.2.2.2.2 a h (fun z => by cases z)).1
              have b_108 : 0 ≤ (I_101 q_101 4).toInt ∧ (I_101 q_101 4).toInt ≤ 16 := hM.ib mq_101 kq_101 4 rfl
              have e_109 : (I_101 q_101 4).toInt = 0 := (congrArg Int32.toInt (cn_s eI_101)).trans mm_z0
              have e_110 : (I_101 q_101 5).toInt = 0 := (congrArg Int32.toInt (cn_s eI_101)).trans mm_z0
              refine cc_Iv (vs := [.ref x_7, .ref b_12, .int p1]) (rest := [.ref q_101, .int (I x0 10), .ref rr]) (ret := none) (b := q_101) E hV rfl hA hml hM (h5_X3_init l D cA ad av L_101 K_101 I_101 O_101 _ q_101 x_7 (some b_12) p1 hM.2.2.2.1 mq_101 kq_101 m_105 k_105 (fun b h => by cases h; exact ⟨m_106, k_106⟩) (show (I_101 q_101 4).toInt = 0 from by omega) (show (I_101 q_101 5).toInt = 0 from by omega)) (cwI 3 hts gz_X5_race_X3_init_107 rfl rfl rfl (hts _ (mm_at 12 rfl)) (hts _ (mm_at 13 rfl)) (hts _ (mm_at 14 rfl)) rfl (by decide +kernel) ⟨Nat.le_of_ble_eq_true rfl, Nat.le_of_ble_eq_true rfl⟩) rfl hl.1 rfl (Nat.le_of_ble_eq_true rfl) dX5_race_97 ⟨show (1 + 1 : Nat) ≤ 2 from by omega, show (7 + 16 : Nat) ≤ 23 from by omega⟩ (fun w h => by rw [List.mem_singleton.mp h]; exact Or.inl hn_101) (by decide) (by decide) (fun L_113 K_113 I_113 O_113 H locs fr_113 p_112 hM => ?_)
              have m_114 := (fr_113 x0 m_102 (fun z => hq_101 (List.mem_singleton.mp z ▸ mx0))).1
              have k_114 : K_113 x0 = 5 := (fr_113 x0 m_102 (fun z => hq_101 (List.mem_singleton.mp z ▸ mx0))).2.1.trans k_102
              have m_115 := (fr_113 fm m_103 (fun z => hq_101 (List.mem_singleton.mp z ▸ mfm))).1
              have k_115 : K_113 fm = 14 := (fr_113 fm m_103 (fun z => hq_101 (List.mem_singleton.mp z ▸ mfm))).2.1.trans k_103
              have m_116 := (fr_113 rr m_104 (fun z => hq_101 (List.mem_singleton.mp z ▸ mrr))).1
              have k_116 : K_113 rr = 12 := (fr_113 rr m_104 (fun z => hq_101 (List.mem_singleton.mp z ▸ mrr))).2.1.trans k_104
              have m_117 := (fr_113 x_7 m_105 (fun z => hq_101 (List.mem_singleton.mp z ▸ m_7))).1
              have k_117 : K_113 x_7 = 2 := (fr_113 x_7 m_105 (fun z => hq_101 (List.mem_singleton.mp z ▸ m_7))).2.1.trans k_105
              have m_118 := (fr_113 b_12 m_106 (fun z => hq_101 (List.mem_singleton.mp z ▸ mb_12))).1
              have k_118 : K_113 b_12 = 3 := (fr_113 b_12 m_106 (fun z => hq_101 (List.mem_singleton.mp z ▸ mb_12))).2.1.trans k_106
              refine W.widen (k := 2) (n := 23) (by omega) (by omega) ?_
              obtain ⟨m_119, k_119, p_112⟩ := p_112
              replace p_112 : O_113 q_101 0 = some x_7 ∧ O_113 q_101 1 = (some b_12) ∧ (I_113 q_101 2).toInt = p1.toInt ∧ (I_113 q_101 4).toInt = 0 ∧ (I_113 q_101 5).toInt = 0 ∧ ∃ es : Nat, O_113 q_101 3 = some es ∧ es ∉ L_101 ∧ es ∈ L_113 ∧ K_113 es = 15 := p_112
              rcases p_112 with ⟨o0_120, o1_120, b2_120, b4_120, b5_120, es_120, o3_120, el_120, em_120, ek_120⟩
              have ex_120 : es_120 ∉ L := fun z => el_120 (sb9 _ z)
              refine cr_aast (κ := 12) (κb := 3) (ci := 3) (t0 := 2) (r := (RX3, TX3, 7)) (X := (I x0 10).toInt) E hM m_116 k_116 (fun _ _ => rfl) rfl m_119 k_119 rfl rfl rfl (by omega) (by decide) (fun _ => rfl) (Or.inr (Or.inr (fun _ => rfl))) dX5_race_100 (fun H locs O_121 eO_121 hM => ?_)
              refine lv_aload_n hx hb dX5_race_101 rfl (lv_at hl 3 rfl) ?_
              refine lv_dup hx hb dX5_race_102 rfl ?_
              have b_122 : 0 ≤ (I_113 x0 10).toInt ∧ (I_113 x0 10).toInt ≤ 8 := hM.ib m_114 k_114 10 rfl
              have e_123 : (I_101 x0 10).toInt = (I x0 10).toInt := congrArg (fun z => Int32.toInt (z 10)) (cu_a eI_101 (fun z => hq_101 (z ▸ mx0)))
              have e_124 : (I_113 x0 10).toInt = (I_101 x0 10).toInt := congrArg Int32.toInt ((fr_113 x0 m_102 (fun z => hq_101 (List.mem_singleton.mp z ▸ mx0))).2.2.1 10 (by rw [k_102]; rfl))
              refine cr_get (κ := 5) (ci := 5) (k := 10) (C := RX5) (T := TX5) (N := 13) (fs := cfs 5) (v := .int (I_113 x0 10)) E hM m_114 k_114 (fun _ _ => rfl) rfl hin5 (by decide) (index := 80) (mm_at 1 rfl) rfl rfl dX5_race_103 ?_
              refine lv_iconst (v := 1) hx hb dX5_race_106 (by decide) ?_
              refine mm_iadd (X := (I_113 x0 10).toInt) (Y := 1) hx hb dX5_race_107 rfl num_1 (by omega) (fun z_125 hz_125 => ?_)
              have o_126 : O_101 x0 9 = some rr := (congrFun (cu_a eO_101 (fun z => hq_101 (z ▸ mx0))) 9).trans hrr
              have o_127 : O_113 x0 9 = some rr := ((fr_113 x0 m_102 (fun z => hq_101 (List.mem_singleton.mp z ▸ mx0))).2.2.2 9 (by rw [k_102]; rfl)).trans o_126
              have o_128 : O_121 x0 9 = some rr := (congrFun (cu_a eO_121 (c_ne k_114 k_116 (by decide))) 9).trans o_127
              have o_129 : O_121 rr (Int32.toNatClampNeg (I x0 10)) = some q_101 := co_s eO_121
              refine cr_puti (κ := 5) (ci := 5) (k := 10) (C := RX5) (T := TX5) (N := 13) (fs := cfs 5) (ty := .int) (v := z_125) E hM m_114 k_114 (fun _ _ => rfl) rfl hin5 tyX5 tyX5_ok nmX5 (by decide) (index := 80) (mm_at 1 rfl) rfl (Or.inl rfl) (by decide +kernel) rfl rfl (show (10 : Nat) < 13 from by decide) (fun _ _ _ => rfl) (cz_bd (X := z_125.toInt) (a := 0) (b := 8) rfl rfl (by omega)) (cS_cnt5 (hM.sp m_114 k_114) o_128 (n0 := Int32.toNatClampNeg (I x0 10)) (by rw [o_129]; exact fun z => by cases z) (by rw [mm_nat]; omega) (by omega)) (Or.inr (Or.inr rfl)) dX5_race_108 (fun H locs I_130 eI_130 hM => ?_)
              refine lv_aload_n hx hb dX5_race_111 rfl (lv_at hl 3 rfl) ?_
              have b_131 : 0 ≤ (I_130 x0 10).toInt ∧ (I_130 x0 10).toInt ≤ 8 := hM.ib m_114 k_114 10 rfl
              have e_132 : (I_130 x0 10).toInt = z_125.toInt := (congrArg Int32.toInt (cu_s eI_130)).trans rfl
              refine cr_get (κ := 5) (ci := 5) (k := 10) (C := RX5) (T := TX5) (N := 13) (fs := cfs 5) (v := .int (I_130 x0 10)) E hM m_114 k_114 (fun _ _ => rfl) rfl hin5 (by decide) (index := 80) (mm_at 1 rfl) rfl rfl dX5_race_112 ?_
              refine lv_iconst (v := 1) hx hb dX5_race_115 (by decide) ?_
              refine mm_isub (X := (I_130 x0 10).toInt) (Y := 1) hx hb dX5_race_116 rfl num_1 (by omega) (fun z_133 hz_133 => ?_)
              exact cr_ri (mc := 2) (ms := 23) E hr hlk hsz hM ⟨show (2 : Nat) ≤ 2 from by omega, show (23 : Nat) ≤ 23 from by omega⟩ (show (z_133.toInt = -1 ∧ (L_113 = L ∧ K_113 = K ∧ I_130 = I ∧ O_121 = O) ∧ (¬ (0 ≤ p0.toInt ∧ p0.toInt < 8) ∨ 8 ≤ (I x0 10).toInt ∨ fo = none ∨ (∃ a : Nat, fo = some a ∧ (((I a 6).toInt = 2 ∧ ¬ (0 ≤ p1.toInt ∧ p1.toInt < (I x0 10).toInt)) ∨ (¬ (I a 6).toInt = 2 ∧ ¬ p1.toInt = -1))))) ∨ (∃ a b es : Nat, fo = some a ∧ z_133.toInt = (I x0 10).toInt ∧ (I_130 x0 10).toInt = (I x0 10).toInt + 1 ∧ (0 ≤ p0.toInt ∧ p0.toInt < 8) ∧ (I x0 10).toInt < 8 ∧ (((I a 6).toInt = 2 ∧ (0 ≤ p1.toInt ∧ p1.toInt < (I x0 10).toInt) ∧ O_121 b 1 = O rr (Int32.toNatClampNeg p1)) ∨ (¬ (I a 6).toInt = 2 ∧ p1.toInt = -1 ∧ O_121 b 1 = none)) ∧ b ∉ L ∧ b ∈ L_113 ∧ K_113 b = 3 ∧ O_121 b 0 = some a ∧ (I_130 b 2).toInt = p1.toInt ∧ (I_130 b 4).toInt = 0 ∧ (I_130 b 5).toInt = 0 ∧ O_121 b 3 = some es ∧ es ∉ L ∧ es ∈ L_113 ∧ K_113 es = 15 ∧ (∀ g : Nat, O_121 rr g = if g = Int32.toNatClampNeg (I x0 10) then some b else O rr g)) from by have o_134 : O_121 q_101 0 = some x_7 := (congrFun (cu_a eO_121 (c_ne k_119 k_116 (by decide))) 0).trans o0_120; have o_135 : O_121 q_101 1 = some b_12 := (congrFun (cu_a eO_121 (c_ne k_119 k_116 (by decide))) 1).trans o1_120; have o_136 : O_121 q_101 3 = some es_120 := (congrFun (cu_a eO_121 (c_ne k_119 k_116 (by decide))) 3).trans o3_120; have e_137 : (I_130 q_101 2).toInt = (I_113 q_101 2).toInt := congrArg Int32.toInt (cu_k eI_130 (by decide)); have b_138 : 0 ≤ (I_130 q_101 4).toInt ∧ (I_130 q_101 4).toInt ≤ 16 := hM.ib m_119 k_119 4 rfl; have e_139 : (I_130 q_101 4).toInt = (I_113 q_101 4).toInt := congrArg Int32.toInt (cu_k eI_130 (by decide)); have e_140 : (I_130 q_101 5).toInt = (I_113 q_101 5).toInt := congrArg Int32.toInt (cu_k eI_130 (by decide)); exact Or.inr ⟨x_7, q_101, es_120, hfo.symm.trans o_7, by omega, by omega, ⟨by omega, by omega⟩, by omega, Or.inl ⟨by omega, ⟨by omega, by omega⟩, (o_135).trans ob_12.symm⟩, hn_101, m_119, k_119, o_134, by omega, by omega, by omega, o_136, ex_120, em_120, ek_120, fun g => (show O_121 rr g = O_121 rr g from (by have t1_ := tr_101 rr mrr; have k1_ := t1_.2.trans krr; have m1_ := t1_.1; have t2_ := fr_113 rr m1_ (fun z => (fun z => hn_101 (by rw [← z]; exact mrr)) (List.mem_singleton.mp z)); have k2_ := t2_.2.1.trans k1_; have m2_ := t2_.1; exact rfl)).trans ((co_all eO_121).trans (by rw [show O_113 rr g = O rr g from (by have t1_ := tr_101 rr mrr; have k1_ := t1_.2.trans krr; have m1_ := t1_.1; have t2_ := fr_113 rr m1_ (fun z => (fun z => hn_101 (by rw [← z]; exact mrr)) (List.mem_singleton.mp z)); have k2_ := t2_.2.1.trans k1_; have m2_ := t2_.1; exact ((t2_.2.2.2 g (by rw [k1_]; rfl)).trans (congrFun (cu_a eO_101 (fun z => hq_101 (z ▸ mrr))) g)))]))⟩) dX5_race_117
      · refine lv_iconst (v := (-1)) hx hb dX5_race_19 (by decide) ?_
        exact cr_ri (mc := 2) (ms := 23) E hr hlk hsz hM ⟨show (0 : Nat) ≤ 2 from by omega, show (0 : Nat) ≤ 23 from by omega⟩ (show (((-1) : Int32).toInt = -1 ∧ (L = L ∧ K = K ∧ I = I ∧ O = O) ∧ (¬ (0 ≤ p0.toInt ∧ p0.toInt < 8) ∨ 8 ≤ (I x0 10).toInt ∨ fo = none ∨ (∃ a : Nat, fo = some a ∧ (((I a 6).toInt = 2 ∧ ¬ (0 ≤ p1.toInt ∧ p1.toInt < (I x0 10).toInt)) ∨ (¬ (I a 6).toInt = 2 ∧ ¬ p1.toInt = -1))))) ∨ (∃ a b es : Nat, fo = some a ∧ ((-1) : Int32).toInt = (I x0 10).toInt ∧ (I x0 10).toInt = (I x0 10).toInt + 1 ∧ (0 ≤ p0.toInt ∧ p0.toInt < 8) ∧ (I x0 10).toInt < 8 ∧ (((I a 6).toInt = 2 ∧ (0 ≤ p1.toInt ∧ p1.toInt < (I x0 10).toInt) ∧ O b 1 = O rr (Int32.toNatClampNeg p1)) ∨ (¬ (I a 6).toInt = 2 ∧ p1.toInt = -1 ∧ O b 1 = none)) ∧ b ∉ L ∧ b ∈ L ∧ K b = 3 ∧ O b 0 = some a ∧ (I b 2).toInt = p1.toInt ∧ (I b 4).toInt = 0 ∧ (I b 5).toInt = 0 ∧ O b 3 = some es ∧ es ∉ L ∧ es ∈ L ∧ K es = 15 ∧ (∀ g : Nat, O rr g = if g = Int32.toNatClampNeg (I x0 10) then some b else O rr g)) from by have n9 := num_m1; first | exact Or.inl ⟨by omega, ⟨rfl, rfl, rfl, rfl⟩, Or.inl (by omega)⟩ | exact Or.inl ⟨by omega, ⟨rfl, rfl, rfl, rfl⟩, Or.inr (Or.inl (by omega))⟩) dX5_race_20
