def zTx (kz : Nat → Nat) (nz : Nat) (I : Nat → Nat → Int32) (O : Nat → Nat → Option Nat) (x0 : Nat) : Prop := ∃ tp : Nat, O x0 0 = some tp ∧ (I x0 1).toInt = (nz : Int) ∧ kz = zk (fun j => (I tp j).toInt) nz
section ZTX
variable {kz : Nat → Nat} {nz : Nat} {I : Nat → Nat → Int32} {O : Nat → Nat → Option Nat} {x0 : Nat}
theorem zTx_k (h : zTx kz nz I O x0) {a : Nat} (o : O x0 0 = some a) : (I x0 1).toInt = (nz : Int) ∧ kz = zk (fun j => (I a j).toInt) nz := by
  obtain ⟨tp, h1, h2, h3⟩ := h
  rw [o] at h1
  cases h1
  exact ⟨h2, h3⟩
theorem zTx_n (h : zTx kz nz I O x0) : (I x0 1).toInt = (nz : Int) := h.choose_spec.2.1
theorem zTx_out (h : zTx kz nz I O x0) : zout kz nz := by
  obtain ⟨tp, h1, h2, h3⟩ := h
  rw [h3]; exact zk_out _ _
theorem zTx_at (h : zTx kz nz I O x0) {a : Nat} (o : O x0 0 = some a) {p c : Nat} (hc : c < 128) : kz p = c ↔ p < nz ∧ (I a p).toInt = (c : Int) := by
  rw [(zTx_k h o).2]; exact zk_at hc
theorem zTx_dg (h : zTx kz nz I O x0) {a : Nat} (o : O x0 0 = some a) {p : Nat} (hd : zdg kz p) : (I a p).toInt = (kz p : Int) ∧ 48 ≤ kz p ∧ kz p ≤ 57 := by
  have h1 := hd
  unfold zdg at h1
  exact ⟨((zTx_at h o (c := kz p) (by omega)).mp rfl).2, h1⟩
theorem zTx_fr {L L1 : List Nat} {K K1 : Nat → Nat} {I1 : Nat → Nat → Int32} {O1 : Nat → Nat → Option Nat} {WI WO : List (Nat × Nat)} (h : zTx kz nz I O x0) (hI : cI L K I O) (mx0 : x0 ∈ L) (kx0 : K x0 = 4) (f : cFr [] WI WO L K I O L1 K1 I1 O1) (a : cin WI 4 1 = false) (b : cin WI 10 0 = false) (c : cin WO 4 0 = false) : zTx kz nz I1 O1 x0 := by
  obtain ⟨tp, h1, h2, h3⟩ := h
  obtain ⟨-, -, i1, o1⟩ := f x0 mx0 List.not_mem_nil
  rw [kx0] at i1 o1
  obtain ⟨mt, kt⟩ := (hI x0 mx0).2.1 0 10 tp (by rw [kx0]; rfl) h1
  obtain ⟨-, -, i2, -⟩ := f tp mt List.not_mem_nil
  rw [kt] at i2
  refine ⟨tp, (o1 0 c).trans h1, by rw [i1 1 a]; exact h2, ?_⟩
  rw [h3]
  congr 1
  funext j
  rw [i2 j b]
end ZTX
theorem zso_4 {k : Nat → Nat} {n p : Nat} : zso k n p = 4 ↔ p < n ∧ zbl k p := by
  unfold zso zbl
  constructor
  · intro h; (repeat' split at h) <;> omega
  · intro ⟨h1, h2⟩; rw [if_neg (by omega), if_pos h2]
def zpre (k : Nat → Nat) (p : Nat) (w : List Nat) (i : Nat) : Prop := ∀ j : Nat, j < i → k (p + j) = w.getD j 0
def zrun (p : Nat → Prop) (x y : Nat) : Prop := x ≤ y ∧ ∀ j : Nat, x ≤ j → j < y → p j
theorem zty_s {k : Nat → Nat} {n x p b : Nat} (ht : ztp k x = p) (hb : (n ≤ p ∧ b = n) ∨ (p < n ∧ ¬ zso k n p = 1 ∧ ¬ zso k n p = 2 ∧ b = p + 1)) : zty k n x = b := by
  refine zty_eq ?_
  rw [ht]
  rcases hb with ⟨a, c⟩ | ⟨a, c, d, e⟩
  · exact Or.inl ⟨a, c⟩
  · exact Or.inr (Or.inr (Or.inr ⟨a, fun s => c (zso_1.mpr ⟨a, s⟩), fun s => d (zso_2.mpr ⟨a, s⟩), e⟩))
theorem zty_r {k : Nat → Nat} {n x b : Nat} (hou : zout k n) (hs : zso k n (ztp k x) = 1 ∨ zso k n (ztp k x) = 2) (hr : zrun (fun j => zso k n j = zso k n (ztp k x)) (ztp k x) b) (he : ¬ zso k n b = zso k n (ztp k x)) : zty k n x = b := by
  refine zty_eq ?_
  rcases hs with hs | hs
  · obtain ⟨h1, h2⟩ := zso_1.mp hs
    exact Or.inr (Or.inl ⟨h1, h2, hr.1, fun j a c => (zso_1.mp ((hr.2 j a c).trans hs)).2, fun s => he ((zso_1.mpr ⟨zsm_lt hou s, s⟩).trans hs.symm)⟩)
  · obtain ⟨h1, h2⟩ := zso_2.mp hs
    exact Or.inr (Or.inr (Or.inl ⟨h1, h2, hr.1, fun j a c => (zso_2.mp ((hr.2 j a c).trans hs)).2, fun s => he ((zso_2.mpr ⟨zdg_lt hou s, s⟩).trans hs.symm)⟩))
theorem zdg_run {k : Nat → Nat} {n x j : Nat} (hou : zout k n) (h2 : zso k n (ztp k x) = 2) (a : ztp k x ≤ j) (b : j < zty k n x) : zdg k j := by
  obtain ⟨c, d⟩ := zso_2.mp h2
  rcases zty_spec hou x with ⟨e, f⟩ | ⟨e, f, g⟩ | ⟨e, f, g⟩ | ⟨e, f, g, h⟩
  · omega
  · unfold zsm at f; unfold zdg at d; omega
  · exact g.2.1 j a b
  · exact absurd d g
theorem zty_gt {k : Nat → Nat} {n x : Nat} (hou : zout k n) (h2 : zso k n (ztp k x) = 2) : ztp k x ≤ zty k n x := by
  obtain ⟨c, d⟩ := zso_2.mp h2
  rcases zty_spec hou x with ⟨e, f⟩ | ⟨e, f, g⟩ | ⟨e, f, g⟩ | ⟨e, f, g, h⟩
  · omega
  · exact g.1
  · exact g.1
  · omega
theorem zS_3 {k : Nat → Nat} {n x c : Nat} (h : zS k n x c) (hc : c = 59 ∨ c = 123 ∨ c = 125 ∨ (65 ≤ c ∧ c ≤ 72)) : zso k n (ztp k x) = 3 := zso_3.mpr ⟨h.1, fun b => by have := h.2; unfold zbl at b; omega, fun b => by have := h.2; unfold zsm at b; omega, fun b => by have := h.2; unfold zdg at b; omega⟩
theorem zwl_cln : ∀ si : Nat, si < 11 → (zwl si).length = cln.getD si 0 := by decide
theorem zch : ∀ si : Nat, si < 11 → ∀ i : Nat, i < cln.getD si 0 → ((((cby.getD si []).getD i 0 &&& (255 : Int32)).toUInt32 % 65536).toInt32).toInt = ((zwl si).getD i 0 : Int) := by decide +kernel
def w5X4_sortAt : List Cond := .code yX4_sortAt cX4_sortAt 3 (some .int) :: ([.fieldLink RX4 21 "SkiShots$Reader" "length" "I", .fieldLink RX4 9 "SkiShots$Reader" "text" "[B"] ++ wsX40)
set_option maxHeartbeats 4000000 in
set_option maxRecDepth 100000 in
theorem h5_X4_sortAt (l : Launch) (D : va_G) (cA : Nat → ClassId) (ad av : Nat → Nat) (L : List Nat) (K : Nat → Nat) (I : Nat → Nat → Int32) (O : Nat → Nat → Option Nat) (sz : Nat) (x0 : Nat) (p0 : Int32) (hI : cI L K I O) (mx0 : x0 ∈ L) (kx0 : K x0 = 4) (kz : Nat → Nat) (nz : Nat) (htx : zTx kz nz I O x0) : Met l yX4_sortAt w5X4_sortAt ({ frames := 0, cells := 0, slots := 0, locals := 0 }) (cPre D cA ad av L K I O sz [.ref x0, .int p0]) (cQi D cA L K I O sz [] [] [] (fun r L' K' I' O' => (L' = L ∧ K' = K ∧ I' = I ∧ O' = O) ∧ (0 ≤ r.toInt ∧ r.toInt ≤ 4 ∧ (r.toInt = 0 ∨ p0.toInt ≤ 999) ∧ (0 ≤ p0.toInt → r.toInt = zso kz nz p0.toInt.toNat)))) 0 0 (va_A (cW cA L K I O) sz) := by
  refine cr_met (own := RX4) (xs := []) (WI := []) (WO := []) (cc := cX4_sortAt) (maxL := 3) (ret := (some .int)) (by decide) rfl rfl (Nat.le_of_ble_eq_true rfl) hI ?_
  intro p e s m args below meth c ls E hV hml hr hlk hname hsz hA hM hl
  have hx := E.1
  have hb := E.2.1
  have hts := E.2.2.1
  have hown := E.2.2.2.1
  have hl : lv_has ls 3 [(0, .ref x0), (1, .int p0)] := hl
  have hin4 : ∀ w ∈ wsX40, w ∈ w5X4_sortAt := by decide +kernel
  have hnz := zTx_n htx
  refine lv_iload_n hx hb dX4_sortAt_0 rfl (lv_at hl 1 rfl) ?_
  refine mm_if_lt (X := p0.toInt) (tgt := 12) hx hb dX4_sortAt_1 (by decide) rfl (fun c_1 => ?_) (fun c_1 => ?_)
  · refine lv_iconst (v := 0) hx hb dX4_sortAt_12 (by decide) ?_
    exact cr_ri (mc := 0) (ms := 0) E hr hlk hsz hM ⟨show (0 : Nat) ≤ 0 from by omega, show (0 : Nat) ≤ 0 from by omega⟩ ⟨⟨rfl, rfl, rfl, rfl⟩, (show 0 ≤ (0 : Int32).toInt ∧ (0 : Int32).toInt ≤ 4 ∧ ((0 : Int32).toInt = 0 ∨ p0.toInt ≤ 999) ∧ (0 ≤ p0.toInt → (0 : Int32).toInt = zso kz nz p0.toInt.toNat) from by have n9 := num_0; exact ⟨by omega, by omega, by omega, fun h0 => by rw [zso_end (by omega)]; omega⟩)⟩ dX4_sortAt_13
  · refine lv_iload_n hx hb dX4_sortAt_4 rfl (lv_at hl 1 rfl) ?_
    refine lv_aload_n hx hb dX4_sortAt_5 rfl (lv_at hl 0 rfl) ?_
    have b_2 : 0 ≤ (I x0 1).toInt ∧ (I x0 1).toInt ≤ 1000 := hM.ib mx0 kx0 1 rfl
    refine cr_get (κ := 4) (ci := 4) (k := 1) (C := RX4) (T := TX4) (N := 10) (fs := cfs 4) (v := .int (I x0 1)) E hM mx0 kx0 (fun _ _ => rfl) rfl hin4 (by decide) (index := 21) (mm_at 1 rfl) rfl rfl dX4_sortAt_6 ?_
    refine mm_icmp_lt (X := p0.toInt) (Y := (I x0 1).toInt) (tgt := 14) hx hb dX4_sortAt_9 (by decide) rfl rfl (fun c_3 => ?_) (fun c_3 => ?_)
    · refine lv_aload_n hx hb dX4_sortAt_14 rfl (lv_at hl 0 rfl) ?_
      obtain ⟨x_4, o_4, m_4, k_4⟩ := hM.nn mx0 kx0 0 (κ' := 10) rfl rfl
      refine cr_get (κ := 4) (ci := 4) (k := 0) (C := RX4) (T := TX4) (N := 10) (fs := cfs 4) (v := .ref x_4) E hM mx0 kx0 (fun _ _ => rfl) rfl hin4 (by decide) (index := 9) (mm_at 2 rfl) rfl (by show some (va_rf (O x0 0)) = some (.ref x_4); rw [o_4]; rfl) dX4_sortAt_15 ?_
      refine lv_iload_n hx hb dX4_sortAt_18 rfl (lv_at hl 1 rfl) ?_
      refine cr_bald (κ := 10) (t0 := 0) (X := p0.toInt) E hM m_4 k_4 (fun _ _ => rfl) rfl rfl (by omega) dX4_sortAt_19 ?_
      refine lv_istore_n (lv' := [(2, .int (I x_4 (Int32.toNatClampNeg p0))), (0, .ref x0), (1, .int p0)]) hx hb dX4_sortAt_20 rfl hl (by decide) rfl (fun ls hl => ?_)
      refine lv_iload_n hx hb dX4_sortAt_21 rfl (lv_at hl 0 rfl) ?_
      refine lv_bipush (v := 10) hx hb dX4_sortAt_22 (by decide) ?_
      refine mm_icmp_eq (X := (I x_4 (Int32.toNatClampNeg p0)).toInt) (Y := 10) (tgt := 33) hx hb dX4_sortAt_24 (by decide) rfl num_10 (fun c_5 => ?_) (fun c_5 => ?_)
      · refine lv_iconst (v := 4) hx hb dX4_sortAt_33 (by decide) ?_
        exact cr_ri (mc := 0) (ms := 0) E hr hlk hsz hM ⟨show (0 : Nat) ≤ 0 from by omega, show (0 : Nat) ≤ 0 from by omega⟩ ⟨⟨rfl, rfl, rfl, rfl⟩, (show 0 ≤ (4 : Int32).toInt ∧ (4 : Int32).toInt ≤ 4 ∧ ((4 : Int32).toInt = 0 ∨ p0.toInt ≤ 999) ∧ (0 ≤ p0.toInt → (4 : Int32).toInt = zso kz nz p0.toInt.toNat) from by have n9 := num_4; exact ⟨by omega, by omega, by omega, fun h0 => by have e9 : (I x_4 p0.toInt.toNat).toInt = (I x_4 (Int32.toNatClampNeg p0)).toInt := rfl; rw [(zTx_k htx o_4).2, zso_x]; (try dsimp only); (repeat' split) <;> omega⟩)⟩ dX4_sortAt_34
      · refine lv_iload_n hx hb dX4_sortAt_27 rfl (lv_at hl 0 rfl) ?_
        refine lv_bipush (v := 32) hx hb dX4_sortAt_28 (by decide) ?_
        refine mm_icmp_ne (X := (I x_4 (Int32.toNatClampNeg p0)).toInt) (Y := 32) (tgt := 35) hx hb dX4_sortAt_30 (by decide) rfl num_32 (fun c_6 => ?_) (fun c_6 => ?_)
        · refine lv_iload_n hx hb dX4_sortAt_35 rfl (lv_at hl 0 rfl) ?_
          refine lv_bipush (v := 97) hx hb dX4_sortAt_36 (by decide) ?_
          refine mm_icmp_lt (X := (I x_4 (Int32.toNatClampNeg p0)).toInt) (Y := 97) (tgt := 49) hx hb dX4_sortAt_38 (by decide) rfl num_97 (fun c_7 => ?_) (fun c_7 => ?_)
          · refine lv_iload_n hx hb dX4_sortAt_49 rfl (lv_at hl 0 rfl) ?_
            refine lv_bipush (v := 48) hx hb dX4_sortAt_50 (by decide) ?_
            refine mm_icmp_lt (X := (I x_4 (Int32.toNatClampNeg p0)).toInt) (Y := 48) (tgt := 65) hx hb dX4_sortAt_52 (by decide) rfl num_48 (fun c_8 => ?_) (fun c_8 => ?_)
            · refine lv_iconst (v := 3) hx hb dX4_sortAt_65 (by decide) ?_
              exact cr_ri (mc := 0) (ms := 0) E hr hlk hsz hM ⟨show (0 : Nat) ≤ 0 from by omega, show (0 : Nat) ≤ 0 from by omega⟩ ⟨⟨rfl, rfl, rfl, rfl⟩, (show 0 ≤ (3 : Int32).toInt ∧ (3 : Int32).toInt ≤ 4 ∧ ((3 : Int32).toInt = 0 ∨ p0.toInt ≤ 999) ∧ (0 ≤ p0.toInt → (3 : Int32).toInt = zso kz nz p0.toInt.toNat) from by have n9 := num_3; exact ⟨by omega, by omega, by omega, fun h0 => by have e9 : (I x_4 p0.toInt.toNat).toInt = (I x_4 (Int32.toNatClampNeg p0)).toInt := rfl; rw [(zTx_k htx o_4).2, zso_x]; (try dsimp only); (repeat' split) <;> omega⟩)⟩ dX4_sortAt_66
            · refine lv_iload_n hx hb dX4_sortAt_55 rfl (lv_at hl 0 rfl) ?_
              refine lv_bipush (v := 57) hx hb dX4_sortAt_56 (by decide) ?_
              refine mm_icmp_gt (X := (I x_4 (Int32.toNatClampNeg p0)).toInt) (Y := 57) (tgt := 65) hx hb dX4_sortAt_58 (by decide) rfl num_57 (fun c_9 => ?_) (fun c_9 => ?_)
              · refine lv_iconst (v := 3) hx hb dX4_sortAt_65 (by decide) ?_
                exact cr_ri (mc := 0) (ms := 0) E hr hlk hsz hM ⟨show (0 : Nat) ≤ 0 from by omega, show (0 : Nat) ≤ 0 from by omega⟩ ⟨⟨rfl, rfl, rfl, rfl⟩, (show 0 ≤ (3 : Int32).toInt ∧ (3 : Int32).toInt ≤ 4 ∧ ((3 : Int32).toInt = 0 ∨ p0.toInt ≤ 999) ∧ (0 ≤ p0.toInt → (3 : Int32).toInt = zso kz nz p0.toInt.toNat) from by have n9 := num_3; exact ⟨by omega, by omega, by omega, fun h0 => by have e9 : (I x_4 p0.toInt.toNat).toInt = (I x_4 (Int32.toNatClampNeg p0)).toInt := rfl; rw [(zTx_k htx o_4).2, zso_x]; (try dsimp only); (repeat' split) <;> omega⟩)⟩ dX4_sortAt_66
              · refine lv_iconst (v := 2) hx hb dX4_sortAt_61 (by decide) ?_
                refine lv_goto (tgt := 66) hx hb dX4_sortAt_62 (by decide) ?_
                exact cr_ri (mc := 0) (ms := 0) E hr hlk hsz hM ⟨show (0 : Nat) ≤ 0 from by omega, show (0 : Nat) ≤ 0 from by omega⟩ ⟨⟨rfl, rfl, rfl, rfl⟩, (show 0 ≤ (2 : Int32).toInt ∧ (2 : Int32).toInt ≤ 4 ∧ ((2 : Int32).toInt = 0 ∨ p0.toInt ≤ 999) ∧ (0 ≤ p0.toInt → (2 : Int32).toInt = zso kz nz p0.toInt.toNat) from by have n9 := num_2; exact ⟨by omega, by omega, by omega, fun h0 => by have e9 : (I x_4 p0.toInt.toNat).toInt = (I x_4 (Int32.toNatClampNeg p0)).toInt := rfl; rw [(zTx_k htx o_4).2, zso_x]; (try dsimp only); (repeat' split) <;> omega⟩)⟩ dX4_sortAt_66
          · refine lv_iload_n hx hb dX4_sortAt_41 rfl (lv_at hl 0 rfl) ?_
            refine lv_bipush (v := 122) hx hb dX4_sortAt_42 (by decide) ?_
            refine mm_icmp_gt (X := (I x_4 (Int32.toNatClampNeg p0)).toInt) (Y := 122) (tgt := 49) hx hb dX4_sortAt_44 (by decide) rfl num_122 (fun c_10 => ?_) (fun c_10 => ?_)
            · refine lv_iload_n hx hb dX4_sortAt_49 rfl (lv_at hl 0 rfl) ?_
              refine lv_bipush (v := 48) hx hb dX4_sortAt_50 (by decide) ?_
              refine mm_icmp_lt (X := (I x_4 (Int32.toNatClampNeg p0)).toInt) (Y := 48) (tgt := 65) hx hb dX4_sortAt_52 (by decide) rfl num_48 (fun c_11 => False.elim (by omega)) (fun c_11 => ?_)
              refine lv_iload_n hx hb dX4_sortAt_55 rfl (lv_at hl 0 rfl) ?_
              refine lv_bipush (v := 57) hx hb dX4_sortAt_56 (by decide) ?_
              refine mm_icmp_gt (X := (I x_4 (Int32.toNatClampNeg p0)).toInt) (Y := 57) (tgt := 65) hx hb dX4_sortAt_58 (by decide) rfl num_57 (fun c_12 => ?_) (fun c_12 => False.elim (by omega))
              refine lv_iconst (v := 3) hx hb dX4_sortAt_65 (by decide) ?_
              exact cr_ri (mc := 0) (ms := 0) E hr hlk hsz hM ⟨show (0 : Nat) ≤ 0 from by omega, show (0 : Nat) ≤ 0 from by omega⟩ ⟨⟨rfl, rfl, rfl, rfl⟩, (show 0 ≤ (3 : Int32).toInt ∧ (3 : Int32).toInt ≤ 4 ∧ ((3 : Int32).toInt = 0 ∨ p0.toInt ≤ 999) ∧ (0 ≤ p0.toInt → (3 : Int32).toInt = zso kz nz p0.toInt.toNat) from by have n9 := num_3; exact ⟨by omega, by omega, by omega, fun h0 => by have e9 : (I x_4 p0.toInt.toNat).toInt = (I x_4 (Int32.toNatClampNeg p0)).toInt := rfl; rw [(zTx_k htx o_4).2, zso_x]; (try dsimp only); (repeat' split) <;> omega⟩)⟩ dX4_sortAt_66
            · refine lv_iconst (v := 1) hx hb dX4_sortAt_47 (by decide) ?_
              exact cr_ri (mc := 0) (ms := 0) E hr hlk hsz hM ⟨show (0 : Nat) ≤ 0 from by omega, show (0 : Nat) ≤ 0 from by omega⟩ ⟨⟨rfl, rfl, rfl, rfl⟩, (show 0 ≤ (1 : Int32).toInt ∧ (1 : Int32).toInt ≤ 4 ∧ ((1 : Int32).toInt = 0 ∨ p0.toInt ≤ 999) ∧ (0 ≤ p0.toInt → (1 : Int32).toInt = zso kz nz p0.toInt.toNat) from by have n9 := num_1; exact ⟨by omega, by omega, by omega, fun h0 => by have e9 : (I x_4 p0.toInt.toNat).toInt = (I x_4 (Int32.toNatClampNeg p0)).toInt := rfl; rw [(zTx_k htx o_4).2, zso_x]; (try dsimp only); (repeat' split) <;> omega⟩)⟩ dX4_sortAt_48
        · refine lv_iconst (v := 4) hx hb dX4_sortAt_33 (by decide) ?_
          exact cr_ri (mc := 0) (ms := 0) E hr hlk hsz hM ⟨show (0 : Nat) ≤ 0 from by omega, show (0 : Nat) ≤ 0 from by omega⟩ ⟨⟨rfl, rfl, rfl, rfl⟩, (show 0 ≤ (4 : Int32).toInt ∧ (4 : Int32).toInt ≤ 4 ∧ ((4 : Int32).toInt = 0 ∨ p0.toInt ≤ 999) ∧ (0 ≤ p0.toInt → (4 : Int32).toInt = zso kz nz p0.toInt.toNat) from by have n9 := num_4; exact ⟨by omega, by omega, by omega, fun h0 => by have e9 : (I x_4 p0.toInt.toNat).toInt = (I x_4 (Int32.toNatClampNeg p0)).toInt := rfl; rw [(zTx_k htx o_4).2, zso_x]; (try dsimp only); (repeat' split) <;> omega⟩)⟩ dX4_sortAt_34
    · refine lv_iconst (v := 0) hx hb dX4_sortAt_12 (by decide) ?_
      exact cr_ri (mc := 0) (ms := 0) E hr hlk hsz hM ⟨show (0 : Nat) ≤ 0 from by omega, show (0 : Nat) ≤ 0 from by omega⟩ ⟨⟨rfl, rfl, rfl, rfl⟩, (show 0 ≤ (0 : Int32).toInt ∧ (0 : Int32).toInt ≤ 4 ∧ ((0 : Int32).toInt = 0 ∨ p0.toInt ≤ 999) ∧ (0 ≤ p0.toInt → (0 : Int32).toInt = zso kz nz p0.toInt.toNat) from by have n9 := num_0; exact ⟨by omega, by omega, by omega, fun h0 => by rw [zso_end (by omega)]; omega⟩)⟩ dX4_sortAt_13
def w5J1_charAt_3b067 : List Cond := .code yJ1_charAt_3b067 cJ1_charAt_3b067 2 (some .char) :: ([.methodLink RJ1 9 yJ0_checkIndex_df160, .static yJ0_checkIndex_df160, .initialized RJ0, .code yJ0_checkIndex_df160 cJ0_checkIndex_df160 2 none, .fieldLink RJ0 1053 "jdk/internal/util/Preconditions" "SIOOBE_FORMATTER" "Ljava/util/function/BiFunction;", .methodLink RJ0 1059 yJ3_checkIndex_8e157, .static yJ3_checkIndex_8e157, .initialized RJ3, .code yJ3_checkIndex_8e157 cJ3_checkIndex_8e157 3 (some .int)])
set_option maxRecDepth 20000 in
theorem gz_J1_charAt_3b067_J0_checkIndex_df160_2 : GoodIn w5J1_charAt_3b067 (va_wsS RJ1 9 yJ0_checkIndex_df160 w4J0_checkIndex_df160) := goodIn_p _ [4, 9] rfl (by decide +kernel)
set_option maxHeartbeats 4000000 in
set_option maxRecDepth 100000 in
theorem h5_J1_charAt_3b067 (l : Launch) (D : va_G) (cA : Nat → ClassId) (ad av : Nat → Nat) (L : List Nat) (K : Nat → Nat) (I : Nat → Nat → Int32) (O : Nat → Nat → Option Nat) (sz : Nat) (si : Nat) (p0 : Int32) (hI : cI L K I O) (hsi : si < 11) (k0 : 0 ≤ p0.toInt ∧ p0.toInt < (cln.getD si 0 : Int)) : Met l yJ1_charAt_3b067 w5J1_charAt_3b067 ({ frames := 2, cells := 0, slots := 0, locals := 43 }) (cPre D cA ad av L K I O sz [.ref (av si), .int p0]) (cQi D cA L K I O sz [] [] [] (fun r L' K' I' O' => (L' = L ∧ K' = K ∧ I' = I ∧ O' = O) ∧ (narrow .char (.int r) = .int r ∧ r.toInt = ((zwl si).getD p0.toInt.toNat 0 : Int)))) 0 0 (va_A (cW cA L K I O) sz) := by
  refine cr_met (own := RJ1) (xs := []) (WI := []) (WO := []) (cc := cJ1_charAt_3b067) (maxL := 2) (ret := (some .char)) (by decide) rfl rfl (Nat.le_of_ble_eq_true rfl) hI ?_
  intro p e s m args below meth c ls E hV hml hr hlk hname hsz hA hM hl
  have hx := E.1
  have hb := E.2.1
  have hts := E.2.2.1
  have hown := E.2.2.2.1
  have hl : lv_has ls 2 [(0, .ref (av si)), (1, .int p0)] := hl
  refine lv_iload_n hx hb dJ1_charAt_3b067_0 rfl (lv_at hl 1 rfl) ?_
  refine lv_aload_n hx hb dJ1_charAt_3b067_1 rfl (lv_at hl 0 rfl) ?_
  refine va_tlen (v := Int32.ofNat (cln.getD si 0)) hx hb (hV.2.1.1 si hsi).2.2.2 hM.2.2.1 rfl dJ1_charAt_3b067_2 ?_
  obtain ⟨z_1, hz_1⟩ : ∃ z : Int32, z = Int32.ofNat (cln.getD si 0) := ⟨_, rfl⟩
  rw [← hz_1]
  have tz_1 : z_1.toInt = (cln.getD si 0 : Int) := by rw [hz_1]; exact (c_len hsi).1
  refine cc_Svp (vs := [.int p0, .int z_1]) (rest := []) E hV rfl hA hml hM (h4_J0_checkIndex_df160 l D cA ad av L K I O _ p0 z_1 hM.2.2.2.1 (show 0 ≤ p0.toInt ∧ p0.toInt < z_1.toInt from by omega)) (va_cwS 2 hts gz_J1_charAt_3b067_J0_checkIndex_df160_2 rfl rfl rfl (by decide +kernel) ⟨Nat.le_of_ble_eq_true rfl, Nat.le_of_ble_eq_true rfl⟩) rfl hl.1 rfl (Nat.le_of_ble_eq_true rfl) dJ1_charAt_3b067_3 ⟨show (0 : Nat) ≤ 0 from by omega, show (0 : Nat) ≤ 0 from by omega⟩ (fun H locs p_4 hM => ?_)
  refine lv_aload_n hx hb dJ1_charAt_3b067_6 rfl (lv_at hl 0 rfl) ?_
  refine lv_iload_n hx hb dJ1_charAt_3b067_7 rfl (lv_at hl 1 rfl) ?_
  refine va_tb (v := .int ((cby.getD si []).getD (Int32.toNatClampNeg p0) 0)) hx hb (hV.2.1.1 si hsi).2.2.2 hM.2.2.1 (by rw [vp_in_iff]; omega) rfl dJ1_charAt_3b067_8 ?_
  refine lv_topi (fun z_6 ez_6 => ?_)
  refine lv_sipush (v := 255) hx hb dJ1_charAt_3b067_9 (by decide) ?_
  refine lv_iand hx hb dJ1_charAt_3b067_12 ?_
  refine lv_i2c hx hb dJ1_charAt_3b067_13 rfl ?_
  exact cr_rn (mc := 0) (ms := 0) E hr hlk hsz hM ⟨show (0 : Nat) ≤ 0 from by omega, show (0 : Nat) ≤ 0 from by omega⟩ (pk_nc _) ⟨⟨rfl, rfl, rfl, rfl⟩, (show narrow .char (.int (((z_6 &&& (255 : Int32)).toUInt32 % 65536).toInt32)) = .int (((z_6 &&& (255 : Int32)).toUInt32 % 65536).toInt32) ∧ (((z_6 &&& (255 : Int32)).toUInt32 % 65536).toInt32).toInt = ((zwl si).getD p0.toInt.toNat 0 : Int) from by exact ⟨pk_nc _, by rw [ez_6]; exact zch si hsi _ (by rw [mm_nat]; omega)⟩)⟩ dJ1_charAt_3b067_14
def w5J0_charAt_5068e : List Cond := .code yJ0_charAt_5068e cJ0_charAt_5068e 2 (some .char) :: ([.methodLink RJ0 492 yJ0_isLatin1_aae02, .instanceMethod yJ0_isLatin1_aae02, .selects RJ0 yJ0_isLatin1_aae02 yJ0_isLatin1_aae02, .initialized RJ0, .code yJ0_isLatin1_aae02 cJ0_isLatin1_aae02 1 (some .boolean), .fieldLink RJ0 38 "java/lang/String" "COMPACT_STRINGS" "Z", .fieldLink RJ0 15 "java/lang/String" "coder" "B", .fieldLink RJ0 9 "java/lang/String" "value" "[B", .methodLink RJ0 495 yJ1_charAt_3b067, .static yJ1_charAt_3b067, .initialized RJ1, .code yJ1_charAt_3b067 cJ1_charAt_3b067 2 (some .char), .methodLink RJ1 9 yJ0_checkIndex_df160, .static yJ0_checkIndex_df160, .code yJ0_checkIndex_df160 cJ0_checkIndex_df160 2 none, .fieldLink RJ0 1053 "jdk/internal/util/Preconditions" "SIOOBE_FORMATTER" "Ljava/util/function/BiFunction;", .methodLink RJ0 1059 yJ3_checkIndex_8e157, .static yJ3_checkIndex_8e157, .initialized RJ3, .code yJ3_checkIndex_8e157 cJ3_checkIndex_8e157 3 (some .int)])
set_option maxRecDepth 20000 in
theorem gz_J0_charAt_5068e_J0_isLatin1_aae02_1 : GoodIn w5J0_charAt_5068e (wsV RJ0 492 RJ0 yJ0_isLatin1_aae02 w4J0_isLatin1_aae02) := goodIn_p _ [5] rfl (by decide +kernel)
set_option maxRecDepth 20000 in
theorem gz_J0_charAt_5068e_J1_charAt_3b067_6 : GoodIn w5J0_charAt_5068e (va_wsS RJ0 495 yJ1_charAt_3b067 w5J1_charAt_3b067) := goodIn_p _ [12, 15, 20] rfl (by decide +kernel)
set_option maxHeartbeats 4000000 in
set_option maxRecDepth 100000 in
theorem h5_J0_charAt_5068e (l : Launch) (D : va_G) (cA : Nat → ClassId) (ad av : Nat → Nat) (L : List Nat) (K : Nat → Nat) (I : Nat → Nat → Int32) (O : Nat → Nat → Option Nat) (sz : Nat) (si : Nat) (p0 : Int32) (hI : cI L K I O) (hsi : si < 11) (k0 : 0 ≤ p0.toInt ∧ p0.toInt < (cln.getD si 0 : Int)) : Met l yJ0_charAt_5068e w5J0_charAt_5068e ({ frames := 3, cells := 0, slots := 0, locals := 64 }) (cPre D cA ad av L K I O sz [.ref (ad si), .int p0]) (cQi D cA L K I O sz [] [] [] (fun r L' K' I' O' => (L' = L ∧ K' = K ∧ I' = I ∧ O' = O) ∧ (narrow .char (.int r) = .int r ∧ r.toInt = ((zwl si).getD p0.toInt.toNat 0 : Int)))) 0 0 (va_A (cW cA L K I O) sz) := by
  refine cr_met (own := RJ0) (xs := []) (WI := []) (WO := []) (cc := cJ0_charAt_5068e) (maxL := 2) (ret := (some .char)) (by decide) rfl rfl (Nat.le_of_ble_eq_true rfl) hI ?_
  intro p e s m args below meth c ls E hV hml hr hlk hname hsz hA hM hl
  have hx := E.1
  have hb := E.2.1
  have hts := E.2.2.1
  have hown := E.2.2.2.1
  have hl : lv_has ls 2 [(0, .ref (ad si)), (1, .int p0)] := hl
  refine lv_aload_n hx hb dJ0_charAt_5068e_0 rfl (lv_at hl 0 rfl) ?_
  refine cc_Jip (vs := []) (rest := []) (b := (ad si)) E hV rfl hA hml hM (vk_recv hV.2.1 hsi hM.2.2.1) (h4_J0_isLatin1_aae02 l D cA ad av L K I O _ si hM.2.2.2.1 (by omega)) (cwV 0 hts gz_J0_charAt_5068e_J0_isLatin1_aae02_1 rfl rfl rfl (by decide +kernel) ⟨Nat.le_of_ble_eq_true rfl, Nat.le_of_ble_eq_true rfl⟩) rfl hl.1 rfl (Nat.le_of_ble_eq_true rfl) dJ0_charAt_5068e_1 ⟨show (0 : Nat) ≤ 0 from by omega, show (0 : Nat) ≤ 0 from by omega⟩ (fun r_2 H locs p_3 hM => ?_)
  replace p_3 : r_2.toInt = 1 := p_3
  refine mm_if_eq (X := r_2.toInt) (tgt := 16) hx hb dJ0_charAt_5068e_4 (by decide) rfl (fun c_5 => False.elim (by omega)) (fun c_5 => ?_)
  refine lv_aload_n hx hb dJ0_charAt_5068e_7 rfl (lv_at hl 0 rfl) ?_
  refine vk_getf (v := .ref (av si)) hx hb (hV.2.1.1 si hsi).2.2.1 hM.2.2.1 hown (hts _ (mm_at 8 rfl)) (fun _ h => h) dJ0_charAt_5068e_8 ?_
  refine lv_iload_n hx hb dJ0_charAt_5068e_11 rfl (lv_at hl 1 rfl) ?_
  refine cc_Sip (vs := [.ref (av si), .int p0]) (rest := []) E hV rfl hA hml hM (h5_J1_charAt_3b067 l D cA ad av L K I O _ si p0 hM.2.2.2.1 hsi (show 0 ≤ p0.toInt ∧ p0.toInt < (cln.getD si 0 : Int) from by omega)) (va_cwS 2 hts gz_J0_charAt_5068e_J1_charAt_3b067_6 rfl rfl rfl (by decide +kernel) ⟨Nat.le_of_ble_eq_true rfl, Nat.le_of_ble_eq_true rfl⟩) rfl hl.1 rfl (Nat.le_of_ble_eq_true rfl) dJ0_charAt_5068e_12 ⟨show (0 : Nat) ≤ 0 from by omega, show (0 : Nat) ≤ 0 from by omega⟩ (fun r_7 H locs p_8 hM => ?_)
  replace p_8 : narrow .char (.int r_7) = .int r_7 ∧ r_7.toInt = ((zwl si).getD p0.toInt.toNat 0 : Int) := p_8
  exact cr_rn (mc := 0) (ms := 0) E hr hlk hsz hM ⟨show (0 : Nat) ≤ 0 from by omega, show (0 : Nat) ≤ 0 from by omega⟩ p_8.1 ⟨⟨rfl, rfl, rfl, rfl⟩, (show narrow .char (.int r_7) = .int r_7 ∧ r_7.toInt = ((zwl si).getD p0.toInt.toNat 0 : Int) from by exact p_8)⟩ dJ0_charAt_5068e_15
def w5X4_isWord : List Cond := .code yX4_isWord cX4_isWord 3 (some .boolean) :: ([.methodLink RX4 140 yJ0_length_8abf5, .instanceMethod yJ0_length_8abf5, .selects RJ0 yJ0_length_8abf5 yJ0_length_8abf5, .initialized RJ0, .code yJ0_length_8abf5 cJ0_length_8abf5 1 (some .int), .fieldLink RJ0 9 "java/lang/String" "value" "[B", .methodLink RJ0 335 yJ0_coder_7d493, .instanceMethod yJ0_coder_7d493, .selects RJ0 yJ0_coder_7d493 yJ0_coder_7d493, .code yJ0_coder_7d493 cJ0_coder_7d493 1 (some .byte), .fieldLink RJ0 38 "java/lang/String" "COMPACT_STRINGS" "Z", .fieldLink RJ0 15 "java/lang/String" "coder" "B", .fieldLink RX4 9 "SkiShots$Reader" "text" "[B", .fieldLink RX4 54 "SkiShots$Reader" "place" "I", .methodLink RX4 145 yJ0_charAt_5068e, .instanceMethod yJ0_charAt_5068e, .selects RJ0 yJ0_charAt_5068e yJ0_charAt_5068e, .code yJ0_charAt_5068e cJ0_charAt_5068e 2 (some .char), .methodLink RJ0 492 yJ0_isLatin1_aae02, .instanceMethod yJ0_isLatin1_aae02, .selects RJ0 yJ0_isLatin1_aae02 yJ0_isLatin1_aae02, .code yJ0_isLatin1_aae02 cJ0_isLatin1_aae02 1 (some .boolean), .methodLink RJ0 495 yJ1_charAt_3b067, .static yJ1_charAt_3b067, .initialized RJ1, .code yJ1_charAt_3b067 cJ1_charAt_3b067 2 (some .char), .methodLink RJ1 9 yJ0_checkIndex_df160, .static yJ0_checkIndex_df160, .code yJ0_checkIndex_df160 cJ0_checkIndex_df160 2 none, .fieldLink RJ0 1053 "jdk/internal/util/Preconditions" "SIOOBE_FORMATTER" "Ljava/util/function/BiFunction;", .methodLink RJ0 1059 yJ3_checkIndex_8e157, .static yJ3_checkIndex_8e157, .initialized RJ3, .code yJ3_checkIndex_8e157 cJ3_checkIndex_8e157 3 (some .int), .fieldLink RX4 37 "SkiShots$Reader" "sort" "I", .fieldLink RX4 133 "SkiShots$Reader" "behind" "I"] ++ wsX40)
set_option maxRecDepth 20000 in
theorem gz_X4_isWord_J0_length_8abf5_1 : GoodIn w5X4_isWord (wsV RX4 140 RJ0 yJ0_length_8abf5 w4J0_length_8abf5) := goodIn_p _ [5, 10] rfl (by decide +kernel)
set_option maxRecDepth 20000 in
theorem gz_X4_isWord_J0_charAt_5068e_10 : GoodIn w5X4_isWord (wsV RX4 145 RJ0 yJ0_charAt_5068e w5J0_charAt_5068e) := goodIn_p _ [18, 22, 26, 29, 34] rfl (by decide +kernel)
set_option maxRecDepth 20000 in
theorem gz_X4_isWord_J0_length_8abf5_21 : GoodIn w5X4_isWord (wsV RX4 140 RJ0 yJ0_length_8abf5 w4J0_length_8abf5) := goodIn_p _ [5, 10] rfl (by decide +kernel)
set_option maxHeartbeats 4000000 in
set_option maxRecDepth 100000 in
theorem h5_X4_isWord (l : Launch) (D : va_G) (cA : Nat → ClassId) (ad av : Nat → Nat) (L : List Nat) (K : Nat → Nat) (I : Nat → Nat → Int32) (O : Nat → Nat → Option Nat) (sz : Nat) (x0 : Nat) (si : Nat) (hI : cI L K I O) (mx0 : x0 ∈ L) (kx0 : K x0 = 4) (hsi : si < 11) (kz : Nat → Nat) (nz : Nat) (xz : Nat) (htx : zTx kz nz I O x0) (hat : (I x0 7).toInt = (ztp kz xz : Int) ∧ (I x0 8).toInt = (zty kz nz xz : Int) ∧ (I x0 6).toInt = zso kz nz (ztp kz xz)) : Met l yX4_isWord w5X4_isWord ({ frames := 4, cells := 0, slots := 0, locals := 85 }) (cPre D cA ad av L K I O sz [.ref x0, .ref (ad si)]) (cQi D cA L K I O sz [] [] [] (fun r L' K' I' O' => (L' = L ∧ K' = K ∧ I' = I ∧ O' = O) ∧ ((r.toInt = 1 ∧ zW kz nz xz (zwl si)) ∨ (r.toInt = 0 ∧ ¬ zW kz nz xz (zwl si))))) 0 0 (va_A (cW cA L K I O) sz) := by
  refine cr_met (own := RX4) (xs := []) (WI := []) (WO := []) (cc := cX4_isWord) (maxL := 3) (ret := (some .boolean)) (by decide) rfl rfl (Nat.le_of_ble_eq_true rfl) hI ?_
  intro p e s m args below meth c ls E hV hml hr hlk hname hsz hA hM hl
  have hx := E.1
  have hb := E.2.1
  have hts := E.2.2.1
  have hown := E.2.2.2.1
  have hl : lv_has ls 3 [(0, .ref x0), (1, .ref (ad si))] := hl
  have hin4 : ∀ w ∈ wsX40, w ∈ w5X4_isWord := by decide +kernel
  have hln := (c_len hsi).2
  have hzl := zwl_cln si hsi
  have hnz := zTx_n htx
  have hou := zTx_out htx
  have hle := zty_le hou xz
  have B_28 : ∀ n_28 : Nat, ∀ (H : Heap) (locs : List Loc) (ls : Array Slot) (i : Int32), (0 ≤ i.toInt ∧ i.toInt ≤ 6) → i.toInt ≤ (cln.getD si 0 : Int) → (I x0 8).toInt - (I x0 7).toInt = (cln.getD si 0 : Int) → zpre kz (ztp kz xz) (zwl si) (Int32.toNatClampNeg i) → ((cln.getD si 0 : Int) - i.toInt) < (n_28 : Int) → cQ D cA (va_A (cW cA L K I O) sz) s.heap [] [] [] L K I O H locs L K I O → lv_has ls 3 [(0, .ref x0), (1, .ref (ad si)), (2, .int i)] → W p l e ({ frames := 4, cells := 0, slots := 0, locals := 85 }) s m args below meth c H locs 0 0 (MQ below (cQi D cA L K I O sz [] [] [] (fun r L' K' I' O' => (L' = L ∧ K' = K ∧ I' = I ∧ O' = O) ∧ ((r.toInt = 1 ∧ zW kz nz xz (zwl si)) ∨ (r.toInt = 0 ∧ ¬ zW kz nz xz (zwl si))))) args s 0 0 (va_A (cW cA L K I O) sz)) (F0 m 28 ls []) := by
    intro n_28
    induction n_28 with
    | zero => intro H locs ls i f28_0 f28_1 f28_2 f28_3 hn hM hl; exact False.elim (by omega)
    | succ n_28 ih_28 =>
      intro H locs ls i f28_0 f28_1 f28_2 f28_3 hn hM hl
      refine lv_iload_n hx hb dX4_isWord_28 rfl (lv_at hl 2 rfl) ?_
      refine lv_aload_n hx hb dX4_isWord_29 rfl (lv_at hl 1 rfl) ?_
      refine cc_Jip (vs := []) (rest := [.int i]) (b := (ad si)) E hV rfl hA hml hM (vk_recv hV.2.1 hsi hM.2.2.1) (h4_J0_length_8abf5 l D cA ad av L K I O _ si hM.2.2.2.1 (by omega)) (cwV 0 hts gz_X4_isWord_J0_length_8abf5_1 rfl rfl rfl (by decide +kernel) ⟨Nat.le_of_ble_eq_true rfl, Nat.le_of_ble_eq_true rfl⟩) rfl hl.1 rfl (Nat.le_of_ble_eq_true rfl) dX4_isWord_30 ⟨show (0 : Nat) ≤ 0 from by omega, show (0 : Nat) ≤ 0 from by omega⟩ (fun r_2 H locs p_3 hM => ?_)
      replace p_3 : r_2.toInt = (cln.getD si 0 : Int) := p_3
      refine mm_icmp_ge (X := i.toInt) (Y := r_2.toInt) (tgt := 63) hx hb dX4_isWord_33 (by decide) rfl rfl (fun c_5 => ?_) (fun c_5 => ?_)
      · refine lv_iconst (v := 1) hx hb dX4_isWord_63 (by decide) ?_
        exact cr_rz (mc := 0) (ms := 0) (X := 1) E hr hlk hsz hM ⟨show (0 : Nat) ≤ 0 from by omega, show (0 : Nat) ≤ 0 from by omega⟩ num_1 (by omega) ⟨⟨rfl, rfl, rfl, rfl⟩, (show ((1 : Int32).toInt = 1 ∧ zW kz nz xz (zwl si)) ∨ ((1 : Int32).toInt = 0 ∧ ¬ zW kz nz xz (zwl si)) from by have n9 := num_1; exact Or.inl ⟨by omega, by omega, fun j hj => f28_3 j (by rw [mm_nat]; omega)⟩)⟩ dX4_isWord_64
      · have b_6 : 0 ≤ (I x0 8).toInt ∧ (I x0 8).toInt ≤ 1000 := hM.ib mx0 kx0 8 rfl
        refine lv_aload_n hx hb dX4_isWord_36 rfl (lv_at hl 0 rfl) ?_
        obtain ⟨x_7, o_7, m_7, k_7⟩ := hM.nn mx0 kx0 0 (κ' := 10) rfl rfl
        refine cr_get (κ := 4) (ci := 4) (k := 0) (C := RX4) (T := TX4) (N := 10) (fs := cfs 4) (v := .ref x_7) E hM mx0 kx0 (fun _ _ => rfl) rfl hin4 (by decide) (index := 9) (mm_at 13 rfl) rfl (by show some (va_rf (O x0 0)) = some (.ref x_7); rw [o_7]; rfl) dX4_isWord_37 ?_
        refine lv_aload_n hx hb dX4_isWord_40 rfl (lv_at hl 0 rfl) ?_
        have b_8 : 0 ≤ (I x0 7).toInt ∧ (I x0 7).toInt ≤ 1000 := hM.ib mx0 kx0 7 rfl
        refine cr_get (κ := 4) (ci := 4) (k := 7) (C := RX4) (T := TX4) (N := 10) (fs := cfs 4) (v := .int (I x0 7)) E hM mx0 kx0 (fun _ _ => rfl) rfl hin4 (by decide) (index := 54) (mm_at 14 rfl) rfl rfl dX4_isWord_41 ?_
        refine lv_iload_n hx hb dX4_isWord_44 rfl (lv_at hl 2 rfl) ?_
        refine mm_iadd (X := (I x0 7).toInt) (Y := i.toInt) hx hb dX4_isWord_45 rfl rfl (by omega) (fun z_9 hz_9 => ?_)
        refine cr_bald (κ := 10) (t0 := 0) (X := z_9.toInt) E hM m_7 k_7 (fun _ _ => rfl) rfl rfl (by omega) dX4_isWord_46 ?_
        refine lv_aload_n hx hb dX4_isWord_47 rfl (lv_at hl 1 rfl) ?_
        refine lv_iload_n hx hb dX4_isWord_48 rfl (lv_at hl 2 rfl) ?_
        refine cc_Jip (vs := [.int i]) (rest := [.int (I x_7 (Int32.toNatClampNeg z_9))]) (b := (ad si)) E hV rfl hA hml hM (vk_recv hV.2.1 hsi hM.2.2.1) (h5_J0_charAt_5068e l D cA ad av L K I O _ si i hM.2.2.2.1 (by omega) (show 0 ≤ i.toInt ∧ i.toInt < (cln.getD si 0 : Int) from by omega)) (cwV 1 hts gz_X4_isWord_J0_charAt_5068e_10 rfl rfl rfl (by decide +kernel) ⟨Nat.le_of_ble_eq_true rfl, Nat.le_of_ble_eq_true rfl⟩) rfl hl.1 rfl (Nat.le_of_ble_eq_true rfl) dX4_isWord_49 ⟨show (0 : Nat) ≤ 0 from by omega, show (0 : Nat) ≤ 0 from by omega⟩ (fun r_11 H locs p_12 hM => ?_)
        replace p_12 : narrow .char (.int r_11) = .int r_11 ∧ r_11.toInt = ((zwl si).getD i.toInt.toNat 0 : Int) := p_12
        refine mm_icmp_eq (X := (I x_7 (Int32.toNatClampNeg z_9)).toInt) (Y := r_11.toInt) (tgt := 57) hx hb dX4_isWord_52 (by decide) rfl rfl (fun c_14 => ?_) (fun c_14 => ?_)
        · refine mm_iinc (X := i.toInt) (v := 1) (lv2 := fun z => [(2, .int z), (0, .ref x0), (1, .ref (ad si))]) hx hb dX4_isWord_57 hl (k := 2) rfl rfl (by decide) num_1 (by omega) (by decide) (fun _ => rfl) (fun z_15 ls hz_15 hl => ?_)
          have hl : lv_has ls 3 [(2, .int z_15), (0, .ref x0), (1, .ref (ad si))] := hl
          refine lv_goto (tgt := 28) hx hb dX4_isWord_60 (by decide) ?_
          exact ih_28 _ _ _  z_15    (show (0 ≤ z_15.toInt ∧ z_15.toInt ≤ 6) from by omega) (show z_15.toInt ≤ (cln.getD si 0 : Int) from by omega) (show (I x0 8).toInt - (I x0 7).toInt = (cln.getD si 0 : Int) from by omega) (show zpre kz (ztp kz xz) (zwl si) (Int32.toNatClampNeg z_15) from by have h3 := zwl_sm si hsi i.toInt.toNat (by omega); exact fun j hj => (Nat.lt_or_ge j i.toInt.toNat).elim (fun h9 => f28_3 j h9) (fun h9 => by have ej : j = i.toInt.toNat := (by rw [mm_nat] at hj; omega); rw [ej]; exact (zTx_at htx o_7 (by omega)).mpr ⟨by omega, by rw [show ztp kz xz + i.toInt.toNat = Int32.toNatClampNeg z_9 from by simp only [mm_nat]; omega]; omega⟩)) (show ((cln.getD si 0 : Int) - z_15.toInt) < ((n_28 : Nat) : Int) from by omega) hM (lv_sub hl [1, 2, 0] rfl)
        · refine lv_iconst (v := 0) hx hb dX4_isWord_55 (by decide) ?_
          exact cr_rz (mc := 0) (ms := 0) (X := 0) E hr hlk hsz hM ⟨show (0 : Nat) ≤ 0 from by omega, show (0 : Nat) ≤ 0 from by omega⟩ num_0 (by omega) ⟨⟨rfl, rfl, rfl, rfl⟩, (show ((0 : Int32).toInt = 1 ∧ zW kz nz xz (zwl si)) ∨ ((0 : Int32).toInt = 0 ∧ ¬ zW kz nz xz (zwl si)) from by have n9 := num_0; exact Or.inr ⟨by omega, fun hw => by have h1 := hw.2 i.toInt.toNat (by omega); have h3 := zwl_sm si hsi i.toInt.toNat (by omega); have h2 := (zTx_at htx o_7 (by omega)).mp h1; rw [show ztp kz xz + i.toInt.toNat = Int32.toNatClampNeg z_9 from by simp only [mm_nat]; omega] at h2; omega⟩)⟩ dX4_isWord_56
  refine lv_aload_n hx hb dX4_isWord_0 rfl (lv_at hl 0 rfl) ?_
  have b_16 : 0 ≤ (I x0 6).toInt ∧ (I x0 6).toInt ≤ 4 := hM.ib mx0 kx0 6 rfl
  refine cr_get (κ := 4) (ci := 4) (k := 6) (C := RX4) (T := TX4) (N := 10) (fs := cfs 4) (v := .int (I x0 6)) E hM mx0 kx0 (fun _ _ => rfl) rfl hin4 (by decide) (index := 37) (mm_at 35 rfl) rfl rfl dX4_isWord_1 ?_
  refine lv_iconst (v := 1) hx hb dX4_isWord_4 (by decide) ?_
  refine mm_icmp_ne (X := (I x0 6).toInt) (Y := 1) (tgt := 24) hx hb dX4_isWord_5 (by decide) rfl num_1 (fun c_17 => ?_) (fun c_17 => ?_)
  · refine lv_iconst (v := 0) hx hb dX4_isWord_24 (by decide) ?_
    exact cr_rz (mc := 0) (ms := 0) (X := 0) E hr hlk hsz hM ⟨show (0 : Nat) ≤ 0 from by omega, show (0 : Nat) ≤ 0 from by omega⟩ num_0 (by omega) ⟨⟨rfl, rfl, rfl, rfl⟩, (show ((0 : Int32).toInt = 1 ∧ zW kz nz xz (zwl si)) ∨ ((0 : Int32).toInt = 0 ∧ ¬ zW kz nz xz (zwl si)) from by have n9 := num_0; exact Or.inr ⟨by omega, fun hw => by have h1 := hw.1; have h2 := zw_sort hou hsi hw; omega⟩)⟩ dX4_isWord_25
  · refine lv_aload_n hx hb dX4_isWord_8 rfl (lv_at hl 0 rfl) ?_
    have b_18 : 0 ≤ (I x0 8).toInt ∧ (I x0 8).toInt ≤ 1000 := hM.ib mx0 kx0 8 rfl
    refine cr_get (κ := 4) (ci := 4) (k := 8) (C := RX4) (T := TX4) (N := 10) (fs := cfs 4) (v := .int (I x0 8)) E hM mx0 kx0 (fun _ _ => rfl) rfl hin4 (by decide) (index := 133) (mm_at 36 rfl) rfl rfl dX4_isWord_9 ?_
    refine lv_aload_n hx hb dX4_isWord_12 rfl (lv_at hl 0 rfl) ?_
    have b_19 : 0 ≤ (I x0 7).toInt ∧ (I x0 7).toInt ≤ 1000 := hM.ib mx0 kx0 7 rfl
    refine cr_get (κ := 4) (ci := 4) (k := 7) (C := RX4) (T := TX4) (N := 10) (fs := cfs 4) (v := .int (I x0 7)) E hM mx0 kx0 (fun _ _ => rfl) rfl hin4 (by decide) (index := 54) (mm_at 14 rfl) rfl rfl dX4_isWord_13 ?_
    refine mm_isub (X := (I x0 8).toInt) (Y := (I x0 7).toInt) hx hb dX4_isWord_16 rfl rfl (by omega) (fun z_20 hz_20 => ?_)
    refine lv_aload_n hx hb dX4_isWord_17 rfl (lv_at hl 1 rfl) ?_
    refine cc_Jip (vs := []) (rest := [.int z_20]) (b := (ad si)) E hV rfl hA hml hM (vk_recv hV.2.1 hsi hM.2.2.1) (h4_J0_length_8abf5 l D cA ad av L K I O _ si hM.2.2.2.1 (by omega)) (cwV 0 hts gz_X4_isWord_J0_length_8abf5_21 rfl rfl rfl (by decide +kernel) ⟨Nat.le_of_ble_eq_true rfl, Nat.le_of_ble_eq_true rfl⟩) rfl hl.1 rfl (Nat.le_of_ble_eq_true rfl) dX4_isWord_18 ⟨show (0 : Nat) ≤ 0 from by omega, show (0 : Nat) ≤ 0 from by omega⟩ (fun r_22 H locs p_23 hM => ?_)
    replace p_23 : r_22.toInt = (cln.getD si 0 : Int) := p_23
    refine mm_icmp_eq (X := z_20.toInt) (Y := r_22.toInt) (tgt := 26) hx hb dX4_isWord_21 (by decide) rfl rfl (fun c_25 => ?_) (fun c_25 => ?_)
    · refine lv_iconst (v := 0) hx hb dX4_isWord_26 (by decide) ?_
      refine lv_istore_n (lv' := [(2, .int 0), (0, .ref x0), (1, .ref (ad si))]) hx hb dX4_isWord_27 rfl hl (by decide) rfl (fun ls hl => ?_)
      exact B_28 4294967296 _ _ _  0    (show (0 ≤ (0 : Int32).toInt ∧ (0 : Int32).toInt ≤ 6) from by have n_0 := num_0; omega) (show (0 : Int32).toInt ≤ (cln.getD si 0 : Int) from by have n_0 := num_0; omega) (show (I x0 8).toInt - (I x0 7).toInt = (cln.getD si 0 : Int) from by have n_0 := num_0; omega) (show zpre kz (ztp kz xz) (zwl si) (Int32.toNatClampNeg (0 : Int32)) from by have n_0 := num_0; exact fun j hj => absurd hj (by rw [show Int32.toNatClampNeg (0 : Int32) = 0 from by decide]; exact Nat.not_lt_zero _)) (show ((cln.getD si 0 : Int) - (0 : Int32).toInt) < ((4294967296 : Nat) : Int) from by have n_0 := num_0; omega) hM (lv_sub hl [1, 2, 0] rfl)
    · refine lv_iconst (v := 0) hx hb dX4_isWord_24 (by decide) ?_
      exact cr_rz (mc := 0) (ms := 0) (X := 0) E hr hlk hsz hM ⟨show (0 : Nat) ≤ 0 from by omega, show (0 : Nat) ≤ 0 from by omega⟩ num_0 (by omega) ⟨⟨rfl, rfl, rfl, rfl⟩, (show ((0 : Int32).toInt = 1 ∧ zW kz nz xz (zwl si)) ∨ ((0 : Int32).toInt = 0 ∧ ¬ zW kz nz xz (zwl si)) from by have n9 := num_0; exact Or.inr ⟨by omega, fun hw => by have h1 := hw.1; have h2 := zw_sort hou hsi hw; omega⟩)⟩ dX4_isWord_25
