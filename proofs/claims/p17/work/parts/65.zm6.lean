theorem zsh_amt {x : Int32} {n : Nat} (z : Int32) (h : z.toInt = 24 - 8 * ((n % 4 : Nat) : Int)) : zby x (n % 4) = ((x >>> (z &&& 31)) &&& 255).toInt := by
  unfold zby
  have h4 : n % 4 = 0 ∨ n % 4 = 1 ∨ n % 4 = 2 ∨ n % 4 = 3 := by omega
  rcases h4 with q | q | q | q
  · rw [q] at h ⊢
    have e : z = 24 := Int32.toInt_inj.mp (by rw [h]; decide)
    rw [e]; rfl
  · rw [q] at h ⊢
    have e : z = 16 := Int32.toInt_inj.mp (by rw [h]; decide)
    rw [e]; rfl
  · rw [q] at h ⊢
    have e : z = 8 := Int32.toInt_inj.mp (by rw [h]; decide)
    rw [e]; rfl
  · rw [q] at h ⊢
    have e : z = 0 := Int32.toInt_inj.mp (by rw [h]; decide)
    rw [e]; rfl
theorem zrem4 {k : Int32} (h : 0 ≤ k.toInt ∧ k.toInt < 20) : (k - k / 4 * 4).toInt = ((k.toInt.toNat % 4 : Nat) : Int) := by
  have h1 : k = Int32.ofNat k.toInt.toNat := Int32.toInt_inj.mp (by rw [show (Int32.ofNat k.toInt.toNat).toInt = ((k.toInt.toNat : Nat) : Int) from nI_toInt (by omega)]; omega)
  have h2 : k.toInt.toNat < 20 := by omega
  generalize k.toInt.toNat = n at h1 h2
  subst h1
  revert n
  decide
def w7X6_feed : List Cond := .code yX6_feed cX6_feed 8 (some .int) :: ([.fieldLink RX6 129 "SkiShotsModel" "tapeSize" "I", .fieldLink RX6 7 "SkiShotsModel" "tape" "[I", .fieldLink RX6 126 "SkiShotsModel" "thrown" "I"] ++ wsX60)
set_option maxHeartbeats 4000000 in
set_option maxRecDepth 100000 in
theorem g7_X6_feed (l : Launch) (D : va_G) (h0 : Nat) (q : Nat → Nat) (cq : Nat → ClassId) (F : Nat → Int32) (G : Nat → Nat → Int32) (sz : Nat) (p0 : Int32) (p1 : Int32) (p2 : Int32) (p3 : Int32) (p4 : Int32) (hI : mI F G)  : Met l yX6_feed w7X6_feed ({ frames := 0, cells := 0, slots := 0, locals := 0 }) (mPre D h0 q cq F G sz [.ref h0, .int p0, .int p1, .int p2, .int p3, .int p4]) (mQi D h0 q cq F G sz [1, 2] [0] (fun r F' G' => ((F 1).toInt ≤ 980 ∧ r.toInt = (F 1).toInt + 20 ∧ (F' 1).toInt = (F 1).toInt + 20 ∧ (∀ k : Nat, k < 20 → (G' 0 ((F 1).toInt.toNat + k)).toInt = zby5 p0 p1 p2 p3 p4 k) ∧ ∀ j : Nat, j < (F 1).toInt.toNat → G' 0 j = G 0 j) ∨ (980 < (F 1).toInt ∧ r.toInt = -1 ∧ (F' 1).toInt = (F 1).toInt ∧ G' 0 = G 0))) 0 0 (va_A (mW h0 q cq F G) sz) := by
  refine mr_met (WF := [1, 2]) (WG := [0]) (cc := cX6_feed) (maxL := 8) (ret := (some .int)) (by decide) rfl rfl (by decide +kernel) (Nat.le_of_ble_eq_true rfl) hI ?_
  intro p e s m args below meth c ls E hml hr hlk hsz hA hM hl
  have hx := E.1
  have hb := E.2.1
  have hts := E.2.2.1
  have hown := E.2.2.2.2.1
  have hl : lv_has ls 8 [(0, .ref h0), (1, .int p0), (2, .int p1), (3, .int p2), (4, .int p3), (5, .int p4)] := hl
  have B_23 : ∀ n_23 : Nat, ∀ (H : Heap) (locs : List Loc) (ls : Array Slot) (Fc_23 : Nat → Int32) (Gc_23 : Nat → Nat → Int32) (k : Int32), (0 ≤ k.toInt ∧ k.toInt ≤ 20) → (Fc_23 1).toInt = (F 1).toInt → (F 1).toInt ≤ 980 → (∀ q : Nat, q < k.toInt.toNat → (Gc_23 0 ((F 1).toInt.toNat + q)).toInt = zby5 p0 p1 p2 p3 p4 q) → (∀ j : Nat, j < (F 1).toInt.toNat → Gc_23 0 j = G 0 j) → (20 - k.toInt) < (n_23 : Int) → mQ D h0 q cq (va_A (mW h0 q cq F G) sz) s.heap [1, 2] [0] F G H locs Fc_23 Gc_23 → lv_has ls 8 [(0, .ref h0), (1, .int p0), (2, .int p1), (3, .int p2), (4, .int p3), (5, .int p4), (6, .int k)] → W p l e ({ frames := 0, cells := 0, slots := 0, locals := 0 }) s m args below meth c H locs 0 0 (MQ below (mQi D h0 q cq F G sz [1, 2] [0] (fun r F' G' => ((F 1).toInt ≤ 980 ∧ r.toInt = (F 1).toInt + 20 ∧ (F' 1).toInt = (F 1).toInt + 20 ∧ (∀ k : Nat, k < 20 → (G' 0 ((F 1).toInt.toNat + k)).toInt = zby5 p0 p1 p2 p3 p4 k) ∧ ∀ j : Nat, j < (F 1).toInt.toNat → G' 0 j = G 0 j) ∨ (980 < (F 1).toInt ∧ r.toInt = -1 ∧ (F' 1).toInt = (F 1).toInt ∧ G' 0 = G 0))) args s 0 0 (va_A (mW h0 q cq F G) sz)) (F0 m 23 ls []) := by
    intro n_23
    induction n_23 with
    | zero => intro H locs ls Fc_23 Gc_23 k f23_0 f23_1 f23_2 f23_3 f23_4 hn hM hl; exact False.elim (by have hfr_23 := hM.fr; omega)
    | succ n_23 ih_23 =>
      intro H locs ls Fc_23 Gc_23 k f23_0 f23_1 f23_2 f23_3 f23_4 hn hM hl
      have hfr_23 := hM.fr
      refine lv_iload hx hb dX6_feed_23 (lv_at hl 6 rfl) ?_
      refine lv_bipush (v := 20) hx hb dX6_feed_25 (by decide) ?_
      refine mm_icmp_ge (X := k.toInt) (Y := 20) (tgt := 113) hx hb dX6_feed_27 (by decide) rfl num_20 (fun c_1 => ?_) (fun c_1 => ?_)
      · refine lv_aload_n hx hb dX6_feed_113 rfl (lv_at hl 0 rfl) ?_
        refine lv_dup hx hb dX6_feed_114 rfl ?_
        have b_2 : 0 ≤ (Fc_23 1).toInt ∧ (Fc_23 1).toInt ≤ 1000 := hM.fb 1 rfl
        refine mr_get (v := .int (Fc_23 1)) E hM 1 (by decide) (index := 129) (mm_at 1 rfl) rfl rfl dX6_feed_115 ?_
        refine lv_bipush (v := 20) hx hb dX6_feed_118 (by decide) ?_
        refine mm_iadd (X := (Fc_23 1).toInt) (Y := 20) hx hb dX6_feed_120 rfl num_20 (by omega) (fun z_3 hz_3 => ?_)
        refine mr_put (v := z_3) E hM 1 (by decide) (index := 129) (mm_at 1 rfl) rfl rfl (by decide +kernel) ms_1 (mm_bd (X := z_3.toInt) (a := 0) (b := 1000) rfl rfl (by omega)) (by decide) dX6_feed_121 (fun H locs hM => ?_)
        refine lv_aload_n hx hb dX6_feed_124 rfl (lv_at hl 0 rfl) ?_
        refine mr_get (v := .int z_3) E hM 1 (by decide) (index := 129) (mm_at 1 rfl) rfl rfl dX6_feed_125 ?_
        exact mr_ri E hr hlk hsz hM (show ((F 1).toInt ≤ 980 ∧ z_3.toInt = (F 1).toInt + 20 ∧ z_3.toInt = (F 1).toInt + 20 ∧ (∀ k : Nat, k < 20 → (Gc_23 0 ((F 1).toInt.toNat + k)).toInt = zby5 p0 p1 p2 p3 p4 k) ∧ ∀ j : Nat, j < (F 1).toInt.toNat → Gc_23 0 j = G 0 j) ∨ (980 < (F 1).toInt ∧ z_3.toInt = -1 ∧ z_3.toInt = (F 1).toInt ∧ Gc_23 0 = G 0) from by exact Or.inl ⟨by omega, by omega, by omega, fun q hq => f23_3 q (by omega), f23_4⟩) dX6_feed_128
      · refine lv_iload hx hb dX6_feed_30 (lv_at hl 6 rfl) ?_
        refine lv_iconst (v := 4) hx hb dX6_feed_32 (by decide) ?_
        refine mm_icmp_ge (X := k.toInt) (Y := 4) (tgt := 40) hx hb dX6_feed_33 (by decide) rfl num_4 (fun c_4 => ?_) (fun c_4 => ?_)
        · refine lv_iload hx hb dX6_feed_40 (lv_at hl 6 rfl) ?_
          refine lv_bipush (v := 8) hx hb dX6_feed_42 (by decide) ?_
          refine mm_icmp_ge (X := k.toInt) (Y := 8) (tgt := 51) hx hb dX6_feed_44 (by decide) rfl num_8 (fun c_5 => ?_) (fun c_5 => ?_)
          · refine lv_iload hx hb dX6_feed_51 (lv_at hl 6 rfl) ?_
            refine lv_bipush (v := 12) hx hb dX6_feed_53 (by decide) ?_
            refine mm_icmp_ge (X := k.toInt) (Y := 12) (tgt := 62) hx hb dX6_feed_55 (by decide) rfl num_12 (fun c_6 => ?_) (fun c_6 => ?_)
            · refine lv_iload hx hb dX6_feed_62 (lv_at hl 6 rfl) ?_
              refine lv_bipush (v := 16) hx hb dX6_feed_64 (by decide) ?_
              refine mm_icmp_ge (X := k.toInt) (Y := 16) (tgt := 74) hx hb dX6_feed_66 (by decide) rfl num_16 (fun c_7 => ?_) (fun c_7 => ?_)
              · refine lv_iload hx hb dX6_feed_74 (lv_at hl 5 rfl) ?_
                refine lv_istore (lv' := [(7, .int p4), (0, .ref h0), (1, .int p0), (2, .int p1), (3, .int p2), (4, .int p3), (5, .int p4), (6, .int k)]) hx hb dX6_feed_76 hl (by decide) rfl (fun ls hl => ?_)
                refine lv_aload_n hx hb dX6_feed_78 rfl (lv_at hl 1 rfl) ?_
                refine mr_get (v := .ref (q 0)) E hM 0 (by decide) (index := 7) (mm_at 2 rfl) rfl rfl dX6_feed_79 ?_
                refine lv_aload_n hx hb dX6_feed_82 rfl (lv_at hl 1 rfl) ?_
                have b_8 : 0 ≤ (Fc_23 1).toInt ∧ (Fc_23 1).toInt ≤ 1000 := hM.fb 1 rfl
                refine mr_get (v := .int (Fc_23 1)) E hM 1 (by decide) (index := 129) (mm_at 1 rfl) rfl rfl dX6_feed_83 ?_
                refine lv_iload hx hb dX6_feed_86 (lv_at hl 7 rfl) ?_
                refine mm_iadd (X := (Fc_23 1).toInt) (Y := k.toInt) hx hb dX6_feed_88 rfl rfl (by omega) (fun z_9 hz_9 => ?_)
                refine lv_iload hx hb dX6_feed_89 (lv_at hl 0 rfl) ?_
                refine lv_bipush (v := 24) hx hb dX6_feed_91 (by decide) ?_
                refine lv_bipush (v := 8) hx hb dX6_feed_93 (by decide) ?_
                refine lv_iload hx hb dX6_feed_95 (lv_at hl 7 rfl) ?_
                refine lv_iconst (v := 4) hx hb dX6_feed_97 (by decide) ?_
                refine lv_irem hx hb dX6_feed_98 (by decide) ?_
                refine lv_topi (fun z_10 ez_10 => ?_)
                have hz_10 : z_10.toInt = ((k.toInt.toNat % 4 : Nat) : Int) := by rw [ez_10]; exact zrem4 (by omega)
                refine mm_imul (X := 8) (Y := z_10.toInt) hx hb dX6_feed_99 num_8 rfl (by omega) (fun z_11 hz_11 => ?_)
                refine mm_isub (X := 24) (Y := z_11.toInt) hx hb dX6_feed_100 num_24 rfl (by omega) (fun z_12 hz_12 => ?_)
                refine lv_ishr hx hb dX6_feed_101 ?_
                refine lv_sipush (v := 255) hx hb dX6_feed_102 (by decide) ?_
                refine lv_iand hx hb dX6_feed_105 ?_
                refine mr_ast (X := z_9.toInt) E hM 0 1 0 rfl rfl rfl (by omega) mg_0 (by decide) (mm_nbA rfl) (by decide) dX6_feed_106 (fun H locs G_13 eG_13 hM => ?_)
                refine mm_iinc (X := k.toInt) (v := 1) (lv2 := fun z => [(6, .int z), (7, .int p4), (0, .ref h0), (1, .int p0), (2, .int p1), (3, .int p2), (4, .int p3), (5, .int p4)]) hx hb dX6_feed_107 hl (k := 7) rfl rfl (by decide) num_1 (by omega) (by decide) (fun _ => rfl) (fun z_14 ls hz_14 hl => ?_)
                have hl : lv_has ls 8 [(6, .int z_14), (7, .int p4), (0, .ref h0), (1, .int p0), (2, .int p1), (3, .int p2), (4, .int p3), (5, .int p4)] := hl
                refine lv_goto (tgt := 23) hx hb dX6_feed_110 (by decide) ?_
                exact ih_23 _ _ _ Fc_23 G_13 z_14 (show (0 ≤ z_14.toInt ∧ z_14.toInt ≤ 20) from by omega) (show (Fc_23 1).toInt = (F 1).toInt from by omega) (show (F 1).toInt ≤ 980 from by omega) (show (∀ q : Nat, q < z_14.toInt.toNat → (G_13 0 ((F 1).toInt.toNat + q)).toInt = zby5 p0 p1 p2 p3 p4 q) from by exact fun q hq => (Nat.lt_or_ge q k.toInt.toNat).elim (fun h9 => by rw [((show G_13 0 = upd (Gc_23 0) (Int32.toNatClampNeg z_9) (((p4 >>> (z_12 &&& 31)) &&& (255 : Int32))) from by rw [eG_13]; rfl).trans (congrArg (fun z => upd z (Int32.toNatClampNeg z_9) (((p4 >>> (z_12 &&& 31)) &&& (255 : Int32)))) rfl))]; simp only [upd]; rw [if_neg (by rw [mm_nat]; omega)]; exact f23_3 q h9) (fun h9 => by have eq : q = k.toInt.toNat := (by omega); rw [eq, ((show G_13 0 = upd (Gc_23 0) (Int32.toNatClampNeg z_9) (((p4 >>> (z_12 &&& 31)) &&& (255 : Int32))) from by rw [eG_13]; rfl).trans (congrArg (fun z => upd z (Int32.toNatClampNeg z_9) (((p4 >>> (z_12 &&& 31)) &&& (255 : Int32)))) rfl))]; simp only [upd]; rw [if_pos (by rw [mm_nat]; omega)]; unfold zby5; rw [if_neg (by omega), if_neg (by omega), if_neg (by omega), if_neg (by omega)]; exact (zsh_amt z_12 (by omega)).symm)) (show (∀ j : Nat, j < (F 1).toInt.toNat → G_13 0 j = G 0 j) from by exact fun j hj => by rw [((show G_13 0 = upd (Gc_23 0) (Int32.toNatClampNeg z_9) (((p4 >>> (z_12 &&& 31)) &&& (255 : Int32))) from by rw [eG_13]; rfl).trans (congrArg (fun z => upd z (Int32.toNatClampNeg z_9) (((p4 >>> (z_12 &&& 31)) &&& (255 : Int32)))) rfl))]; simp only [upd]; rw [if_neg (by rw [mm_nat]; omega)]; exact f23_4 j hj) (show (20 - z_14.toInt) < ((n_23 : Nat) : Int) from by omega) hM (lv_sub hl [2, 3, 4, 5, 6, 7, 0] rfl)
              · refine lv_iload hx hb dX6_feed_69 (lv_at hl 4 rfl) ?_
                refine lv_goto (tgt := 76) hx hb dX6_feed_71 (by decide) ?_
                refine lv_istore (lv' := [(7, .int p3), (0, .ref h0), (1, .int p0), (2, .int p1), (3, .int p2), (4, .int p3), (5, .int p4), (6, .int k)]) hx hb dX6_feed_76 hl (by decide) rfl (fun ls hl => ?_)
                refine lv_aload_n hx hb dX6_feed_78 rfl (lv_at hl 1 rfl) ?_
                refine mr_get (v := .ref (q 0)) E hM 0 (by decide) (index := 7) (mm_at 2 rfl) rfl rfl dX6_feed_79 ?_
                refine lv_aload_n hx hb dX6_feed_82 rfl (lv_at hl 1 rfl) ?_
                have b_15 : 0 ≤ (Fc_23 1).toInt ∧ (Fc_23 1).toInt ≤ 1000 := hM.fb 1 rfl
                refine mr_get (v := .int (Fc_23 1)) E hM 1 (by decide) (index := 129) (mm_at 1 rfl) rfl rfl dX6_feed_83 ?_
                refine lv_iload hx hb dX6_feed_86 (lv_at hl 7 rfl) ?_
                refine mm_iadd (X := (Fc_23 1).toInt) (Y := k.toInt) hx hb dX6_feed_88 rfl rfl (by omega) (fun z_16 hz_16 => ?_)
                refine lv_iload hx hb dX6_feed_89 (lv_at hl 0 rfl) ?_
                refine lv_bipush (v := 24) hx hb dX6_feed_91 (by decide) ?_
                refine lv_bipush (v := 8) hx hb dX6_feed_93 (by decide) ?_
                refine lv_iload hx hb dX6_feed_95 (lv_at hl 7 rfl) ?_
                refine lv_iconst (v := 4) hx hb dX6_feed_97 (by decide) ?_
                refine lv_irem hx hb dX6_feed_98 (by decide) ?_
                refine lv_topi (fun z_17 ez_17 => ?_)
                have hz_17 : z_17.toInt = ((k.toInt.toNat % 4 : Nat) : Int) := by rw [ez_17]; exact zrem4 (by omega)
                refine mm_imul (X := 8) (Y := z_17.toInt) hx hb dX6_feed_99 num_8 rfl (by omega) (fun z_18 hz_18 => ?_)
                refine mm_isub (X := 24) (Y := z_18.toInt) hx hb dX6_feed_100 num_24 rfl (by omega) (fun z_19 hz_19 => ?_)
                refine lv_ishr hx hb dX6_feed_101 ?_
                refine lv_sipush (v := 255) hx hb dX6_feed_102 (by decide) ?_
                refine lv_iand hx hb dX6_feed_105 ?_
                refine mr_ast (X := z_16.toInt) E hM 0 1 0 rfl rfl rfl (by omega) mg_0 (by decide) (mm_nbA rfl) (by decide) dX6_feed_106 (fun H locs G_20 eG_20 hM => ?_)
                refine mm_iinc (X := k.toInt) (v := 1) (lv2 := fun z => [(6, .int z), (7, .int p3), (0, .ref h0), (1, .int p0), (2, .int p1), (3, .int p2), (4, .int p3), (5, .int p4)]) hx hb dX6_feed_107 hl (k := 7) rfl rfl (by decide) num_1 (by omega) (by decide) (fun _ => rfl) (fun z_21 ls hz_21 hl => ?_)
                have hl : lv_has ls 8 [(6, .int z_21), (7, .int p3), (0, .ref h0), (1, .int p0), (2, .int p1), (3, .int p2), (4, .int p3), (5, .int p4)] := hl
                refine lv_goto (tgt := 23) hx hb dX6_feed_110 (by decide) ?_
                exact ih_23 _ _ _ Fc_23 G_20 z_21 (show (0 ≤ z_21.toInt ∧ z_21.toInt ≤ 20) from by omega) (show (Fc_23 1).toInt = (F 1).toInt from by omega) (show (F 1).toInt ≤ 980 from by omega) (show (∀ q : Nat, q < z_21.toInt.toNat → (G_20 0 ((F 1).toInt.toNat + q)).toInt = zby5 p0 p1 p2 p3 p4 q) from by exact fun q hq => (Nat.lt_or_ge q k.toInt.toNat).elim (fun h9 => by rw [((show G_20 0 = upd (Gc_23 0) (Int32.toNatClampNeg z_16) (((p3 >>> (z_19 &&& 31)) &&& (255 : Int32))) from by rw [eG_20]; rfl).trans (congrArg (fun z => upd z (Int32.toNatClampNeg z_16) (((p3 >>> (z_19 &&& 31)) &&& (255 : Int32)))) rfl))]; simp only [upd]; rw [if_neg (by rw [mm_nat]; omega)]; exact f23_3 q h9) (fun h9 => by have eq : q = k.toInt.toNat := (by omega); rw [eq, ((show G_20 0 = upd (Gc_23 0) (Int32.toNatClampNeg z_16) (((p3 >>> (z_19 &&& 31)) &&& (255 : Int32))) from by rw [eG_20]; rfl).trans (congrArg (fun z => upd z (Int32.toNatClampNeg z_16) (((p3 >>> (z_19 &&& 31)) &&& (255 : Int32)))) rfl))]; simp only [upd]; rw [if_pos (by rw [mm_nat]; omega)]; unfold zby5; rw [if_neg (by omega), if_neg (by omega), if_neg (by omega), if_pos (by omega)]; exact (zsh_amt z_19 (by omega)).symm)) (show (∀ j : Nat, j < (F 1).toInt.toNat → G_20 0 j = G 0 j) from by exact fun j hj => by rw [((show G_20 0 = upd (Gc_23 0) (Int32.toNatClampNeg z_16) (((p3 >>> (z_19 &&& 31)) &&& (255 : Int32))) from by rw [eG_20]; rfl).trans (congrArg (fun z => upd z (Int32.toNatClampNeg z_16) (((p3 >>> (z_19 &&& 31)) &&& (255 : Int32)))) rfl))]; simp only [upd]; rw [if_neg (by rw [mm_nat]; omega)]; exact f23_4 j hj) (show (20 - z_21.toInt) < ((n_23 : Nat) : Int) from by omega) hM (lv_sub hl [2, 3, 4, 5, 6, 7, 0] rfl)
            · refine lv_iload_n hx hb dX6_feed_58 rfl (lv_at hl 3 rfl) ?_
              refine lv_goto (tgt := 76) hx hb dX6_feed_59 (by decide) ?_
              refine lv_istore (lv' := [(7, .int p2), (0, .ref h0), (1, .int p0), (2, .int p1), (3, .int p2), (4, .int p3), (5, .int p4), (6, .int k)]) hx hb dX6_feed_76 hl (by decide) rfl (fun ls hl => ?_)
              refine lv_aload_n hx hb dX6_feed_78 rfl (lv_at hl 1 rfl) ?_
              refine mr_get (v := .ref (q 0)) E hM 0 (by decide) (index := 7) (mm_at 2 rfl) rfl rfl dX6_feed_79 ?_
              refine lv_aload_n hx hb dX6_feed_82 rfl (lv_at hl 1 rfl) ?_
              have b_22 : 0 ≤ (Fc_23 1).toInt ∧ (Fc_23 1).toInt ≤ 1000 := hM.fb 1 rfl
              refine mr_get (v := .int (Fc_23 1)) E hM 1 (by decide) (index := 129) (mm_at 1 rfl) rfl rfl dX6_feed_83 ?_
              refine lv_iload hx hb dX6_feed_86 (lv_at hl 7 rfl) ?_
              refine mm_iadd (X := (Fc_23 1).toInt) (Y := k.toInt) hx hb dX6_feed_88 rfl rfl (by omega) (fun z_23 hz_23 => ?_)
              refine lv_iload hx hb dX6_feed_89 (lv_at hl 0 rfl) ?_
              refine lv_bipush (v := 24) hx hb dX6_feed_91 (by decide) ?_
              refine lv_bipush (v := 8) hx hb dX6_feed_93 (by decide) ?_
              refine lv_iload hx hb dX6_feed_95 (lv_at hl 7 rfl) ?_
              refine lv_iconst (v := 4) hx hb dX6_feed_97 (by decide) ?_
              refine lv_irem hx hb dX6_feed_98 (by decide) ?_
              refine lv_topi (fun z_24 ez_24 => ?_)
              have hz_24 : z_24.toInt = ((k.toInt.toNat % 4 : Nat) : Int) := by rw [ez_24]; exact zrem4 (by omega)
              refine mm_imul (X := 8) (Y := z_24.toInt) hx hb dX6_feed_99 num_8 rfl (by omega) (fun z_25 hz_25 => ?_)
              refine mm_isub (X := 24) (Y := z_25.toInt) hx hb dX6_feed_100 num_24 rfl (by omega) (fun z_26 hz_26 => ?_)
              refine lv_ishr hx hb dX6_feed_101 ?_
              refine lv_sipush (v := 255) hx hb dX6_feed_102 (by decide) ?_
              refine lv_iand hx hb dX6_feed_105 ?_
              refine mr_ast (X := z_23.toInt) E hM 0 1 0 rfl rfl rfl (by omega) mg_0 (by decide) (mm_nbA rfl) (by decide) dX6_feed_106 (fun H locs G_27 eG_27 hM => ?_)
              refine mm_iinc (X := k.toInt) (v := 1) (lv2 := fun z => [(6, .int z), (7, .int p2), (0, .ref h0), (1, .int p0), (2, .int p1), (3, .int p2), (4, .int p3), (5, .int p4)]) hx hb dX6_feed_107 hl (k := 7) rfl rfl (by decide) num_1 (by omega) (by decide) (fun _ => rfl) (fun z_28 ls hz_28 hl => ?_)
              have hl : lv_has ls 8 [(6, .int z_28), (7, .int p2), (0, .ref h0), (1, .int p0), (2, .int p1), (3, .int p2), (4, .int p3), (5, .int p4)] := hl
              refine lv_goto (tgt := 23) hx hb dX6_feed_110 (by decide) ?_
              exact ih_23 _ _ _ Fc_23 G_27 z_28 (show (0 ≤ z_28.toInt ∧ z_28.toInt ≤ 20) from by omega) (show (Fc_23 1).toInt = (F 1).toInt from by omega) (show (F 1).toInt ≤ 980 from by omega) (show (∀ q : Nat, q < z_28.toInt.toNat → (G_27 0 ((F 1).toInt.toNat + q)).toInt = zby5 p0 p1 p2 p3 p4 q) from by exact fun q hq => (Nat.lt_or_ge q k.toInt.toNat).elim (fun h9 => by rw [((show G_27 0 = upd (Gc_23 0) (Int32.toNatClampNeg z_23) (((p2 >>> (z_26 &&& 31)) &&& (255 : Int32))) from by rw [eG_27]; rfl).trans (congrArg (fun z => upd z (Int32.toNatClampNeg z_23) (((p2 >>> (z_26 &&& 31)) &&& (255 : Int32)))) rfl))]; simp only [upd]; rw [if_neg (by rw [mm_nat]; omega)]; exact f23_3 q h9) (fun h9 => by have eq : q = k.toInt.toNat := (by omega); rw [eq, ((show G_27 0 = upd (Gc_23 0) (Int32.toNatClampNeg z_23) (((p2 >>> (z_26 &&& 31)) &&& (255 : Int32))) from by rw [eG_27]; rfl).trans (congrArg (fun z => upd z (Int32.toNatClampNeg z_23) (((p2 >>> (z_26 &&& 31)) &&& (255 : Int32)))) rfl))]; simp only [upd]; rw [if_pos (by rw [mm_nat]; omega)]; unfold zby5; rw [if_neg (by omega), if_neg (by omega), if_pos (by omega)]; exact (zsh_amt z_26 (by omega)).symm)) (show (∀ j : Nat, j < (F 1).toInt.toNat → G_27 0 j = G 0 j) from by exact fun j hj => by rw [((show G_27 0 = upd (Gc_23 0) (Int32.toNatClampNeg z_23) (((p2 >>> (z_26 &&& 31)) &&& (255 : Int32))) from by rw [eG_27]; rfl).trans (congrArg (fun z => upd z (Int32.toNatClampNeg z_23) (((p2 >>> (z_26 &&& 31)) &&& (255 : Int32)))) rfl))]; simp only [upd]; rw [if_neg (by rw [mm_nat]; omega)]; exact f23_4 j hj) (show (20 - z_28.toInt) < ((n_23 : Nat) : Int) from by omega) hM (lv_sub hl [2, 3, 4, 5, 6, 7, 0] rfl)
          · refine lv_iload_n hx hb dX6_feed_47 rfl (lv_at hl 2 rfl) ?_
            refine lv_goto (tgt := 76) hx hb dX6_feed_48 (by decide) ?_
            refine lv_istore (lv' := [(7, .int p1), (0, .ref h0), (1, .int p0), (2, .int p1), (3, .int p2), (4, .int p3), (5, .int p4), (6, .int k)]) hx hb dX6_feed_76 hl (by decide) rfl (fun ls hl => ?_)
            refine lv_aload_n hx hb dX6_feed_78 rfl (lv_at hl 1 rfl) ?_
            refine mr_get (v := .ref (q 0)) E hM 0 (by decide) (index := 7) (mm_at 2 rfl) rfl rfl dX6_feed_79 ?_
            refine lv_aload_n hx hb dX6_feed_82 rfl (lv_at hl 1 rfl) ?_
            have b_29 : 0 ≤ (Fc_23 1).toInt ∧ (Fc_23 1).toInt ≤ 1000 := hM.fb 1 rfl
            refine mr_get (v := .int (Fc_23 1)) E hM 1 (by decide) (index := 129) (mm_at 1 rfl) rfl rfl dX6_feed_83 ?_
            refine lv_iload hx hb dX6_feed_86 (lv_at hl 7 rfl) ?_
            refine mm_iadd (X := (Fc_23 1).toInt) (Y := k.toInt) hx hb dX6_feed_88 rfl rfl (by omega) (fun z_30 hz_30 => ?_)
            refine lv_iload hx hb dX6_feed_89 (lv_at hl 0 rfl) ?_
            refine lv_bipush (v := 24) hx hb dX6_feed_91 (by decide) ?_
            refine lv_bipush (v := 8) hx hb dX6_feed_93 (by decide) ?_
            refine lv_iload hx hb dX6_feed_95 (lv_at hl 7 rfl) ?_
            refine lv_iconst (v := 4) hx hb dX6_feed_97 (by decide) ?_
            refine lv_irem hx hb dX6_feed_98 (by decide) ?_
            refine lv_topi (fun z_31 ez_31 => ?_)
            have hz_31 : z_31.toInt = ((k.toInt.toNat % 4 : Nat) : Int) := by rw [ez_31]; exact zrem4 (by omega)
            refine mm_imul (X := 8) (Y := z_31.toInt) hx hb dX6_feed_99 num_8 rfl (by omega) (fun z_32 hz_32 => ?_)
            refine mm_isub (X := 24) (Y := z_32.toInt) hx hb dX6_feed_100 num_24 rfl (by omega) (fun z_33 hz_33 => ?_)
            refine lv_ishr hx hb dX6_feed_101 ?_
            refine lv_sipush (v := 255) hx hb dX6_feed_102 (by decide) ?_
            refine lv_iand hx hb dX6_feed_105 ?_
            refine mr_ast (X := z_30.toInt) E hM 0 1 0 rfl rfl rfl (by omega) mg_0 (by decide) (mm_nbA rfl) (by decide) dX6_feed_106 (fun H locs G_34 eG_34 hM => ?_)
            refine mm_iinc (X := k.toInt) (v := 1) (lv2 := fun z => [(6, .int z), (7, .int p1), (0, .ref h0), (1, .int p0), (2, .int p1), (3, .int p2), (4, .int p3), (5, .int p4)]) hx hb dX6_feed_107 hl (k := 7) rfl rfl (by decide) num_1 (by omega) (by decide) (fun _ => rfl) (fun z_35 ls hz_35 hl => ?_)
            have hl : lv_has ls 8 [(6, .int z_35), (7, .int p1), (0, .ref h0), (1, .int p0), (2, .int p1), (3, .int p2), (4, .int p3), (5, .int p4)] := hl
            refine lv_goto (tgt := 23) hx hb dX6_feed_110 (by decide) ?_
            exact ih_23 _ _ _ Fc_23 G_34 z_35 (show (0 ≤ z_35.toInt ∧ z_35.toInt ≤ 20) from by omega) (show (Fc_23 1).toInt = (F 1).toInt from by omega) (show (F 1).toInt ≤ 980 from by omega) (show (∀ q : Nat, q < z_35.toInt.toNat → (G_34 0 ((F 1).toInt.toNat + q)).toInt = zby5 p0 p1 p2 p3 p4 q) from by exact fun q hq => (Nat.lt_or_ge q k.toInt.toNat).elim (fun h9 => by rw [((show G_34 0 = upd (Gc_23 0) (Int32.toNatClampNeg z_30) (((p1 >>> (z_33 &&& 31)) &&& (255 : Int32))) from by rw [eG_34]; rfl).trans (congrArg (fun z => upd z (Int32.toNatClampNeg z_30) (((p1 >>> (z_33 &&& 31)) &&& (255 : Int32)))) rfl))]; simp only [upd]; rw [if_neg (by rw [mm_nat]; omega)]; exact f23_3 q h9) (fun h9 => by have eq : q = k.toInt.toNat := (by omega); rw [eq, ((show G_34 0 = upd (Gc_23 0) (Int32.toNatClampNeg z_30) (((p1 >>> (z_33 &&& 31)) &&& (255 : Int32))) from by rw [eG_34]; rfl).trans (congrArg (fun z => upd z (Int32.toNatClampNeg z_30) (((p1 >>> (z_33 &&& 31)) &&& (255 : Int32)))) rfl))]; simp only [upd]; rw [if_pos (by rw [mm_nat]; omega)]; unfold zby5; rw [if_neg (by omega), if_pos (by omega)]; exact (zsh_amt z_33 (by omega)).symm)) (show (∀ j : Nat, j < (F 1).toInt.toNat → G_34 0 j = G 0 j) from by exact fun j hj => by rw [((show G_34 0 = upd (Gc_23 0) (Int32.toNatClampNeg z_30) (((p1 >>> (z_33 &&& 31)) &&& (255 : Int32))) from by rw [eG_34]; rfl).trans (congrArg (fun z => upd z (Int32.toNatClampNeg z_30) (((p1 >>> (z_33 &&& 31)) &&& (255 : Int32)))) rfl))]; simp only [upd]; rw [if_neg (by rw [mm_nat]; omega)]; exact f23_4 j hj) (show (20 - z_35.toInt) < ((n_23 : Nat) : Int) from by omega) hM (lv_sub hl [2, 3, 4, 5, 6, 7, 0] rfl)
        · refine lv_iload_n hx hb dX6_feed_36 rfl (lv_at hl 1 rfl) ?_
          refine lv_goto (tgt := 76) hx hb dX6_feed_37 (by decide) ?_
          refine lv_istore (lv' := [(7, .int p0), (0, .ref h0), (1, .int p0), (2, .int p1), (3, .int p2), (4, .int p3), (5, .int p4), (6, .int k)]) hx hb dX6_feed_76 hl (by decide) rfl (fun ls hl => ?_)
          refine lv_aload_n hx hb dX6_feed_78 rfl (lv_at hl 1 rfl) ?_
          refine mr_get (v := .ref (q 0)) E hM 0 (by decide) (index := 7) (mm_at 2 rfl) rfl rfl dX6_feed_79 ?_
          refine lv_aload_n hx hb dX6_feed_82 rfl (lv_at hl 1 rfl) ?_
          have b_36 : 0 ≤ (Fc_23 1).toInt ∧ (Fc_23 1).toInt ≤ 1000 := hM.fb 1 rfl
          refine mr_get (v := .int (Fc_23 1)) E hM 1 (by decide) (index := 129) (mm_at 1 rfl) rfl rfl dX6_feed_83 ?_
          refine lv_iload hx hb dX6_feed_86 (lv_at hl 7 rfl) ?_
          refine mm_iadd (X := (Fc_23 1).toInt) (Y := k.toInt) hx hb dX6_feed_88 rfl rfl (by omega) (fun z_37 hz_37 => ?_)
          refine lv_iload hx hb dX6_feed_89 (lv_at hl 0 rfl) ?_
          refine lv_bipush (v := 24) hx hb dX6_feed_91 (by decide) ?_
          refine lv_bipush (v := 8) hx hb dX6_feed_93 (by decide) ?_
          refine lv_iload hx hb dX6_feed_95 (lv_at hl 7 rfl) ?_
          refine lv_iconst (v := 4) hx hb dX6_feed_97 (by decide) ?_
          refine lv_irem hx hb dX6_feed_98 (by decide) ?_
          refine lv_topi (fun z_38 ez_38 => ?_)
          have hz_38 : z_38.toInt = ((k.toInt.toNat % 4 : Nat) : Int) := by rw [ez_38]; exact zrem4 (by omega)
          refine mm_imul (X := 8) (Y := z_38.toInt) hx hb dX6_feed_99 num_8 rfl (by omega) (fun z_39 hz_39 => ?_)
          refine mm_isub (X := 24) (Y := z_39.toInt) hx hb dX6_feed_100 num_24 rfl (by omega) (fun z_40 hz_40 => ?_)
          refine lv_ishr hx hb dX6_feed_101 ?_
          refine lv_sipush (v := 255) hx hb dX6_feed_102 (by decide) ?_
          refine lv_iand hx hb dX6_feed_105 ?_
          refine mr_ast (X := z_37.toInt) E hM 0 1 0 rfl rfl rfl (by omega) mg_0 (by decide) (mm_nbA rfl) (by decide) dX6_feed_106 (fun H locs G_41 eG_41 hM => ?_)
          refine mm_iinc (X := k.toInt) (v := 1) (lv2 := fun z => [(6, .int z), (7, .int p0), (0, .ref h0), (1, .int p0), (2, .int p1), (3, .int p2), (4, .int p3), (5, .int p4)]) hx hb dX6_feed_107 hl (k := 7) rfl rfl (by decide) num_1 (by omega) (by decide) (fun _ => rfl) (fun z_42 ls hz_42 hl => ?_)
          have hl : lv_has ls 8 [(6, .int z_42), (7, .int p0), (0, .ref h0), (1, .int p0), (2, .int p1), (3, .int p2), (4, .int p3), (5, .int p4)] := hl
          refine lv_goto (tgt := 23) hx hb dX6_feed_110 (by decide) ?_
          exact ih_23 _ _ _ Fc_23 G_41 z_42 (show (0 ≤ z_42.toInt ∧ z_42.toInt ≤ 20) from by omega) (show (Fc_23 1).toInt = (F 1).toInt from by omega) (show (F 1).toInt ≤ 980 from by omega) (show (∀ q : Nat, q < z_42.toInt.toNat → (G_41 0 ((F 1).toInt.toNat + q)).toInt = zby5 p0 p1 p2 p3 p4 q) from by exact fun q hq => (Nat.lt_or_ge q k.toInt.toNat).elim (fun h9 => by rw [((show G_41 0 = upd (Gc_23 0) (Int32.toNatClampNeg z_37) (((p0 >>> (z_40 &&& 31)) &&& (255 : Int32))) from by rw [eG_41]; rfl).trans (congrArg (fun z => upd z (Int32.toNatClampNeg z_37) (((p0 >>> (z_40 &&& 31)) &&& (255 : Int32)))) rfl))]; simp only [upd]; rw [if_neg (by rw [mm_nat]; omega)]; exact f23_3 q h9) (fun h9 => by have eq : q = k.toInt.toNat := (by omega); rw [eq, ((show G_41 0 = upd (Gc_23 0) (Int32.toNatClampNeg z_37) (((p0 >>> (z_40 &&& 31)) &&& (255 : Int32))) from by rw [eG_41]; rfl).trans (congrArg (fun z => upd z (Int32.toNatClampNeg z_37) (((p0 >>> (z_40 &&& 31)) &&& (255 : Int32)))) rfl))]; simp only [upd]; rw [if_pos (by rw [mm_nat]; omega)]; unfold zby5; rw [if_pos (by omega)]; exact (zsh_amt z_40 (by omega)).symm)) (show (∀ j : Nat, j < (F 1).toInt.toNat → G_41 0 j = G 0 j) from by exact fun j hj => by rw [((show G_41 0 = upd (Gc_23 0) (Int32.toNatClampNeg z_37) (((p0 >>> (z_40 &&& 31)) &&& (255 : Int32))) from by rw [eG_41]; rfl).trans (congrArg (fun z => upd z (Int32.toNatClampNeg z_37) (((p0 >>> (z_40 &&& 31)) &&& (255 : Int32)))) rfl))]; simp only [upd]; rw [if_neg (by rw [mm_nat]; omega)]; exact f23_4 j hj) (show (20 - z_42.toInt) < ((n_23 : Nat) : Int) from by omega) hM (lv_sub hl [2, 3, 4, 5, 6, 7, 0] rfl)
  refine lv_aload_n hx hb dX6_feed_0 rfl (lv_at hl 0 rfl) ?_
  refine lv_iconst (v := 0) hx hb dX6_feed_1 (by decide) ?_
  refine mr_put (v := 0) E hM 2 (by decide) (index := 126) (mm_at 3 rfl) rfl rfl (by decide +kernel) ms_2 (mm_nb rfl) (by decide) dX6_feed_2 (fun H locs hM => ?_)
  refine lv_aload_n hx hb dX6_feed_5 rfl (lv_at hl 0 rfl) ?_
  have b_43 : 0 ≤ (F 1).toInt ∧ (F 1).toInt ≤ 1000 := hM.fb 1 rfl
  refine mr_get (v := .int (F 1)) E hM 1 (by decide) (index := 129) (mm_at 1 rfl) rfl rfl dX6_feed_6 ?_
  refine lv_bipush (v := 20) hx hb dX6_feed_9 (by decide) ?_
  refine mm_iadd (X := (F 1).toInt) (Y := 20) hx hb dX6_feed_11 rfl num_20 (by omega) (fun z_44 hz_44 => ?_)
  refine lv_sipush (v := 1000) hx hb dX6_feed_12 (by decide) ?_
  refine mm_icmp_le (X := z_44.toInt) (Y := 1000) (tgt := 20) hx hb dX6_feed_15 (by decide) rfl num_1000 (fun c_45 => ?_) (fun c_45 => ?_)
  · refine lv_iconst (v := 0) hx hb dX6_feed_20 (by decide) ?_
    refine lv_istore (lv' := [(6, .int 0), (0, .ref h0), (1, .int p0), (2, .int p1), (3, .int p2), (4, .int p3), (5, .int p4)]) hx hb dX6_feed_21 hl (by decide) rfl (fun ls hl => ?_)
    exact B_23 4294967296 _ _ _ (upd F 2 0) G 0 (show (0 ≤ (0 : Int32).toInt ∧ (0 : Int32).toInt ≤ 20) from by have n_0 := num_0; have n9_2 := num_0; omega) (show (F 1).toInt = (F 1).toInt from by have n_0 := num_0; have n9_2 := num_0; omega) (show (F 1).toInt ≤ 980 from by have n_0 := num_0; have n9_2 := num_0; omega) (show (∀ q : Nat, q < (0 : Int32).toInt.toNat → (G 0 ((F 1).toInt.toNat + q)).toInt = zby5 p0 p1 p2 p3 p4 q) from by have n_0 := num_0; have n9_2 := num_0; exact fun q hq => absurd hq (by rw [show (0 : Int32).toInt.toNat = 0 from by decide]; exact Nat.not_lt_zero _)) (show (∀ j : Nat, j < (F 1).toInt.toNat → G 0 j = G 0 j) from by have n_0 := num_0; have n9_2 := num_0; exact fun j hj => rfl) (show (20 - (0 : Int32).toInt) < ((4294967296 : Nat) : Int) from by have n_0 := num_0; have n9_2 := num_0; omega) hM (lv_sub hl [1, 2, 3, 4, 5, 6, 0] rfl)
  · refine lv_iconst (v := (-1)) hx hb dX6_feed_18 (by decide) ?_
    exact mr_ri E hr hlk hsz hM (show ((F 1).toInt ≤ 980 ∧ ((-1) : Int32).toInt = (F 1).toInt + 20 ∧ (F 1).toInt = (F 1).toInt + 20 ∧ (∀ k : Nat, k < 20 → (G 0 ((F 1).toInt.toNat + k)).toInt = zby5 p0 p1 p2 p3 p4 k) ∧ ∀ j : Nat, j < (F 1).toInt.toNat → G 0 j = G 0 j) ∨ (980 < (F 1).toInt ∧ ((-1) : Int32).toInt = -1 ∧ (F 1).toInt = (F 1).toInt ∧ G 0 = G 0) from by have n9 := num_m1; have n9_2 := num_0; exact Or.inr ⟨by omega, by omega, by omega, rfl⟩) dX6_feed_19
