theorem mm_nb {k : Nat} {v : Int32} (h : mfb k = none) : ∀ b, mfb k = some b → b.1 ≤ v.toInt ∧ v.toInt ≤ b.2 := fun b hb => by rw [h] at hb; cases hb
theorem mm_nbA {k : Nat} {v : Int32} (h : mab k = none) : ∀ b, mab k = some b → b.1 ≤ v.toInt ∧ v.toInt ≤ b.2 := fun b hb => by rw [h] at hb; cases hb
theorem mm_bd {k : Nat} {v : Int32} {X a b : Int} (h : mfb k = some (a, b)) (hv : v.toInt = X) (h2 : a ≤ X ∧ X ≤ b) : ∀ b, mfb k = some b → b.1 ≤ v.toInt ∧ v.toInt ≤ b.2 := fun b hb => by rw [h] at hb; cases hb; rw [hv]; exact h2
theorem mm_bdA {k : Nat} {v : Int32} {X a b : Int} (h : mab k = some (a, b)) (hv : v.toInt = X) (h2 : a ≤ X ∧ X ≤ b) : ∀ b, mab k = some b → b.1 ≤ v.toInt ∧ v.toInt ≤ b.2 := fun b hb => by rw [h] at hb; cases hb; rw [hv]; exact h2
theorem mr_calls {p : Program} {l : Launch} {e : Env} {R : Room} {s : State} {m : MethodId} {args : Array Value} {below : List Frame} {meth : Method} {c : Code} {H : Heap} {locs : List Loc} {cells slots : Nat} {Q : State → Prop} {cc : ByteArray} {pc : Nat} {ls : Array Slot} {rest : List Value} {Ts : List Cond} {D : va_G} {h0 : Nat} {q : Nat → Nat} {cq : Nat → ClassId} {A : Nat → Prop} {H0 : Heap} {WF WG : List Nat} {Fi : Nat → Int32} {Gi : Nat → Nat → Int32} {F : Nat → Int32} {G : Nat → Nat → Int32}
    {y : MethodName} {w : List Cond} {rm : Room} {bytes : ByteArray} {maxL nL n index : Nat} {ret : Option FieldType} {av st0 : List Value} {post : Int32 → (Nat → Int32) → (Nat → Nat → Int32) → Prop} (E : mX p c cc s m args Ts D cq) (hA : ∀ x, H0.size ≤ x → A x) (hml : c.maxLocals = nL) (hM : mQ D h0 q cq A H0 WF WG Fi Gi H locs F G)
    (hC : Met l y w rm (mPre D h0 q cq F G H.size av) (mQi D h0 q cq F G H.size [] [] post) 0 0 (va_A (mW h0 q cq F G) H.size)) (cw : CallB R s args RX6 index y bytes maxL ret w rm 0 0 n ∧ (Cond.static y).before args s = true) (hn : av.length = n) (hsz : ls.size = nL) (hst : st0 = av.reverse ++ rest) (hro : (rest.map fun v => v.category).sum ≤ 8) (hdg : decode cc pc = .ok (.invokestatic index, 3)) (hf : cells ≤ R.cells ∧ slots ≤ R.slots)
    (kk : ∀ (r : Int32) (H : Heap) (locs : List Loc), post r F G → mQ D h0 q cq A H0 WF WG Fi Gi H locs F G → W p l e R s m args below meth c H locs cells slots Q (F0 m (pc + 3) ls (.int r :: rest))) : W p l e R s m args below meth c H locs cells slots Q (F0 m pc ls st0) := by
  obtain ⟨hP, hD, hS, hI, hF⟩ := hM
  have hFc : ∀ x, va_A (mW h0 q cq F G) H.size x → A x := fun x hx => by
    rcases hx with ⟨k, e, hx⟩ | hx
    · exact hD.2 k _ hx
    · exact hA x (Nat.le_trans hS.1 hx)
  refine va_calli (va_runS (As := av) (rest := rest) ⟨E.1, E.2.1, hml, E.2.2.2.2.1, E.2.2.1⟩ hC cw ⟨fun a U g mk z => ?_, fun U hU hW => ?_⟩ rfl hn hsz hst (lv_room hro) hdg hf) hS (fun x _ h => hFc x h) hFc (fun r u t H1 locs1 ht hvm hw hB hz1 hk1 hS1 => ?_)
  · obtain ⟨z0, z1, zP, zK, zD⟩ := z
    exact ⟨z0, z1, zP, va_K.moved (u := U) (U := U.calling g mk a) (Vm.Alike.refl U.vm) zK, zD⟩
  · exact ⟨rfl, by rw [hU], by rw [hU]; exact hP, va_K.moved hW.alike E.2.2.2.2.2, hD.weaken (fun _ _ _ _ => trivial)⟩
  · obtain ⟨hI1, hF1, hp⟩ := hw
    obtain ⟨hP1, -, hD1⟩ := hB
    rw [ht] at hP1
    have e1 : u.1 = F := funext fun k => hF1.1 k (by simp)
    have e2 : u.2 = G := funext fun k => hF1.2 k (by simp)
    rw [e1, e2] at hP1 hI1 hp
    rw [e1, e2] at hD1
    exact kk r H1 locs1 hp ⟨hP1, hD1.weaken (fun k x _ h => hFc x.1 h), hS1, hI1, hF⟩
theorem num_m1 : ((-1) : Int32).toInt = -1 := by decide
theorem num_0 : (0 : Int32).toInt = 0 := by decide
theorem num_1 : (1 : Int32).toInt = 1 := by decide
theorem num_7 : (7 : Int32).toInt = 7 := by decide
theorem num_16 : (16 : Int32).toInt = 16 := by decide
theorem num_200 : (200 : Int32).toInt = 200 := by decide
def w3X6_isRace : List Cond := .code yX6_isRace cX6_isRace 2 (some .boolean) :: ([.fieldLink RX6 200 "SkiShotsModel" "races" "I"] ++ wsX60)
set_option maxHeartbeats 4000000 in
set_option maxRecDepth 100000 in
theorem g3_X6_isRace (l : Launch) (D : va_G) (h0 : Nat) (q : Nat → Nat) (cq : Nat → ClassId) (F : Nat → Int32) (G : Nat → Nat → Int32) (sz : Nat) (p0 : Int32) (hI : mI F G)  : Met l yX6_isRace w3X6_isRace ({ frames := 0, cells := 0, slots := 0, locals := 0 }) (mPre D h0 q cq F G sz [.ref h0, .int p0]) (mQi D h0 q cq F G sz [] [] (fun r F' G' => (r.toInt = 1 ∧ 0 ≤ p0.toInt ∧ p0.toInt < (F 17).toInt) ∨ (r.toInt = 0 ∧ ¬ (0 ≤ p0.toInt ∧ p0.toInt < (F 17).toInt)))) 0 0 (va_A (mW h0 q cq F G) sz) := by
  refine mr_met (WF := []) (WG := []) (cc := cX6_isRace) (maxL := 2) (ret := (some .boolean)) (by decide) rfl rfl (by decide +kernel) (Nat.le_of_ble_eq_true rfl) hI ?_
  intro p e s m args below meth c ls E hml hr hlk hsz hA hM hl
  have hx := E.1
  have hb := E.2.1
  have hts := E.2.2.1
  have hown := E.2.2.2.2.1
  have hl : lv_has ls 2 [(0, .ref h0), (1, .int p0)] := hl
  refine lv_iload_n hx hb dX6_isRace_0 rfl (lv_at hl 1 rfl) ?_
  refine mm_if_lt (X := p0.toInt) (tgt := 16) hx hb dX6_isRace_1 (by decide) rfl (fun c_1 => ?_) (fun c_1 => ?_)
  · refine lv_iconst (v := 0) hx hb dX6_isRace_16 (by decide) ?_
    exact mr_rz (X := 0) E hr hlk hsz hM num_0 (by omega) (show ((0 : Int32).toInt = 1 ∧ 0 ≤ p0.toInt ∧ p0.toInt < (F 17).toInt) ∨ ((0 : Int32).toInt = 0 ∧ ¬ (0 ≤ p0.toInt ∧ p0.toInt < (F 17).toInt)) from by have n9 := num_0; omega) dX6_isRace_17
  · refine lv_iload_n hx hb dX6_isRace_4 rfl (lv_at hl 1 rfl) ?_
    refine lv_aload_n hx hb dX6_isRace_5 rfl (lv_at hl 0 rfl) ?_
    have b_2 : 0 ≤ (F 17).toInt ∧ (F 17).toInt ≤ 8 := hM.fb 17 rfl
    refine mr_get (v := .int (F 17)) E hM 17 (by decide) (index := 200) (mm_at 1 rfl) rfl rfl dX6_isRace_6 ?_
    refine mm_icmp_ge (X := p0.toInt) (Y := (F 17).toInt) (tgt := 16) hx hb dX6_isRace_9 (by decide) rfl rfl (fun c_3 => ?_) (fun c_3 => ?_)
    · refine lv_iconst (v := 0) hx hb dX6_isRace_16 (by decide) ?_
      exact mr_rz (X := 0) E hr hlk hsz hM num_0 (by omega) (show ((0 : Int32).toInt = 1 ∧ 0 ≤ p0.toInt ∧ p0.toInt < (F 17).toInt) ∨ ((0 : Int32).toInt = 0 ∧ ¬ (0 ≤ p0.toInt ∧ p0.toInt < (F 17).toInt)) from by have n9 := num_0; omega) dX6_isRace_17
    · refine lv_iconst (v := 1) hx hb dX6_isRace_12 (by decide) ?_
      refine lv_goto (tgt := 17) hx hb dX6_isRace_13 (by decide) ?_
      exact mr_rz (X := 1) E hr hlk hsz hM num_1 (by omega) (show ((1 : Int32).toInt = 1 ∧ 0 ≤ p0.toInt ∧ p0.toInt < (F 17).toInt) ∨ ((1 : Int32).toInt = 0 ∧ ¬ (0 ≤ p0.toInt ∧ p0.toInt < (F 17).toInt)) from by have n9 := num_1; omega) dX6_isRace_17
def w3X6_isRacer : List Cond := .code yX6_isRacer cX6_isRacer 2 (some .boolean) :: ([.fieldLink RX6 197 "SkiShotsModel" "racers" "I"] ++ wsX60)
set_option maxHeartbeats 4000000 in
set_option maxRecDepth 100000 in
theorem g3_X6_isRacer (l : Launch) (D : va_G) (h0 : Nat) (q : Nat → Nat) (cq : Nat → ClassId) (F : Nat → Int32) (G : Nat → Nat → Int32) (sz : Nat) (p0 : Int32) (hI : mI F G)  : Met l yX6_isRacer w3X6_isRacer ({ frames := 0, cells := 0, slots := 0, locals := 0 }) (mPre D h0 q cq F G sz [.ref h0, .int p0]) (mQi D h0 q cq F G sz [] [] (fun r F' G' => (r.toInt = 1 ∧ 0 ≤ p0.toInt ∧ p0.toInt < (F 15).toInt) ∨ (r.toInt = 0 ∧ ¬ (0 ≤ p0.toInt ∧ p0.toInt < (F 15).toInt)))) 0 0 (va_A (mW h0 q cq F G) sz) := by
  refine mr_met (WF := []) (WG := []) (cc := cX6_isRacer) (maxL := 2) (ret := (some .boolean)) (by decide) rfl rfl (by decide +kernel) (Nat.le_of_ble_eq_true rfl) hI ?_
  intro p e s m args below meth c ls E hml hr hlk hsz hA hM hl
  have hx := E.1
  have hb := E.2.1
  have hts := E.2.2.1
  have hown := E.2.2.2.2.1
  have hl : lv_has ls 2 [(0, .ref h0), (1, .int p0)] := hl
  refine lv_iload_n hx hb dX6_isRacer_0 rfl (lv_at hl 1 rfl) ?_
  refine mm_if_lt (X := p0.toInt) (tgt := 16) hx hb dX6_isRacer_1 (by decide) rfl (fun c_1 => ?_) (fun c_1 => ?_)
  · refine lv_iconst (v := 0) hx hb dX6_isRacer_16 (by decide) ?_
    exact mr_rz (X := 0) E hr hlk hsz hM num_0 (by omega) (show ((0 : Int32).toInt = 1 ∧ 0 ≤ p0.toInt ∧ p0.toInt < (F 15).toInt) ∨ ((0 : Int32).toInt = 0 ∧ ¬ (0 ≤ p0.toInt ∧ p0.toInt < (F 15).toInt)) from by have n9 := num_0; omega) dX6_isRacer_17
  · refine lv_iload_n hx hb dX6_isRacer_4 rfl (lv_at hl 1 rfl) ?_
    refine lv_aload_n hx hb dX6_isRacer_5 rfl (lv_at hl 0 rfl) ?_
    have b_2 : 0 ≤ (F 15).toInt ∧ (F 15).toInt ≤ 16 := hM.fb 15 rfl
    refine mr_get (v := .int (F 15)) E hM 15 (by decide) (index := 197) (mm_at 1 rfl) rfl rfl dX6_isRacer_6 ?_
    refine mm_icmp_ge (X := p0.toInt) (Y := (F 15).toInt) (tgt := 16) hx hb dX6_isRacer_9 (by decide) rfl rfl (fun c_3 => ?_) (fun c_3 => ?_)
    · refine lv_iconst (v := 0) hx hb dX6_isRacer_16 (by decide) ?_
      exact mr_rz (X := 0) E hr hlk hsz hM num_0 (by omega) (show ((0 : Int32).toInt = 1 ∧ 0 ≤ p0.toInt ∧ p0.toInt < (F 15).toInt) ∨ ((0 : Int32).toInt = 0 ∧ ¬ (0 ≤ p0.toInt ∧ p0.toInt < (F 15).toInt)) from by have n9 := num_0; omega) dX6_isRacer_17
    · refine lv_iconst (v := 1) hx hb dX6_isRacer_12 (by decide) ?_
      refine lv_goto (tgt := 17) hx hb dX6_isRacer_13 (by decide) ?_
      exact mr_rz (X := 1) E hr hlk hsz hM num_1 (by omega) (show ((1 : Int32).toInt = 1 ∧ 0 ≤ p0.toInt ∧ p0.toInt < (F 15).toInt) ∨ ((1 : Int32).toInt = 0 ∧ ¬ (0 ≤ p0.toInt ∧ p0.toInt < (F 15).toInt)) from by have n9 := num_1; omega) dX6_isRacer_17
def w3X6_isDay : List Cond := .code yX6_isDay cX6_isDay 2 (some .boolean) :: ([.fieldLink RX6 194 "SkiShotsModel" "today" "I"] ++ wsX60)
set_option maxHeartbeats 4000000 in
set_option maxRecDepth 100000 in
theorem g3_X6_isDay (l : Launch) (D : va_G) (h0 : Nat) (q : Nat → Nat) (cq : Nat → ClassId) (F : Nat → Int32) (G : Nat → Nat → Int32) (sz : Nat) (p0 : Int32) (hI : mI F G)  : Met l yX6_isDay w3X6_isDay ({ frames := 0, cells := 0, slots := 0, locals := 0 }) (mPre D h0 q cq F G sz [.ref h0, .int p0]) (mQi D h0 q cq F G sz [] [] (fun r F' G' => (r.toInt = 1 ∧ 0 ≤ p0.toInt ∧ p0.toInt ≤ (F 3).toInt) ∨ (r.toInt = 0 ∧ ¬ (0 ≤ p0.toInt ∧ p0.toInt ≤ (F 3).toInt)))) 0 0 (va_A (mW h0 q cq F G) sz) := by
  refine mr_met (WF := []) (WG := []) (cc := cX6_isDay) (maxL := 2) (ret := (some .boolean)) (by decide) rfl rfl (by decide +kernel) (Nat.le_of_ble_eq_true rfl) hI ?_
  intro p e s m args below meth c ls E hml hr hlk hsz hA hM hl
  have hx := E.1
  have hb := E.2.1
  have hts := E.2.2.1
  have hown := E.2.2.2.2.1
  have hl : lv_has ls 2 [(0, .ref h0), (1, .int p0)] := hl
  refine lv_iload_n hx hb dX6_isDay_0 rfl (lv_at hl 1 rfl) ?_
  refine mm_if_lt (X := p0.toInt) (tgt := 16) hx hb dX6_isDay_1 (by decide) rfl (fun c_1 => ?_) (fun c_1 => ?_)
  · refine lv_iconst (v := 0) hx hb dX6_isDay_16 (by decide) ?_
    exact mr_rz (X := 0) E hr hlk hsz hM num_0 (by omega) (show ((0 : Int32).toInt = 1 ∧ 0 ≤ p0.toInt ∧ p0.toInt ≤ (F 3).toInt) ∨ ((0 : Int32).toInt = 0 ∧ ¬ (0 ≤ p0.toInt ∧ p0.toInt ≤ (F 3).toInt)) from by have n9 := num_0; omega) dX6_isDay_17
  · refine lv_iload_n hx hb dX6_isDay_4 rfl (lv_at hl 1 rfl) ?_
    refine lv_aload_n hx hb dX6_isDay_5 rfl (lv_at hl 0 rfl) ?_
    have b_2 : 0 ≤ (F 3).toInt ∧ (F 3).toInt ≤ 200 := hM.fb 3 rfl
    refine mr_get (v := .int (F 3)) E hM 3 (by decide) (index := 194) (mm_at 1 rfl) rfl rfl dX6_isDay_6 ?_
    refine mm_icmp_gt (X := p0.toInt) (Y := (F 3).toInt) (tgt := 16) hx hb dX6_isDay_9 (by decide) rfl rfl (fun c_3 => ?_) (fun c_3 => ?_)
    · refine lv_iconst (v := 0) hx hb dX6_isDay_16 (by decide) ?_
      exact mr_rz (X := 0) E hr hlk hsz hM num_0 (by omega) (show ((0 : Int32).toInt = 1 ∧ 0 ≤ p0.toInt ∧ p0.toInt ≤ (F 3).toInt) ∨ ((0 : Int32).toInt = 0 ∧ ¬ (0 ≤ p0.toInt ∧ p0.toInt ≤ (F 3).toInt)) from by have n9 := num_0; omega) dX6_isDay_17
    · refine lv_iconst (v := 1) hx hb dX6_isDay_12 (by decide) ?_
      refine lv_goto (tgt := 17) hx hb dX6_isDay_13 (by decide) ?_
      exact mr_rz (X := 1) E hr hlk hsz hM num_1 (by omega) (show ((1 : Int32).toInt = 1 ∧ 0 ≤ p0.toInt ∧ p0.toInt ≤ (F 3).toInt) ∨ ((1 : Int32).toInt = 0 ∧ ¬ (0 ≤ p0.toInt ∧ p0.toInt ≤ (F 3).toInt)) from by have n9 := num_1; omega) dX6_isDay_17
def w3X6_wrong : List Cond := .code yX6_wrong cX6_wrong 3 (some .boolean) :: ([.fieldLink RX6 132 "SkiShotsModel" "fault" "I", .fieldLink RX6 38 "SkiShotsModel" "faultPlace" "I"] ++ wsX60)
set_option maxHeartbeats 4000000 in
set_option maxRecDepth 100000 in
theorem g3_X6_wrong (l : Launch) (D : va_G) (h0 : Nat) (q : Nat → Nat) (cq : Nat → ClassId) (F : Nat → Int32) (G : Nat → Nat → Int32) (sz : Nat) (p0 : Int32) (p1 : Int32) (hI : mI F G)  : Met l yX6_wrong w3X6_wrong ({ frames := 0, cells := 0, slots := 0, locals := 0 }) (mPre D h0 q cq F G sz [.ref h0, .int p0, .int p1]) (mQi D h0 q cq F G sz [13, 14] [] (fun r F' G' => r.toInt = 0)) 0 0 (va_A (mW h0 q cq F G) sz) := by
  refine mr_met (WF := [13, 14]) (WG := []) (cc := cX6_wrong) (maxL := 3) (ret := (some .boolean)) (by decide) rfl rfl (by decide +kernel) (Nat.le_of_ble_eq_true rfl) hI ?_
  intro p e s m args below meth c ls E hml hr hlk hsz hA hM hl
  have hx := E.1
  have hb := E.2.1
  have hts := E.2.2.1
  have hown := E.2.2.2.2.1
  have hl : lv_has ls 3 [(0, .ref h0), (1, .int p0), (2, .int p1)] := hl
  refine lv_aload_n hx hb dX6_wrong_0 rfl (lv_at hl 0 rfl) ?_
  refine lv_iload_n hx hb dX6_wrong_1 rfl (lv_at hl 1 rfl) ?_
  refine mr_put (v := p0) E hM 13 (by decide) (index := 132) (mm_at 1 rfl) rfl rfl (by decide +kernel) ms_13 (mm_nb rfl) (by decide) dX6_wrong_2 (fun H locs hM => ?_)
  refine lv_aload_n hx hb dX6_wrong_5 rfl (lv_at hl 0 rfl) ?_
  refine lv_iload_n hx hb dX6_wrong_6 rfl (lv_at hl 2 rfl) ?_
  refine mr_put (v := p1) E hM 14 (by decide) (index := 38) (mm_at 2 rfl) rfl rfl (by decide +kernel) ms_14 (mm_nb rfl) (by decide) dX6_wrong_7 (fun H locs hM => ?_)
  refine lv_iconst (v := 0) hx hb dX6_wrong_10 (by decide) ?_
  exact mr_rz (X := 0) E hr hlk hsz hM num_0 (by omega) (show (0 : Int32).toInt = 0 from by have n9 := num_0; omega) dX6_wrong_11
def w3X6_fails : List Cond := .code yX6_fails cX6_fails 2 (some .int) :: ([.fieldLink RX6 126 "SkiShotsModel" "thrown" "I"] ++ wsX60)
set_option maxHeartbeats 4000000 in
set_option maxRecDepth 100000 in
theorem g3_X6_fails (l : Launch) (D : va_G) (h0 : Nat) (q : Nat → Nat) (cq : Nat → ClassId) (F : Nat → Int32) (G : Nat → Nat → Int32) (sz : Nat) (p0 : Int32) (hI : mI F G)  : Met l yX6_fails w3X6_fails ({ frames := 0, cells := 0, slots := 0, locals := 0 }) (mPre D h0 q cq F G sz [.ref h0, .int p0]) (mQi D h0 q cq F G sz [2] [] (fun r F' G' => True)) 0 0 (va_A (mW h0 q cq F G) sz) := by
  refine mr_met (WF := [2]) (WG := []) (cc := cX6_fails) (maxL := 2) (ret := (some .int)) (by decide) rfl rfl (by decide +kernel) (Nat.le_of_ble_eq_true rfl) hI ?_
  intro p e s m args below meth c ls E hml hr hlk hsz hA hM hl
  have hx := E.1
  have hb := E.2.1
  have hts := E.2.2.1
  have hown := E.2.2.2.2.1
  have hl : lv_has ls 2 [(0, .ref h0), (1, .int p0)] := hl
  refine lv_aload_n hx hb dX6_fails_0 rfl (lv_at hl 0 rfl) ?_
  refine lv_iload_n hx hb dX6_fails_1 rfl (lv_at hl 1 rfl) ?_
  refine mr_put (v := p0) E hM 2 (by decide) (index := 126) (mm_at 1 rfl) rfl rfl (by decide +kernel) ms_2 (mm_nb rfl) (by decide) dX6_fails_2 (fun H locs hM => ?_)
  refine lv_iconst (v := 0) hx hb dX6_fails_5 (by decide) ?_
  exact mr_ri E hr hlk hsz hM trivial dX6_fails_6
def w3X6_fault : List Cond := .code yX6_fault cX6_fault 2 (some .int) :: ([.fieldLink RX6 126 "SkiShotsModel" "thrown" "I", .fieldLink RX6 38 "SkiShotsModel" "faultPlace" "I", .fieldLink RX6 132 "SkiShotsModel" "fault" "I"] ++ wsX60)
set_option maxHeartbeats 4000000 in
set_option maxRecDepth 100000 in
theorem g3_X6_fault (l : Launch) (D : va_G) (h0 : Nat) (q : Nat → Nat) (cq : Nat → ClassId) (F : Nat → Int32) (G : Nat → Nat → Int32) (sz : Nat) (p0 : Int32) (hI : mI F G)  : Met l yX6_fault w3X6_fault ({ frames := 0, cells := 0, slots := 0, locals := 0 }) (mPre D h0 q cq F G sz [.ref h0, .int p0]) (mQi D h0 q cq F G sz [2] [] (fun r F' G' => True)) 0 0 (va_A (mW h0 q cq F G) sz) := by
  refine mr_met (WF := [2]) (WG := []) (cc := cX6_fault) (maxL := 2) (ret := (some .int)) (by decide) rfl rfl (by decide +kernel) (Nat.le_of_ble_eq_true rfl) hI ?_
  intro p e s m args below meth c ls E hml hr hlk hsz hA hM hl
  have hx := E.1
  have hb := E.2.1
  have hts := E.2.2.1
  have hown := E.2.2.2.2.1
  have hl : lv_has ls 2 [(0, .ref h0), (1, .int p0)] := hl
  refine lv_aload_n hx hb dX6_fault_0 rfl (lv_at hl 0 rfl) ?_
  refine lv_iconst (v := 0) hx hb dX6_fault_1 (by decide) ?_
  refine mr_put (v := 0) E hM 2 (by decide) (index := 126) (mm_at 1 rfl) rfl rfl (by decide +kernel) ms_2 (mm_nb rfl) (by decide) dX6_fault_2 (fun H locs hM => ?_)
  refine lv_iload_n hx hb dX6_fault_5 rfl (lv_at hl 1 rfl) ?_
  refine mm_if_ne (X := p0.toInt) (tgt := 16) hx hb dX6_fault_6 (by decide) rfl (fun c_1 => ?_) (fun c_1 => ?_)
  · refine lv_iload_n hx hb dX6_fault_16 rfl (lv_at hl 1 rfl) ?_
    refine lv_iconst (v := 1) hx hb dX6_fault_17 (by decide) ?_
    refine mm_icmp_ne (X := p0.toInt) (Y := 1) (tgt := 28) hx hb dX6_fault_18 (by decide) rfl num_1 (fun c_2 => ?_) (fun c_2 => ?_)
    · refine lv_iconst (v := (-1)) hx hb dX6_fault_28 (by decide) ?_
      exact mr_ri E hr hlk hsz hM trivial dX6_fault_29
    · refine lv_aload_n hx hb dX6_fault_21 rfl (lv_at hl 0 rfl) ?_
      refine mr_get (v := .int (F 14)) E hM 14 (by decide) (index := 38) (mm_at 2 rfl) rfl rfl dX6_fault_22 ?_
      refine lv_goto (tgt := 29) hx hb dX6_fault_25 (by decide) ?_
      exact mr_ri E hr hlk hsz hM trivial dX6_fault_29
  · refine lv_aload_n hx hb dX6_fault_9 rfl (lv_at hl 0 rfl) ?_
    refine mr_get (v := .int (F 13)) E hM 13 (by decide) (index := 132) (mm_at 3 rfl) rfl rfl dX6_fault_10 ?_
    refine lv_goto (tgt := 29) hx hb dX6_fault_13 (by decide) ?_
    exact mr_ri E hr hlk hsz hM trivial dX6_fault_29
def w3X6_pass : List Cond := .code yX6_pass cX6_pass 2 (some .int) :: ([.fieldLink RX6 126 "SkiShotsModel" "thrown" "I", .fieldLink RX6 194 "SkiShotsModel" "today" "I"] ++ wsX60)
set_option maxHeartbeats 4000000 in
set_option maxRecDepth 100000 in
theorem g3_X6_pass (l : Launch) (D : va_G) (h0 : Nat) (q : Nat → Nat) (cq : Nat → ClassId) (F : Nat → Int32) (G : Nat → Nat → Int32) (sz : Nat) (p0 : Int32) (hI : mI F G)  : Met l yX6_pass w3X6_pass ({ frames := 0, cells := 0, slots := 0, locals := 0 }) (mPre D h0 q cq F G sz [.ref h0, .int p0]) (mQi D h0 q cq F G sz [2, 3] [] (fun r F' G' => (0 ≤ p0.toInt ∧ p0.toInt + (F 3).toInt ≤ 200 ∧ r.toInt = (F 3).toInt + p0.toInt ∧ (F' 3).toInt = (F 3).toInt + p0.toInt) ∨ (¬ (0 ≤ p0.toInt ∧ p0.toInt + (F 3).toInt ≤ 200) ∧ r.toInt = -1 ∧ (F' 3).toInt = (F 3).toInt))) 0 0 (va_A (mW h0 q cq F G) sz) := by
  refine mr_met (WF := [2, 3]) (WG := []) (cc := cX6_pass) (maxL := 2) (ret := (some .int)) (by decide) rfl rfl (by decide +kernel) (Nat.le_of_ble_eq_true rfl) hI ?_
  intro p e s m args below meth c ls E hml hr hlk hsz hA hM hl
  have hx := E.1
  have hb := E.2.1
  have hts := E.2.2.1
  have hown := E.2.2.2.2.1
  have hl : lv_has ls 2 [(0, .ref h0), (1, .int p0)] := hl
  refine lv_aload_n hx hb dX6_pass_0 rfl (lv_at hl 0 rfl) ?_
  refine lv_iconst (v := 0) hx hb dX6_pass_1 (by decide) ?_
  refine mr_put (v := 0) E hM 2 (by decide) (index := 126) (mm_at 1 rfl) rfl rfl (by decide +kernel) ms_2 (mm_nb rfl) (by decide) dX6_pass_2 (fun H locs hM => ?_)
  refine lv_iload_n hx hb dX6_pass_5 rfl (lv_at hl 1 rfl) ?_
  refine mm_if_lt (X := p0.toInt) (tgt := 28) hx hb dX6_pass_6 (by decide) rfl (fun c_1 => ?_) (fun c_1 => ?_)
  · refine lv_iconst (v := (-1)) hx hb dX6_pass_28 (by decide) ?_
    have b_2 : 0 ≤ (F 3).toInt ∧ (F 3).toInt ≤ 200 := hM.fb 3 rfl
    exact mr_ri E hr hlk hsz hM (show (0 ≤ p0.toInt ∧ p0.toInt + (F 3).toInt ≤ 200 ∧ ((-1) : Int32).toInt = (F 3).toInt + p0.toInt ∧ (F 3).toInt = (F 3).toInt + p0.toInt) ∨ (¬ (0 ≤ p0.toInt ∧ p0.toInt + (F 3).toInt ≤ 200) ∧ ((-1) : Int32).toInt = -1 ∧ (F 3).toInt = (F 3).toInt) from by have n9 := num_m1; have n9_2 := num_0; omega) dX6_pass_29
  · refine lv_iload_n hx hb dX6_pass_9 rfl (lv_at hl 1 rfl) ?_
    refine lv_sipush (v := 200) hx hb dX6_pass_10 (by decide) ?_
    refine mm_icmp_gt (X := p0.toInt) (Y := 200) (tgt := 28) hx hb dX6_pass_13 (by decide) rfl num_200 (fun c_3 => ?_) (fun c_3 => ?_)
    · refine lv_iconst (v := (-1)) hx hb dX6_pass_28 (by decide) ?_
      have b_4 : 0 ≤ (F 3).toInt ∧ (F 3).toInt ≤ 200 := hM.fb 3 rfl
      exact mr_ri E hr hlk hsz hM (show (0 ≤ p0.toInt ∧ p0.toInt + (F 3).toInt ≤ 200 ∧ ((-1) : Int32).toInt = (F 3).toInt + p0.toInt ∧ (F 3).toInt = (F 3).toInt + p0.toInt) ∨ (¬ (0 ≤ p0.toInt ∧ p0.toInt + (F 3).toInt ≤ 200) ∧ ((-1) : Int32).toInt = -1 ∧ (F 3).toInt = (F 3).toInt) from by have n9 := num_m1; have n9_2 := num_0; omega) dX6_pass_29
    · refine lv_aload_n hx hb dX6_pass_16 rfl (lv_at hl 0 rfl) ?_
      have b_5 : 0 ≤ (F 3).toInt ∧ (F 3).toInt ≤ 200 := hM.fb 3 rfl
      refine mr_get (v := .int (F 3)) E hM 3 (by decide) (index := 194) (mm_at 2 rfl) rfl rfl dX6_pass_17 ?_
      refine lv_iload_n hx hb dX6_pass_20 rfl (lv_at hl 1 rfl) ?_
      refine mm_iadd (X := (F 3).toInt) (Y := p0.toInt) hx hb dX6_pass_21 rfl rfl (by omega) (fun z_6 hz_6 => ?_)
      refine lv_sipush (v := 200) hx hb dX6_pass_22 (by decide) ?_
      refine mm_icmp_le (X := z_6.toInt) (Y := 200) (tgt := 30) hx hb dX6_pass_25 (by decide) rfl num_200 (fun c_7 => ?_) (fun c_7 => ?_)
      · refine lv_aload_n hx hb dX6_pass_30 rfl (lv_at hl 0 rfl) ?_
        refine lv_dup hx hb dX6_pass_31 rfl ?_
        refine mr_get (v := .int (F 3)) E hM 3 (by decide) (index := 194) (mm_at 2 rfl) rfl rfl dX6_pass_32 ?_
        refine lv_iload_n hx hb dX6_pass_35 rfl (lv_at hl 1 rfl) ?_
        refine mm_iadd (X := (F 3).toInt) (Y := p0.toInt) hx hb dX6_pass_36 rfl rfl (by omega) (fun z_8 hz_8 => ?_)
        refine mr_put (v := z_8) E hM 3 (by decide) (index := 194) (mm_at 2 rfl) rfl rfl (by decide +kernel) ms_3 (mm_bd (X := z_8.toInt) (a := 0) (b := 200) rfl rfl (by omega)) (by decide) dX6_pass_37 (fun H locs hM => ?_)
        refine lv_aload_n hx hb dX6_pass_40 rfl (lv_at hl 0 rfl) ?_
        refine mr_get (v := .int z_8) E hM 3 (by decide) (index := 194) (mm_at 2 rfl) rfl rfl dX6_pass_41 ?_
        exact mr_ri E hr hlk hsz hM (show (0 ≤ p0.toInt ∧ p0.toInt + (F 3).toInt ≤ 200 ∧ z_8.toInt = (F 3).toInt + p0.toInt ∧ z_8.toInt = (F 3).toInt + p0.toInt) ∨ (¬ (0 ≤ p0.toInt ∧ p0.toInt + (F 3).toInt ≤ 200) ∧ z_8.toInt = -1 ∧ z_8.toInt = (F 3).toInt) from by have n9_2 := num_0; omega) dX6_pass_44
      · refine lv_iconst (v := (-1)) hx hb dX6_pass_28 (by decide) ?_
        exact mr_ri E hr hlk hsz hM (show (0 ≤ p0.toInt ∧ p0.toInt + (F 3).toInt ≤ 200 ∧ ((-1) : Int32).toInt = (F 3).toInt + p0.toInt ∧ (F 3).toInt = (F 3).toInt + p0.toInt) ∨ (¬ (0 ≤ p0.toInt ∧ p0.toInt + (F 3).toInt ≤ 200) ∧ ((-1) : Int32).toInt = -1 ∧ (F 3).toInt = (F 3).toInt) from by have n9 := num_m1; have n9_2 := num_0; omega) dX6_pass_29
