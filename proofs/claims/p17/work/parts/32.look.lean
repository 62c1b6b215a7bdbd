/-- what the throws of look ask of the launch -/
def lk2 (sa sb : Nat) (A : Nat → Prop) (U : State) : Prop := vk_R RX5 136 "no such race" sa U ∧ vk_R RX5 158 "no such what" sb U ∧ (va_Nw (.castable "java/lang/IndexOutOfBoundsException" "java/lang/IndexOutOfBoundsException") U ∧ va_Nw (.castable "java/util/NoSuchElementException" "java/util/NoSuchElementException") U) ∧ va_Nw (.declares (Bundle.initS "java/lang/RuntimeException")) U ∧ va_Nw (.declares (Bundle.initS "java/lang/Exception")) U ∧ va_Nw (.declares (Bundle.initS Bundle.tN)) U ∧ vx_Zq Bundle.tN "UNASSIGNED_STACK" Bundle.steD A U U.heap ∧ vx_Zq Bundle.tN "SUPPRESSED_SENTINEL" Bundle.listD A U U.heap
theorem lk2_call {sa sb : Nat} {A : Nat → Prop} {U : State} {g : JFrame} {mk : MethodId} {a : Array Value} (h : lk2 sa sb A U) : lk2 sa sb A (U.calling g mk a) := ⟨vk_R.same (u := U) rfl h.1, vk_R.same (u := U) rfl h.2.1, ⟨va_Nw.same (u := U) rfl rfl h.2.2.1.1, va_Nw.same (u := U) rfl rfl h.2.2.1.2⟩, va_Nw.same (u := U) rfl rfl h.2.2.2.1, va_Nw.same (u := U) rfl rfl h.2.2.2.2.1, va_Nw.same (u := U) rfl rfl h.2.2.2.2.2.1, vx_Zq.moved (u := U) (U := U.calling g mk a) (Vm.Alike.refl U.vm) h.2.2.2.2.2.2.1, vx_Zq.moved (u := U) (U := U.calling g mk a) (Vm.Alike.refl U.vm) h.2.2.2.2.2.2.2⟩
theorem lk2_at {sa sb : Nat} {A0 A1 : Nat → Prop} {s U : State} {H : Heap} {locs : List Loc} (hW : s.WarmedH U.vm) (hU : U.heap = H) (hS : va_S A0 s.heap H locs) (hn : ∀ q, A1 q → A0 q) (h : lk2 sa sb A0 s) : lk2 sa sb A1 U := ⟨vk_R.warm hW h.1, vk_R.warm hW h.2.1, ⟨va_Nw.warmC hW h.2.2.1.1, va_Nw.warmC hW h.2.2.1.2⟩, va_Nw.warmD hW h.2.2.2.1, va_Nw.warmD hW h.2.2.2.2.1, va_Nw.warmD hW h.2.2.2.2.2.1, by rw [hU]; exact vx_Zq.moved hW.alike ((h.2.2.2.2.2.2.1.kept (fun a h1 h2 => hS.2.1 a h1 h2)).narrow hn), by rw [hU]; exact vx_Zq.moved hW.alike ((h.2.2.2.2.2.2.2.kept (fun a h1 h2 => hS.2.1 a h1 h2)).narrow hn)⟩
def cPreL (D : va_G) (cA : Nat → ClassId) (ad av : Nat → Nat) (sa sb : Nat) (L : List Nat) (K : Nat → Nat) (I : Nat → Nat → Int32) (O : Nat → Nat → Option Nat) (sz : Nat) (vs : List Value) : Array Value → State → Prop := va_Pc vs (fun U => U.heap.size = sz ∧ va_P D vwCl (cW cA L K I O) U.heap ∧ va_K D vwCl (cT cA) U ∧ va_D (fun _ => True) (cW cA L K I O) ∧ cV ad av (va_A (cW cA L K I O) sz) U U.heap ∧ lk2 sa sb (va_A (cW cA L K I O) sz) U)
def cXc (D : va_G) (cA : Nat → ClassId) (L : List Nat) (K : Nat → Nat) (I : Nat → Nat → Int32) (O : Nat → Nat → Option Nat) (sz : Nat) : String → State → State → Prop := vx_X (fun (_ : Unit) => True) (fun E _ t => (E = "java/lang/IndexOutOfBoundsException" ∨ E = "java/util/NoSuchElementException") ∧ va_P D vwCl (cW cA L K I O) t.heap) (va_A (cW cA L K I O) sz)
def w4X5_look : List Cond := .code yX5_look cX5_look 4 (some .int) :: (([.methodLink RX5 83 yX5_raceAt, .instanceMethod yX5_raceAt, .selects RX5 yX5_raceAt yX5_raceAt, .initialized RX5, .code yX5_raceAt cX5_raceAt 2 (some (.object "SkiShots$Race")), .fieldLink RX5 80 "SkiShots" "raceCount" "I", .fieldLink RX5 29 "SkiShots" "races" "[LSkiShots$Race;", .classLink RX5 134 "java/lang/IndexOutOfBoundsException", .initialized "java/lang/IndexOutOfBoundsException", .fieldLink RX5 112 "SkiShots$Race" "format" "LSkiShots$Format;", .fieldLink RX5 141 "SkiShots$Format" "name" "I", .fieldLink RX5 144 "SkiShots$Format" "laps" "I", .fieldLink RX5 147 "SkiShots$Format" "shootings" "I", .fieldLink RX5 150 "SkiShots$Format" "spares" "I", .fieldLink RX5 153 "SkiShots$Race" "byNumber" "I", .fieldLink RX5 106 "SkiShots$Race" "entryCount" "I", .fieldLink RX5 96 "SkiShots$Race" "told" "I", .classLink RX5 156 "java/util/NoSuchElementException", .initialized "java/util/NoSuchElementException"] ++ (vx_atS RX5 138 "java/lang/IndexOutOfBoundsException" ["java/lang/RuntimeException", "java/lang/Exception"]).filter goodWord) ++ ((cq_at RX5 160 "java/util/NoSuchElementException" "java/lang/RuntimeException" 13 cNS ["java/lang/Exception"]).filter goodWord ++ (wsX20 ++ wsX30 ++ wsX50)))
set_option maxRecDepth 20000 in
theorem gk_X5_look_X5_raceAt_1 : GoodIn w4X5_look (wsV RX5 83 RX5 yX5_raceAt w4X5_raceAt) := goodIn_p _ [5] rfl (by decide +kernel)
set_option maxHeartbeats 4000000 in
set_option maxRecDepth 100000 in
theorem h4_X5_look (l : Launch) (hst : l.stackTraces = false) (D : va_G) (cA : Nat → ClassId) (ad av : Nat → Nat) (L : List Nat) (K : Nat → Nat) (I : Nat → Nat → Int32) (O : Nat → Nat → Option Nat) (sz sa sb : Nat) (x0 : Nat) (p0 : Int32) (p1 : Int32) (hI : cI L K I O) (mx0 : x0 ∈ L) (kx0 : K x0 = 5)  : vx_Met l yX5_look w4X5_look ({ frames := 6, cells := 1, slots := 6, locals := 82 }) (cPreL D cA ad av sa sb L K I O sz [.ref x0, .int p0, .int p1]) (cQi D cA L K I O sz [] [] [] (fun r L' K' I' O' => (L' = L ∧ K' = K ∧ I' = I ∧ O' = O) ∧ (True))) (cXc D cA L K I O sz) 1 6 (va_A (cW cA L K I O) sz) := by
  refine vx_ofW (cc := cX5_look) (maxL := 4) (ret := (some .int)) (by decide) rfl ?_
  intro p e s m args below meth c s₁ B hml hnt hv
  obtain ⟨rfl, hsz, hP, hK, hD0, hV, hE⟩ := hv
  have hown : s.vm.findClass RX5 = some m.cls := findClass_of_methodNamed B.named
  have hl := lv_entry ([.ref x0, .int p0, .int p1]) (n := 4) (Nat.le_of_ble_eq_true rfl)
  rw [lg_entry_eq]
  generalize (lg_sl ([.ref x0, .int p0, .int p1]) ++ List.replicate (4 - (lg_sl ([.ref x0, .int p0, .int p1])).length) Slot.unset).toArray = ls at hl ⊢
  have E : cX p c cX5_look s m #[.ref x0, .int p0, .int p1] w4X5_look D cA RX5 := ⟨B.exec, B.bytes, atoms_spec (ws := w4X5_look) B.pre, hown, hK⟩
  have hr := B.returns
  have hlk := B.notSynchronized
  have hA : ∀ x, s.heap.size ≤ x → va_A (cW cA L K I O) sz x := fun x hx => Or.inr (by rw [← hsz]; exact hx)
  have hM : cQ D cA (va_A (cW cA L K I O) sz) s.heap [] [] [] L K I O s.heap [] L K I O := ⟨hP, hD0.self, va_S.rf, hI, cFr.rf⟩
  have hx := E.1
  have hb := E.2.1
  have hts := E.2.2.1
  have hown := E.2.2.2.1
  have hl : lv_has ls 4 [(0, .ref x0), (1, .int p0), (2, .int p1)] := hl
  have hin2 : ∀ w ∈ wsX20, w ∈ w4X5_look := fun w h => List.mem_cons_of_mem _ (List.mem_append_right _ (List.mem_append_right _ ((show w ∈ (wsX20 ++ wsX30 ++ wsX50 : List Cond) from by first | exact List.mem_append_left _ h | exact List.mem_append_right _ h | (exact List.mem_append_left _ (List.mem_append_left _ h)) | (exact List.mem_append_left _ (List.mem_append_right _ h)) | exact h))))
  have hin3 : ∀ w ∈ wsX30, w ∈ w4X5_look := fun w h => List.mem_cons_of_mem _ (List.mem_append_right _ (List.mem_append_right _ ((show w ∈ (wsX20 ++ wsX30 ++ wsX50 : List Cond) from by first | exact List.mem_append_left _ h | exact List.mem_append_right _ h | (exact List.mem_append_left _ (List.mem_append_left _ h)) | (exact List.mem_append_left _ (List.mem_append_right _ h)) | exact h))))
  have hin5 : ∀ w ∈ wsX50, w ∈ w4X5_look := fun w h => List.mem_cons_of_mem _ (List.mem_append_right _ (List.mem_append_right _ ((show w ∈ (wsX20 ++ wsX30 ++ wsX50 : List Cond) from by first | exact List.mem_append_left _ h | exact List.mem_append_right _ h | (exact List.mem_append_left _ (List.mem_append_left _ h)) | (exact List.mem_append_left _ (List.mem_append_right _ h)) | exact h))))
  refine lv_aload_n hx hb dX5_look_0 rfl (lv_at hl 0 rfl) ?_
  refine lv_iload_n hx hb dX5_look_1 rfl (lv_at hl 1 rfl) ?_
  refine cc_Vqp (vs := [.int p0]) (rest := []) (b := x0) (κ := 5) E hV rfl hA hml hM mx0 kx0 rfl rfl (h4_X5_raceAt l D cA ad av L K I O _ x0 p0 hM.2.2.2.1 mx0 kx0) (cwV 1 hts gk_X5_look_X5_raceAt_1 rfl rfl rfl (by decide +kernel) ⟨Nat.le_of_ble_eq_true rfl, Nat.le_of_ble_eq_true rfl⟩) rfl hl.1 rfl (Nat.le_of_ble_eq_true rfl) dX5_look_2 ⟨show (0 : Nat) ≤ 1 from by omega, show (0 : Nat) ≤ 6 from by omega⟩ (fun r_2 H locs p_3 hM => ?_)
  rcases r_2 with _ | x_5
  · show W _ _ _ _ _ _ _ _ _ _ _ _ _ _ _ (F0 m 5 ls [.null])
    refine lv_astore_nN (lv' := [(3, .null), (0, .ref x0), (1, .int p0), (2, .int p1)]) hx hb dX5_look_5 rfl hl (by decide) rfl (fun ls hl => ?_)
    refine lv_aload_nN hx hb dX5_look_6 rfl (lv_at hl 0 rfl) ?_
    refine lv_ifnonnullN hx hb dX5_look_7 ?_
    have hat : ∀ w ∈ vx_atS RX5 138 "java/lang/IndexOutOfBoundsException" ["java/lang/RuntimeException", "java/lang/Exception"], w.before #[.ref x0, .int p0, .int p1] s = true := vx_hat (B := [.castable "java/lang/IndexOutOfBoundsException" "java/lang/IndexOutOfBoundsException", .declares (Bundle.initS "java/lang/RuntimeException"), .declares (Bundle.initS "java/lang/Exception"), .declares (Bundle.initS Bundle.tN)]) (fun w h => hts w ((fun w h => List.mem_cons_of_mem _ (List.mem_append_left _ (List.mem_append_right _ h))) w h)) (by decide +kernel) (vx_c (va_Nw.use rfl hE.2.2.1.1) (vx_c (va_Nw.use rfl hE.2.2.2.1) (vx_c (va_Nw.use rfl hE.2.2.2.2.1) (vx_c (va_Nw.use rfl hE.2.2.2.2.2.1) vx_n))))
    refine vx_throwS (names := ["java/lang/RuntimeException", "java/lang/Exception"]) (own := RX5) (cls := "java/lang/IndexOutOfBoundsException") (text := "no such race") (ik := 134) (is := 136) (ic := 138) (sa := sa) (A := va_A (cW cA L K I O) sz) hx hb hst hown (by decide +kernel) (by decide +kernel) (hts _ (mm_at 8 rfl)) (hts _ (mm_at 9 rfl)) hE.1 hat (by decide +kernel) hE.2.2.2.2.2.2.1 hE.2.2.2.2.2.2.2 hM.2.2.1 (hl.1.trans hml.symm) dX5_look_10 dX5_look_13 dX5_look_14 dX5_look_16 dX5_look_19 (fun x hx9 => (hnt x hx9).elim) (Nat.le_of_ble_eq_true rfl) (Nat.le_of_ble_eq_true rfl) (Nat.le_of_ble_eq_true rfl) (Nat.le_of_ble_eq_true rfl) hlk (fun t ha hz hk => ?_) hM.2.2.1.2.2 (Nat.le_of_ble_eq_true rfl) (Nat.le_of_ble_eq_true rfl)
    exact ⟨(), trivial, ⟨Or.inl rfl, hM.1.kept (fun k q hq => hk q.1 ((hM.1 k q hq).lt))⟩, Nat.le_trans hM.2.2.1.1 hz, fun q h1 h2 => (hk q (Nat.lt_of_lt_of_le h1 hM.2.2.1.1)).trans (hM.2.2.1.2.1 q h1 h2)⟩
  · obtain ⟨m_5, k_5⟩ := p_3 x_5 rfl
    show W _ _ _ _ _ _ _ _ _ _ _ _ _ _ _ (F0 m 5 ls [.ref x_5])
    refine lv_astore_n (lv' := [(3, .ref x_5), (0, .ref x0), (1, .int p0), (2, .int p1)]) hx hb dX5_look_5 rfl hl (by decide) rfl (fun ls hl => ?_)
    refine lv_aload_n hx hb dX5_look_6 rfl (lv_at hl 0 rfl) ?_
    refine lv_ifnonnull (tgt := 20) hx hb dX5_look_7 (by decide) ?_
    refine lv_iload_n hx hb dX5_look_20 rfl (lv_at hl 3 rfl) ?_
    by_cases s_6 : p1.toInt = 0
    · refine lv_tableIn (tgt := 64) (off := 43) hx hb dX5_look_21 (by omega) (by omega) (by rw [s_6]; rfl) (by decide) ?_
      refine lv_aload_n hx hb dX5_look_64 rfl (lv_at hl 0 rfl) ?_
      obtain ⟨x_7, o_7, m_7, k_7⟩ := hM.nn m_5 k_5 0 (κ' := 2) rfl rfl
      refine cr_get (κ := 3) (ci := 3) (k := 0) (C := RX3) (T := TX3) (N := 7) (fs := cfs 3) (v := .ref x_7) E hM m_5 k_5 (fun _ _ => rfl) rfl hin3 (by decide) (index := 112) (mm_at 10 rfl) rfl (by show some (va_rf (O x_5 0)) = some (.ref x_7); rw [o_7]; rfl) dX5_look_65 ?_
      refine cr_get (κ := 2) (ci := 2) (k := 0) (C := RX2) (T := TX2) (N := 8) (fs := cfs 2) (v := .int (I x_7 0)) E hM m_7 k_7 (fun _ _ => rfl) rfl hin2 (by decide) (index := 141) (mm_at 11 rfl) rfl rfl dX5_look_68 ?_
      exact vx_ret (cr_ri (mc := 1) (ms := 6) E hr hlk hsz hM ⟨show (0 : Nat) ≤ 1 from by omega, show (0 : Nat) ≤ 6 from by omega⟩ ⟨⟨rfl, rfl, rfl, rfl⟩, trivial⟩ dX5_look_71)
    by_cases s_8 : p1.toInt = 1
    · refine lv_tableIn (tgt := 72) (off := 51) hx hb dX5_look_21 (by omega) (by omega) (by rw [s_8]; rfl) (by decide) ?_
      refine lv_aload_n hx hb dX5_look_72 rfl (lv_at hl 0 rfl) ?_
      obtain ⟨x_9, o_9, m_9, k_9⟩ := hM.nn m_5 k_5 0 (κ' := 2) rfl rfl
      refine cr_get (κ := 3) (ci := 3) (k := 0) (C := RX3) (T := TX3) (N := 7) (fs := cfs 3) (v := .ref x_9) E hM m_5 k_5 (fun _ _ => rfl) rfl hin3 (by decide) (index := 112) (mm_at 10 rfl) rfl (by show some (va_rf (O x_5 0)) = some (.ref x_9); rw [o_9]; rfl) dX5_look_73 ?_
      refine cr_get (κ := 2) (ci := 2) (k := 1) (C := RX2) (T := TX2) (N := 8) (fs := cfs 2) (v := .int (I x_9 1)) E hM m_9 k_9 (fun _ _ => rfl) rfl hin2 (by decide) (index := 144) (mm_at 12 rfl) rfl rfl dX5_look_76 ?_
      exact vx_ret (cr_ri (mc := 1) (ms := 6) E hr hlk hsz hM ⟨show (0 : Nat) ≤ 1 from by omega, show (0 : Nat) ≤ 6 from by omega⟩ ⟨⟨rfl, rfl, rfl, rfl⟩, trivial⟩ dX5_look_79)
    by_cases s_10 : p1.toInt = 2
    · refine lv_tableIn (tgt := 80) (off := 59) hx hb dX5_look_21 (by omega) (by omega) (by rw [s_10]; rfl) (by decide) ?_
      refine lv_aload_n hx hb dX5_look_80 rfl (lv_at hl 0 rfl) ?_
      obtain ⟨x_11, o_11, m_11, k_11⟩ := hM.nn m_5 k_5 0 (κ' := 2) rfl rfl
      refine cr_get (κ := 3) (ci := 3) (k := 0) (C := RX3) (T := TX3) (N := 7) (fs := cfs 3) (v := .ref x_11) E hM m_5 k_5 (fun _ _ => rfl) rfl hin3 (by decide) (index := 112) (mm_at 10 rfl) rfl (by show some (va_rf (O x_5 0)) = some (.ref x_11); rw [o_11]; rfl) dX5_look_81 ?_
      refine cr_get (κ := 2) (ci := 2) (k := 2) (C := RX2) (T := TX2) (N := 8) (fs := cfs 2) (v := .int (I x_11 2)) E hM m_11 k_11 (fun _ _ => rfl) rfl hin2 (by decide) (index := 147) (mm_at 13 rfl) rfl rfl dX5_look_84 ?_
      exact vx_ret (cr_ri (mc := 1) (ms := 6) E hr hlk hsz hM ⟨show (0 : Nat) ≤ 1 from by omega, show (0 : Nat) ≤ 6 from by omega⟩ ⟨⟨rfl, rfl, rfl, rfl⟩, trivial⟩ dX5_look_87)
    by_cases s_12 : p1.toInt = 3
    · refine lv_tableIn (tgt := 88) (off := 67) hx hb dX5_look_21 (by omega) (by omega) (by rw [s_12]; rfl) (by decide) ?_
      refine lv_aload_n hx hb dX5_look_88 rfl (lv_at hl 0 rfl) ?_
      obtain ⟨x_13, o_13, m_13, k_13⟩ := hM.nn m_5 k_5 0 (κ' := 2) rfl rfl
      refine cr_get (κ := 3) (ci := 3) (k := 0) (C := RX3) (T := TX3) (N := 7) (fs := cfs 3) (v := .ref x_13) E hM m_5 k_5 (fun _ _ => rfl) rfl hin3 (by decide) (index := 112) (mm_at 10 rfl) rfl (by show some (va_rf (O x_5 0)) = some (.ref x_13); rw [o_13]; rfl) dX5_look_89 ?_
      refine cr_get (κ := 2) (ci := 2) (k := 3) (C := RX2) (T := TX2) (N := 8) (fs := cfs 2) (v := .int (I x_13 3)) E hM m_13 k_13 (fun _ _ => rfl) rfl hin2 (by decide) (index := 150) (mm_at 14 rfl) rfl rfl dX5_look_92 ?_
      exact vx_ret (cr_ri (mc := 1) (ms := 6) E hr hlk hsz hM ⟨show (0 : Nat) ≤ 1 from by omega, show (0 : Nat) ≤ 6 from by omega⟩ ⟨⟨rfl, rfl, rfl, rfl⟩, trivial⟩ dX5_look_95)
    by_cases s_14 : p1.toInt = 4
    · refine lv_tableIn (tgt := 96) (off := 75) hx hb dX5_look_21 (by omega) (by omega) (by rw [s_14]; rfl) (by decide) ?_
      refine lv_aload_n hx hb dX5_look_96 rfl (lv_at hl 0 rfl) ?_
      refine cr_get (κ := 3) (ci := 3) (k := 2) (C := RX3) (T := TX3) (N := 7) (fs := cfs 3) (v := .int (I x_5 2)) E hM m_5 k_5 (fun _ _ => rfl) rfl hin3 (by decide) (index := 153) (mm_at 15 rfl) rfl rfl dX5_look_97 ?_
      exact vx_ret (cr_ri (mc := 1) (ms := 6) E hr hlk hsz hM ⟨show (0 : Nat) ≤ 1 from by omega, show (0 : Nat) ≤ 6 from by omega⟩ ⟨⟨rfl, rfl, rfl, rfl⟩, trivial⟩ dX5_look_100)
    by_cases s_15 : p1.toInt = 5
    · refine lv_tableIn (tgt := 101) (off := 80) hx hb dX5_look_21 (by omega) (by omega) (by rw [s_15]; rfl) (by decide) ?_
      refine lv_aload_n hx hb dX5_look_101 rfl (lv_at hl 0 rfl) ?_
      have b_16 : 0 ≤ (I x_5 4).toInt ∧ (I x_5 4).toInt ≤ 16 := hM.ib m_5 k_5 4 rfl
      refine cr_get (κ := 3) (ci := 3) (k := 4) (C := RX3) (T := TX3) (N := 7) (fs := cfs 3) (v := .int (I x_5 4)) E hM m_5 k_5 (fun _ _ => rfl) rfl hin3 (by decide) (index := 106) (mm_at 16 rfl) rfl rfl dX5_look_102 ?_
      exact vx_ret (cr_ri (mc := 1) (ms := 6) E hr hlk hsz hM ⟨show (0 : Nat) ≤ 1 from by omega, show (0 : Nat) ≤ 6 from by omega⟩ ⟨⟨rfl, rfl, rfl, rfl⟩, trivial⟩ dX5_look_105)
    by_cases s_17 : p1.toInt = 6
    · refine lv_tableIn (tgt := 106) (off := 85) hx hb dX5_look_21 (by omega) (by omega) (by rw [s_17]; rfl) (by decide) ?_
      refine lv_aload_n hx hb dX5_look_106 rfl (lv_at hl 0 rfl) ?_
      refine cr_get (κ := 3) (ci := 3) (k := 5) (C := RX3) (T := TX3) (N := 7) (fs := cfs 3) (v := .int (I x_5 5)) E hM m_5 k_5 (fun _ _ => rfl) rfl hin3 (by decide) (index := 96) (mm_at 17 rfl) rfl rfl dX5_look_107 ?_
      exact vx_ret (cr_ri (mc := 1) (ms := 6) E hr hlk hsz hM ⟨show (0 : Nat) ≤ 1 from by omega, show (0 : Nat) ≤ 6 from by omega⟩ ⟨⟨rfl, rfl, rfl, rfl⟩, trivial⟩ dX5_look_110)
    · refine lv_tableOut (tgt := 111) hx hb dX5_look_21 (by omega) (by decide) ?_
      have hat : ∀ w ∈ cq_at RX5 160 "java/util/NoSuchElementException" "java/lang/RuntimeException" 13 cNS ["java/lang/Exception"], w.before #[.ref x0, .int p0, .int p1] s = true := vx_hat (B := [.castable "java/util/NoSuchElementException" "java/util/NoSuchElementException", .declares (Bundle.initS "java/lang/RuntimeException"), .declares (Bundle.initS "java/lang/Exception"), .declares (Bundle.initS Bundle.tN)]) (fun w h => hts w ((fun w h => List.mem_cons_of_mem _ (List.mem_append_right _ (List.mem_append_left _ h))) w h)) (by decide +kernel) (vx_c (va_Nw.use rfl hE.2.2.1.2) (vx_c (va_Nw.use rfl hE.2.2.2.1) (vx_c (va_Nw.use rfl hE.2.2.2.2.1) (vx_c (va_Nw.use rfl hE.2.2.2.2.2.1) vx_n))))
      refine cq_throw (Yn := "java/lang/RuntimeException") (ix := 13) (bytes := cNS) (names := ["java/lang/Exception"]) (own := RX5) (cls := "java/util/NoSuchElementException") (text := "no such what") (ik := 156) (is := 158) (ic := 160) (sa := sb) (A := va_A (cW cA L K I O) sz) hx hb hst hown (by decide +kernel) (by decide +kernel) (by decide +kernel) (hts _ (mm_at 18 rfl)) (hts _ (mm_at 19 rfl)) hE.2.1 hat (by decide +kernel) cNS_0 cNS_1 cNS_2 cNS_5 hE.2.2.2.2.2.2.1 hE.2.2.2.2.2.2.2 hM.2.2.1 (hl.1.trans hml.symm) dX5_look_111 dX5_look_114 dX5_look_115 dX5_look_117 dX5_look_120 (fun x hx9 => (hnt x hx9).elim) (Nat.le_of_ble_eq_true rfl) (Nat.le_of_ble_eq_true rfl) (Nat.le_of_ble_eq_true rfl) (Nat.le_of_ble_eq_true rfl) hlk (fun t ha hz hk => ?_) hM.2.2.1.2.2 (Nat.le_of_ble_eq_true rfl) (Nat.le_of_ble_eq_true rfl)
      exact ⟨(), trivial, ⟨Or.inr rfl, hM.1.kept (fun k q hq => hk q.1 ((hM.1 k q hq).lt))⟩, Nat.le_trans hM.2.2.1.1 hz, fun q h1 h2 => (hk q (Nat.lt_of_lt_of_le h1 hM.2.2.1.1)).trans (hM.2.2.1.2.1 q h1 h2)⟩
