theorem dX6_thrown_0 : decode cX6_thrown 0 = .ok (.aload_n 0, 1) := by decide +kernel
theorem dX6_thrown_1 : decode cX6_thrown 1 = .ok (.getfield 126, 3) := by decide +kernel
theorem dX6_thrown_4 : decode cX6_thrown 4 = .ok (.ireturn, 1) := by decide +kernel
def w3X6_thrown : List Cond := .code yX6_thrown cX6_thrown 1 (some .int) :: ([.fieldLink RX6 126 "SkiShotsModel" "thrown" "I"] ++ wsX60)
set_option maxHeartbeats 4000000 in
set_option maxRecDepth 100000 in
theorem g3_X6_thrown (l : Launch) (D : va_G) (h0 : Nat) (q : Nat → Nat) (cq : Nat → ClassId) (F : Nat → Int32) (G : Nat → Nat → Int32) (sz : Nat)  (hI : mI F G)  : Met l yX6_thrown w3X6_thrown ({ frames := 0, cells := 0, slots := 0, locals := 0 }) (mPre D h0 q cq F G sz [.ref h0]) (mQi D h0 q cq F G sz [] [] (fun r F' G' => r.toInt = (F 2).toInt)) 0 0 (va_A (mW h0 q cq F G) sz) := by
  refine mr_met (WF := []) (WG := []) (cc := cX6_thrown) (maxL := 1) (ret := (some .int)) (by decide) rfl rfl (by decide +kernel) (Nat.le_of_ble_eq_true rfl) hI ?_
  intro p e s m args below meth c ls E hml hr hlk hsz hA hM hl
  have hx := E.1
  have hb := E.2.1
  have hts := E.2.2.1
  have hown := E.2.2.2.2.1
  have hl : lv_has ls 1 [(0, .ref h0)] := hl
  refine lv_aload_n hx hb dX6_thrown_0 rfl (lv_at hl 0 rfl) ?_
  refine mr_get (v := .int (F 2)) E hM 2 (by decide) (index := 126) (mm_at 1 rfl) rfl rfl dX6_thrown_1 ?_
  exact mr_ri E hr hlk hsz hM (show (F 2).toInt = (F 2).toInt from by omega) dX6_thrown_4
