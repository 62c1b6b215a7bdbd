/-! THE CLAIM OUT OF ONE WALK OF THE LAW'S BODY. Your part is whole_start (and what it stands on); all else here is the same for every law, but numbers. -/
def R_law : String := "SkiShotsLaw"
def lw_P (b : Addr) (xs : List Int32) (args : Array Value) (s : State) : Prop := args = #[.ref b] ∧ s.IntsAt b xs ∧ xs.length ≤ 3072 ∧ (Jvm.Cond.and given_1 narrow_1).before args s = true
def lw_Q (_ : Array Value) (s : State) (o : Outcome) (t : State) : Prop := o = .returned (some (.int 1)) ∧ Framed s o t [] 601024 7293034
def lw_Z (below : List Frame) (a : Array Value) (s : State) : State → Prop := fun t => ∃ o, t.status = .running ∧ Ended t below o ∧ lw_Q a s o t
/-- the law's own end, with 1 on the stack, nothing written that was there before, its room as the claim has it -/
theorem lw_ret {p : Program} {l : Launch} {e : Env} {s : State} {m : MethodId} {below : List Frame} {meth : Method} {c : Code} {b : Nat} (hx : p.tables.exec = Jvm.exec) (hb : c.code = code) (hr : meth.sig.returnType = ret) (hlocks : meth.locks = false) {pc : Nat} {H : Heap} {ls : Array Slot} (hdg : decode code pc = .ok (.ireturn, 1)) : W p l e room_1 s m #[Value.ref b] below meth c H [] 601024 7293034 (lw_Z below #[Value.ref b] s) (F0 m pc ls [.int 1]) := by
  intro T hT X
  obtain ⟨fs, hret, hrun, hended, hW, hframe⟩ := X.leave (v := some (.int 1)) (hlocks := hlocks) (fun h => by rw [hr] at h; cases h)
  have hmeth' : T.vm.method? m = some meth := X.method'
  refine ⟨T.setFrames fs, ?_, .returned (some (.int 1)), hrun, hended, rfl, ⟨_, rfl⟩, hW, hframe⟩
  jvm_step X.here [X.here.top, hx, hb, hdg, hmeth', hr, ret, narrow_b1]
  (try refine ⟨rfl, ?_⟩); (try refine ⟨rfl, ?_⟩)
  first | (intro acts; rw [hret _ acts rfl rfl rfl]) | rw [hret _ _ rfl rfl rfl]
  exact Steps.refl _
/-- what holds at the law's entry: the machine, the code, the tables' words (any of lw_tbl by 'hts w (by decide +kernel)'), the script of L ints xs at the cell b, what the Statement gives of the start (any of its parts by flat_of_before) -/
def lw_At (p : Program) (s : State) (m : MethodId) (meth : Method) (c : Code) (b L : Nat) (xs : Nat → Int32) : Prop :=
  p.tables.exec = Jvm.exec ∧ c.code = code ∧ meth.sig.returnType = ret ∧ c.maxLocals = 7 ∧ s.vm.findClass R_law = some m.cls ∧ (∀ w ∈ lw_tbl, w.before #[Value.ref b] s = true) ∧ va_X b L xs s s.heap ∧ b < s.heap.size ∧ meth.locks = false ∧ (Jvm.Cond.and given_1 narrow_1).before #[Value.ref b] s = true
def wl : List Cond := wl_c ++ (wsX00 ++ (wsX10 ++ (wsX20 ++ (wsX30 ++ (wsX40 ++ (wsX50 ++ (wsX60 ++ (wl_o0 ++ (wl_o1 ++ (wl_o2 ++ (wl_o3 ++ (wl_o4 ++ (wl_o5 ++ (wl_o6 ++ (wl_o7 ++ (wl_o8 ++ (wl_o9 ++ (wl_o10 ++ (wl_o11 ++ (wl_o12 ++ (wl_o13 ++ (wl_o14 ++ (wl_o15 ++ (wl_o16 ++ (wl_o17 ++ (wl_o18 ++ (wl_o19 ++ (wl_o20 ++ (wl_o21 ++ (wl_o22 ++ (wl_o23 ++ (wl_o24 ++ (wl_o25 ++ (wl_o26 ++ (wl_o27 ++ (wl_o28 ++ (wl_o29 ++ (wl_o30 ++ (wl_o31 ++ (wl_o32 ++ (wl_o33 ++ (wl_o34 ++ (wl_o35 ++ (wl_o36 ++ (wl_o37 ++ (wl_o38 ++ ((vx_atS RX5 138 "java/lang/IndexOutOfBoundsException" ["java/lang/RuntimeException", "java/lang/Exception"]).filter goodWord ++ (cq_at RX5 160 "java/util/NoSuchElementException" "java/lang/RuntimeException" 13 cNS ["java/lang/Exception"]).filter goodWord)))))))))))))))))))))))))))))))))))))))))))))))
theorem wl_in : ∀ w ∈ wl, w ∈ lw_tbl := (fun w h => (List.mem_append.mp h).elim (fun h => wl_c_in w h) (fun h => (fun w h => (List.mem_append.mp h).elim (fun h => wl_x0_in w h) (fun h => (fun w h => (List.mem_append.mp h).elim (fun h => wl_x1_in w h) (fun h => (fun w h => (List.mem_append.mp h).elim (fun h => wl_x2_in w h) (fun h => (fun w h => (List.mem_append.mp h).elim (fun h => wl_x3_in w h) (fun h => (fun w h => (List.mem_append.mp h).elim (fun h => wl_x4_in w h) (fun h => (fun w h => (List.mem_append.mp h).elim (fun h => wl_x5_in w h) (fun h => (fun w h => (List.mem_append.mp h).elim (fun h => wl_x6_in w h) (fun h => (fun w h => (List.mem_append.mp h).elim (fun h => wl_o0_in w h) (fun h => (fun w h => (List.mem_append.mp h).elim (fun h => wl_o1_in w h) (fun h => (fun w h => (List.mem_append.mp h).elim (fun h => wl_o2_in w h) (fun h => (fun w h => (List.mem_append.mp h).elim (fun h => wl_o3_in w h) (fun h => (fun w h => (List.mem_append.mp h).elim (fun h => wl_o4_in w h) (fun h => (fun w h => (List.mem_append.mp h).elim (fun h => wl_o5_in w h) (fun h => (fun w h => (List.mem_append.mp h).elim (fun h => wl_o6_in w h) (fun h => (fun w h => (List.mem_append.mp h).elim (fun h => wl_o7_in w h) (fun h => (fun w h => (List.mem_append.mp h).elim (fun h => wl_o8_in w h) (fun h => (fun w h => (List.mem_append.mp h).elim (fun h => wl_o9_in w h) (fun h => (fun w h => (List.mem_append.mp h).elim (fun h => wl_o10_in w h) (fun h => (fun w h => (List.mem_append.mp h).elim (fun h => wl_o11_in w h) (fun h => (fun w h => (List.mem_append.mp h).elim (fun h => wl_o12_in w h) (fun h => (fun w h => (List.mem_append.mp h).elim (fun h => wl_o13_in w h) (fun h => (fun w h => (List.mem_append.mp h).elim (fun h => wl_o14_in w h) (fun h => (fun w h => (List.mem_append.mp h).elim (fun h => wl_o15_in w h) (fun h => (fun w h => (List.mem_append.mp h).elim (fun h => wl_o16_in w h) (fun h => (fun w h => (List.mem_append.mp h).elim (fun h => wl_o17_in w h) (fun h => (fun w h => (List.mem_append.mp h).elim (fun h => wl_o18_in w h) (fun h => (fun w h => (List.mem_append.mp h).elim (fun h => wl_o19_in w h) (fun h => (fun w h => (List.mem_append.mp h).elim (fun h => wl_o20_in w h) (fun h => (fun w h => (List.mem_append.mp h).elim (fun h => wl_o21_in w h) (fun h => (fun w h => (List.mem_append.mp h).elim (fun h => wl_o22_in w h) (fun h => (fun w h => (List.mem_append.mp h).elim (fun h => wl_o23_in w h) (fun h => (fun w h => (List.mem_append.mp h).elim (fun h => wl_o24_in w h) (fun h => (fun w h => (List.mem_append.mp h).elim (fun h => wl_o25_in w h) (fun h => (fun w h => (List.mem_append.mp h).elim (fun h => wl_o26_in w h) (fun h => (fun w h => (List.mem_append.mp h).elim (fun h => wl_o27_in w h) (fun h => (fun w h => (List.mem_append.mp h).elim (fun h => wl_o28_in w h) (fun h => (fun w h => (List.mem_append.mp h).elim (fun h => wl_o29_in w h) (fun h => (fun w h => (List.mem_append.mp h).elim (fun h => wl_o30_in w h) (fun h => (fun w h => (List.mem_append.mp h).elim (fun h => wl_o31_in w h) (fun h => (fun w h => (List.mem_append.mp h).elim (fun h => wl_o32_in w h) (fun h => (fun w h => (List.mem_append.mp h).elim (fun h => wl_o33_in w h) (fun h => (fun w h => (List.mem_append.mp h).elim (fun h => wl_o34_in w h) (fun h => (fun w h => (List.mem_append.mp h).elim (fun h => wl_o35_in w h) (fun h => (fun w h => (List.mem_append.mp h).elim (fun h => wl_o36_in w h) (fun h => (fun w h => (List.mem_append.mp h).elim (fun h => wl_o37_in w h) (fun h => (fun w h => (List.mem_append.mp h).elim (fun h => wl_o38_in w h) (fun h => (fun w h => (List.mem_append.mp h).elim (fun h => wl_xt_in w h) (fun h => wl_xu_in w h)) w h)) w h)) w h)) w h)) w h)) w h)) w h)) w h)) w h)) w h)) w h)) w h)) w h)) w h)) w h)) w h)) w h)) w h)) w h)) w h)) w h)) w h)) w h)) w h)) w h)) w h)) w h)) w h)) w h)) w h)) w h)) w h)) w h)) w h)) w h)) w h)) w h)) w h)) w h)) w h)) w h)) w h)) w h)) w h)) w h)) w h)) w h))
theorem wl_xt : ∀ w ∈ (vx_atS RX5 138 "java/lang/IndexOutOfBoundsException" ["java/lang/RuntimeException", "java/lang/Exception"]).filter goodWord, w ∈ wl := fun w h => List.mem_append_right _ (List.mem_append_right _ (List.mem_append_right _ (List.mem_append_right _ (List.mem_append_right _ (List.mem_append_right _ (List.mem_append_right _ (List.mem_append_right _ (List.mem_append_right _ (List.mem_append_right _ (List.mem_append_right _ (List.mem_append_right _ (List.mem_append_right _ (List.mem_append_right _ (List.mem_append_right _ (List.mem_append_right _ (List.mem_append_right _ (List.mem_append_right _ (List.mem_append_right _ (List.mem_append_right _ (List.mem_append_right _ (List.mem_append_right _ (List.mem_append_right _ (List.mem_append_right _ (List.mem_append_right _ (List.mem_append_right _ (List.mem_append_right _ (List.mem_append_right _ (List.mem_append_right _ (List.mem_append_right _ (List.mem_append_right _ (List.mem_append_right _ (List.mem_append_right _ (List.mem_append_right _ (List.mem_append_right _ (List.mem_append_right _ (List.mem_append_right _ (List.mem_append_right _ (List.mem_append_right _ (List.mem_append_right _ (List.mem_append_right _ (List.mem_append_right _ (List.mem_append_right _ (List.mem_append_right _ (List.mem_append_right _ (List.mem_append_right _ (List.mem_append_right _ (List.mem_append_left _ h)))))))))))))))))))))))))))))))))))))))))))))))
theorem wl_xu : ∀ w ∈ (cq_at RX5 160 "java/util/NoSuchElementException" "java/lang/RuntimeException" 13 cNS ["java/lang/Exception"]).filter goodWord, w ∈ wl := fun w h => List.mem_append_right _ (List.mem_append_right _ (List.mem_append_right _ (List.mem_append_right _ (List.mem_append_right _ (List.mem_append_right _ (List.mem_append_right _ (List.mem_append_right _ (List.mem_append_right _ (List.mem_append_right _ (List.mem_append_right _ (List.mem_append_right _ (List.mem_append_right _ (List.mem_append_right _ (List.mem_append_right _ (List.mem_append_right _ (List.mem_append_right _ (List.mem_append_right _ (List.mem_append_right _ (List.mem_append_right _ (List.mem_append_right _ (List.mem_append_right _ (List.mem_append_right _ (List.mem_append_right _ (List.mem_append_right _ (List.mem_append_right _ (List.mem_append_right _ (List.mem_append_right _ (List.mem_append_right _ (List.mem_append_right _ (List.mem_append_right _ (List.mem_append_right _ (List.mem_append_right _ (List.mem_append_right _ (List.mem_append_right _ (List.mem_append_right _ (List.mem_append_right _ (List.mem_append_right _ (List.mem_append_right _ (List.mem_append_right _ (List.mem_append_right _ (List.mem_append_right _ (List.mem_append_right _ (List.mem_append_right _ (List.mem_append_right _ (List.mem_append_right _ (List.mem_append_right _ (List.mem_append_right _ h)))))))))))))))))))))))))))))))))))))))))))))))
set_option maxRecDepth 20000 in
theorem gl_X5_init : GoodIn wl wX5_init := goodIn_p _ [0, 1] rfl (by decide +kernel)
set_option maxRecDepth 20000 in
theorem gl_X6_init : GoodIn wl wX6_init := goodIn_p _ [2, 1] rfl (by decide +kernel)
set_option maxRecDepth 20000 in
theorem gl_X5_feed : GoodIn wl (wsV RL 21 RX5 yX5_feed w5X5_feed) := goodIn_p _ [3, 4] rfl (by decide +kernel)
set_option maxRecDepth 20000 in
theorem gl_X6_feed : GoodIn wl (wsV RL 25 RX6 yX6_feed w7X6_feed) := goodIn_p _ [5] rfl (by decide +kernel)
set_option maxRecDepth 20000 in
theorem gl_X5_formats : GoodIn wl (wsV RL 26 RX5 yX5_formats w5X5_formats) := goodIn_p _ [6, 7, 1, 8, 9, 10, 11, 12, 13, 14, 15, 16, 17, 18, 19, 20, 21, 22, 23, 24, 25, 26, 27, 28, 29, 30] rfl (by decide +kernel)
set_option maxRecDepth 20000 in
theorem gl_X6_formats : GoodIn wl (wsV RL 30 RX6 yX6_formats w7X6_formats) := goodIn_p _ [31, 32, 39, 34, 35, 36, 37, 38, 33, 41, 42, 40] rfl (by decide +kernel)
set_option maxRecDepth 20000 in
theorem gl_X5_fault : GoodIn wl (wsV RL 31 RX5 yX5_fault w4X5_fault) := goodIn_p _ [43] rfl (by decide +kernel)
set_option maxRecDepth 20000 in
theorem gl_X6_fault : GoodIn wl (wsV RL 34 RX6 yX6_fault w3X6_fault) := goodIn_p _ [44] rfl (by decide +kernel)
set_option maxRecDepth 20000 in
theorem gl_X5_pass : GoodIn wl (wsV RL 35 RX5 yX5_pass w4X5_pass) := goodIn_p _ [45] rfl (by decide +kernel)
set_option maxRecDepth 20000 in
theorem gl_X6_pass : GoodIn wl (wsV RL 38 RX6 yX6_pass w3X6_pass) := goodIn_p _ [46] rfl (by decide +kernel)
set_option maxRecDepth 20000 in
theorem gl_X5_racer : GoodIn wl (wsV RL 39 RX5 yX5_racer w4X5_racer) := goodIn_p _ [47, 48] rfl (by decide +kernel)
set_option maxRecDepth 20000 in
theorem gl_X6_racer : GoodIn wl (wsV RL 42 RX6 yX6_racer w3X6_racer) := goodIn_p _ [49] rfl (by decide +kernel)
set_option maxRecDepth 20000 in
theorem gl_X5_race : GoodIn wl (wsV RL 43 RX5 yX5_race w4X5_race) := goodIn_p _ [50, 51, 52, 1] rfl (by decide +kernel)
set_option maxRecDepth 20000 in
theorem gl_X6_race : GoodIn wl (wsV RL 46 RX6 yX6_race w3X6_race) := goodIn_p _ [53, 54] rfl (by decide +kernel)
set_option maxRecDepth 20000 in
theorem gl_X5_enter : GoodIn wl (wsV RL 47 RX5 yX5_enter w4X5_enter) := goodIn_p _ [55, 51, 56, 57, 58, 59, 1] rfl (by decide +kernel)
set_option maxRecDepth 20000 in
theorem gl_X6_enter : GoodIn wl (wsV RL 50 RX6 yX6_enter w3X6_enter) := goodIn_p _ [60, 54, 61] rfl (by decide +kernel)
set_option maxRecDepth 20000 in
theorem gl_X5_tell : GoodIn wl (wsV RL 51 RX5 yX5_tell w4X5_tell) := goodIn_p _ [62, 51, 57, 63, 64, 65, 1] rfl (by decide +kernel)
set_option maxRecDepth 20000 in
theorem gl_X6_tell : GoodIn wl (wsV RL 54 RX6 yX6_tell w3X6_tell) := goodIn_p _ [66, 67, 54, 61, 68] rfl (by decide +kernel)
set_option maxRecDepth 20000 in
theorem gl_X6_look : GoodIn wl (wsV RL 60 RX6 yX6_look w3X6_look) := goodIn_p _ [69, 54, 70] rfl (by decide +kernel)
set_option maxRecDepth 20000 in
theorem gl_X5_entry : GoodIn wl (wsV RL 61 RX5 yX5_entry w4X5_entry) := goodIn_p _ [71, 51] rfl (by decide +kernel)
set_option maxRecDepth 20000 in
theorem gl_X6_entry : GoodIn wl (wsV RL 64 RX6 yX6_entry w3X6_entry) := goodIn_p _ [72, 54] rfl (by decide +kernel)
set_option maxRecDepth 20000 in
theorem gl_X5_time : GoodIn wl (wsV RL 65 RX5 yX5_time w4X5_time) := goodIn_p _ [73, 51, 74, 57, 75, 76, 77, 78, 79, 8, 80, 81, 82, 83, 84, 85, 86, 87] rfl (by decide +kernel)
set_option maxRecDepth 20000 in
theorem gl_X6_time : GoodIn wl (wsV RL 69 RX6 yX6_time w3X6_time) := goodIn_p _ [88, 67, 54, 61, 89, 90, 91, 92, 93, 94, 95, 96] rfl (by decide +kernel)
set_option maxRecDepth 20000 in
theorem gl_X5_split : GoodIn wl (wsV RL 70 RX5 yX5_split w4X5_split) := goodIn_p _ [97, 51, 74, 63, 57, 75, 76, 77, 78, 79, 8, 80, 81, 82, 83, 84, 85] rfl (by decide +kernel)
set_option maxRecDepth 20000 in
theorem gl_X6_split : GoodIn wl (wsV RL 73 RX6 yX6_split w3X6_split) := goodIn_p _ [98, 67, 54, 61, 89, 90, 91, 92, 93, 94, 95] rfl (by decide +kernel)
set_option maxRecDepth 20000 in
theorem gl_X5_order : GoodIn wl (wsV RL 74 RX5 yX5_order w4X5_order) := goodIn_p _ [99, 79, 100, 51, 74, 75, 76, 77, 78, 57, 8, 80, 81, 82, 83, 84, 85] rfl (by decide +kernel)
set_option maxRecDepth 20000 in
theorem gl_X6_order : GoodIn wl (wsV RL 78 RX6 yX6_order w3X6_order) := goodIn_p _ [101, 54, 89, 90, 91, 92, 93, 94, 95] rfl (by decide +kernel)
set_option maxRecDepth 20000 in
theorem gl_X5_points : GoodIn wl (wsV RL 79 RX5 yX5_points w4X5_points) := goodIn_p _ [102, 56, 74, 103, 104, 79, 87, 84, 75, 76, 77, 78, 57, 8, 80, 81, 82, 83, 85] rfl (by decide +kernel)
set_option maxRecDepth 20000 in
theorem gl_X6_points : GoodIn wl (wsV RL 82 RX6 yX6_points w3X6_points) := goodIn_p _ [105, 61, 89, 106, 96, 90, 91, 92, 93, 94, 95] rfl (by decide +kernel)
set_option maxRecDepth 20000 in
theorem gl_X5_standing : GoodIn wl (wsV RL 83 RX5 yX5_standing w4X5_standing) := goodIn_p _ [107, 56, 74, 103, 104, 79, 87, 84, 75, 76, 77, 78, 57, 8, 80, 81, 82, 83, 85, 108] rfl (by decide +kernel)
set_option maxRecDepth 20000 in
theorem gl_X6_standing : GoodIn wl (wsV RL 86 RX6 yX6_standing w3X6_standing) := goodIn_p _ [109, 61, 89, 106, 96, 90, 91, 92, 93, 94, 95, 110] rfl (by decide +kernel)
set_option maxRecDepth 20000 in
theorem gl_X5_starters : GoodIn wl (wsV RL 87 RX5 yX5_starters w4X5_starters) := goodIn_p _ [111, 8, 108, 48, 74, 103, 104, 79, 87, 84, 75, 76, 77, 78, 57, 80, 81, 82, 83, 85] rfl (by decide +kernel)
set_option maxRecDepth 20000 in
theorem gl_X6_starters : GoodIn wl (wsV RL 90 RX6 yX6_starters w3X6_starters) := goodIn_p _ [112, 110, 89, 106, 96, 90, 91, 92, 93, 94, 95] rfl (by decide +kernel)
set_option maxRecDepth 20000 in
theorem gl_X5_count : GoodIn wl (wsV RL 91 RX5 yX5_count w4X5_count) := goodIn_p _ [113] rfl (by decide +kernel)
set_option maxRecDepth 20000 in
theorem gl_X6_count : GoodIn wl (wsV RL 94 RX6 yX6_count w3X6_count) := goodIn_p _ [114] rfl (by decide +kernel)
set_option maxRecDepth 20000 in
theorem gl_L_look : GoodIn wl (va_wsS RL 55 yL_look w4L_look) := by
  have e : va_wsS RL 55 yL_look w4L_look = (([.methodLink RL 55 yL_look, .static yL_look, .initialized RL, .codeWith yL_look cL_look 5 (some .int) [(0, 10, 13, 13), (0, 10, 17, 15)], .methodLink RL 7 yX5_look, .instanceMethod yX5_look, .selects RX5 yX5_look yX5_look, .initialized RX5, .code yX5_look cX5_look 4 (some .int), .methodLink RX5 83 yX5_raceAt, .instanceMethod yX5_raceAt, .selects RX5 yX5_raceAt yX5_raceAt, .initialized RX5, .code yX5_raceAt cX5_raceAt 2 (some (.object "SkiShots$Race")), .fieldLink RX5 80 "SkiShots" "raceCount" "I", .fieldLink RX5 29 "SkiShots" "races" "[LSkiShots$Race;", .classLink RX5 134 "java/lang/IndexOutOfBoundsException", .initialized "java/lang/IndexOutOfBoundsException", .fieldLink RX5 112 "SkiShots$Race" "format" "LSkiShots$Format;", .fieldLink RX5 141 "SkiShots$Format" "name" "I", .fieldLink RX5 144 "SkiShots$Format" "laps" "I", .fieldLink RX5 147 "SkiShots$Format" "shootings" "I", .fieldLink RX5 150 "SkiShots$Format" "spares" "I", .fieldLink RX5 153 "SkiShots$Race" "byNumber" "I", .fieldLink RX5 106 "SkiShots$Race" "entryCount" "I", .fieldLink RX5 96 "SkiShots$Race" "told" "I", .classLink RX5 156 "java/util/NoSuchElementException", .initialized "java/util/NoSuchElementException", .classLink RL 13 "java/lang/IndexOutOfBoundsException", .classLink RL 15 "java/util/NoSuchElementException"] : List Cond) ++ (vx_atS RX5 138 "java/lang/IndexOutOfBoundsException" ["java/lang/RuntimeException", "java/lang/Exception"]).filter goodWord) ++ ((cq_at RX5 160 "java/util/NoSuchElementException" "java/lang/RuntimeException" 13 cNS ["java/lang/Exception"]).filter goodWord ++ (wsX20 ++ wsX30 ++ wsX50)) := rfl
  rw [e]
  exact goodIn_app (goodIn_app (goodIn_p _ [115, 51] rfl (by decide +kernel)) (gi_f (fun w h => wl_xt w h))) (goodIn_app (gi_f (fun w h => wl_xu w h)) (goodIn_of _ (by decide +kernel)))
