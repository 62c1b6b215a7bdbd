set_option maxRecDepth 20000 in
theorem gl_X5_init : GoodIn wl wX5_init := goodIn_p _ [0, 1] rfl (by decide +kernel)
set_option maxRecDepth 20000 in
theorem gl_X6_init : GoodIn wl wX6_init := goodIn_p _ [2, 1] rfl (by decide +kernel)
set_option maxRecDepth 20000 in
theorem gl_X5_feed : GoodIn wl (wsV RL 21 RX5 yX5_feed wX5_feed) := goodIn_p _ [3, 4] rfl (by decide +kernel)
set_option maxRecDepth 20000 in
theorem gl_X6_feed : GoodIn wl (wsV RL 25 RX6 yX6_feed wX6_feed) := goodIn_p _ [5] rfl (by decide +kernel)
set_option maxRecDepth 20000 in
theorem gl_X5_formats : GoodIn wl (wsV RL 26 RX5 yX5_formats wX5_formats) := goodIn_p _ [6, 7, 1, 8, 9, 10, 11] rfl (by decide +kernel)
set_option maxRecDepth 20000 in
theorem gl_X6_formats : GoodIn wl (wsV RL 30 RX6 yX6_formats wX6_formats) := goodIn_p _ [12, 13] rfl (by decide +kernel)
set_option maxRecDepth 20000 in
theorem gl_X5_fault : GoodIn wl (wsV RL 31 RX5 yX5_fault wX5_fault) := goodIn_p _ [14] rfl (by decide +kernel)
set_option maxRecDepth 20000 in
theorem gl_X6_fault : GoodIn wl (wsV RL 34 RX6 yX6_fault wX6_fault) := goodIn_p _ [15] rfl (by decide +kernel)
set_option maxRecDepth 20000 in
theorem gl_X5_pass : GoodIn wl (wsV RL 35 RX5 yX5_pass wX5_pass) := goodIn_p _ [16] rfl (by decide +kernel)
set_option maxRecDepth 20000 in
theorem gl_X6_pass : GoodIn wl (wsV RL 38 RX6 yX6_pass wX6_pass) := goodIn_p _ [17] rfl (by decide +kernel)
set_option maxRecDepth 20000 in
theorem gl_X5_racer : GoodIn wl (wsV RL 39 RX5 yX5_racer wX5_racer) := goodIn_p _ [18, 19] rfl (by decide +kernel)
set_option maxRecDepth 20000 in
theorem gl_X6_racer : GoodIn wl (wsV RL 42 RX6 yX6_racer wX6_racer) := goodIn_p _ [20] rfl (by decide +kernel)
set_option maxRecDepth 20000 in
theorem gl_X5_race : GoodIn wl (wsV RL 43 RX5 yX5_race wX5_race) := goodIn_p _ [21] rfl (by decide +kernel)
set_option maxRecDepth 20000 in
theorem gl_X6_race : GoodIn wl (wsV RL 46 RX6 yX6_race wX6_race) := goodIn_p _ [22] rfl (by decide +kernel)
set_option maxRecDepth 20000 in
theorem gl_X5_enter : GoodIn wl (wsV RL 47 RX5 yX5_enter wX5_enter) := goodIn_p _ [23, 24] rfl (by decide +kernel)
set_option maxRecDepth 20000 in
theorem gl_X6_enter : GoodIn wl (wsV RL 50 RX6 yX6_enter wX6_enter) := goodIn_p _ [25, 26] rfl (by decide +kernel)
set_option maxRecDepth 20000 in
theorem gl_X5_tell : GoodIn wl (wsV RL 51 RX5 yX5_tell wX5_tell) := goodIn_p _ [27, 24] rfl (by decide +kernel)
set_option maxRecDepth 20000 in
theorem gl_X6_tell : GoodIn wl (wsV RL 54 RX6 yX6_tell wX6_tell) := goodIn_p _ [28, 29, 26] rfl (by decide +kernel)
set_option maxRecDepth 20000 in
theorem gl_X6_look : GoodIn wl (wsV RL 60 RX6 yX6_look wX6_look) := goodIn_p _ [30, 26, 31] rfl (by decide +kernel)
set_option maxRecDepth 20000 in
theorem gl_X6_thrown : GoodIn wl (wsV RL 61 RX6 yX6_thrown wX6_thrown) := goodIn_p _ [56] rfl (by decide +kernel)
set_option maxRecDepth 20000 in
theorem gl_X5_entry : GoodIn wl (wsV RL 65 RX5 yX5_entry wX5_entry) := goodIn_p _ [32, 24] rfl (by decide +kernel)
set_option maxRecDepth 20000 in
theorem gl_X6_entry : GoodIn wl (wsV RL 68 RX6 yX6_entry wX6_entry) := goodIn_p _ [33, 26] rfl (by decide +kernel)
set_option maxRecDepth 20000 in
theorem gl_X5_time : GoodIn wl (wsV RL 69 RX5 yX5_time wX5_time) := goodIn_p _ [34, 24] rfl (by decide +kernel)
set_option maxRecDepth 20000 in
theorem gl_X6_time : GoodIn wl (wsV RL 73 RX6 yX6_time wX6_time) := goodIn_p _ [35, 29, 26] rfl (by decide +kernel)
set_option maxRecDepth 20000 in
theorem gl_X5_split : GoodIn wl (wsV RL 74 RX5 yX5_split wX5_split) := goodIn_p _ [36, 24] rfl (by decide +kernel)
set_option maxRecDepth 20000 in
theorem gl_X6_split : GoodIn wl (wsV RL 77 RX6 yX6_split wX6_split) := goodIn_p _ [37, 29, 26] rfl (by decide +kernel)
set_option maxRecDepth 20000 in
theorem gl_X5_order : GoodIn wl (wsV RL 78 RX5 yX5_order wX5_order) := goodIn_p _ [38, 24] rfl (by decide +kernel)
set_option maxRecDepth 20000 in
theorem gl_X6_order : GoodIn wl (wsV RL 82 RX6 yX6_order wX6_order) := goodIn_p _ [39, 26] rfl (by decide +kernel)
set_option maxRecDepth 20000 in
theorem gl_X5_points : GoodIn wl (wsV RL 83 RX5 yX5_points wX5_points) := goodIn_p _ [40, 41] rfl (by decide +kernel)
set_option maxRecDepth 20000 in
theorem gl_X6_points : GoodIn wl (wsV RL 86 RX6 yX6_points wX6_points) := goodIn_p _ [42, 43] rfl (by decide +kernel)
set_option maxRecDepth 20000 in
theorem gl_X5_standing : GoodIn wl (wsV RL 87 RX5 yX5_standing wX5_standing) := goodIn_p _ [44, 41] rfl (by decide +kernel)
set_option maxRecDepth 20000 in
theorem gl_X6_standing : GoodIn wl (wsV RL 90 RX6 yX6_standing wX6_standing) := goodIn_p _ [45, 43] rfl (by decide +kernel)
set_option maxRecDepth 20000 in
theorem gl_X5_starters : GoodIn wl (wsV RL 91 RX5 yX5_starters wX5_starters) := goodIn_p _ [46, 8, 19, 47, 48, 49] rfl (by decide +kernel)
set_option maxRecDepth 20000 in
theorem gl_X6_starters : GoodIn wl (wsV RL 94 RX6 yX6_starters wX6_starters) := goodIn_p _ [50, 51, 52, 53] rfl (by decide +kernel)
set_option maxRecDepth 20000 in
theorem gl_X5_count : GoodIn wl (wsV RL 95 RX5 yX5_count wX5_count) := goodIn_p _ [54] rfl (by decide +kernel)
set_option maxRecDepth 20000 in
theorem gl_X6_count : GoodIn wl (wsV RL 98 RX6 yX6_count wX6_count) := goodIn_p _ [55] rfl (by decide +kernel)
set_option maxRecDepth 20000 in
theorem gl_L_look : GoodIn wl (va_wsS RL 55 yL_look wL_look) := by
  have e : va_wsS RL 55 yL_look wL_look = (([.methodLink RL 55 yL_look, .static yL_look, .initialized RL, .codeWith yL_look cL_look 5 (some .int) [(0, 10, 13, 13), (0, 10, 17, 15)]] : List Cond) ++ [.code yX5_look cX5_look 4 (some .int), .code yX5_raceAt cX5_raceAt 2 (some (.object "SkiShots$Race")), .methodLink RL 7 yX5_look, .instanceMethod yX5_look, .selects RX5 yX5_look yX5_look, .initialized RX5, .classLink RL 13 "java/lang/IndexOutOfBoundsException", .classLink RX5 134 "java/lang/IndexOutOfBoundsException", .initialized "java/lang/IndexOutOfBoundsException", .methodLink RX5 83 yX5_raceAt, .instanceMethod yX5_raceAt, .selects RX5 yX5_raceAt yX5_raceAt, .fieldLink RX5 80 "SkiShots" "raceCount" "I"]) ++ (vx_atS RX5 138 "java/lang/IndexOutOfBoundsException" ["java/lang/RuntimeException", "java/lang/Exception"]).filter goodWord ++ wsX50 := rfl
  rw [e]
  exact goodIn_app (goodIn_app (goodIn_of _ (by decide +kernel)) (gi_filter (fun w h => wl_xt w h))) (goodIn_of _ (by decide +kernel))
