set_option maxRecDepth 100000 in
theorem wl_k0 : (Cond.code yX5_init cX5_init 1 none : Cond) ∈ lw_tbl := List.mem_of_getElem? (i := 57) rfl
set_option maxRecDepth 100000 in
theorem wl_k1 : (Cond.code objectInit ⟨#[0xb1]⟩ 1 none : Cond) ∈ lw_tbl := List.mem_of_getElem? (i := 60) rfl
set_option maxRecDepth 100000 in
theorem wl_k2 : (Cond.code yX6_init cX6_init 2 none : Cond) ∈ lw_tbl := List.mem_of_getElem? (i := 688) rfl
set_option maxRecDepth 100000 in
theorem wl_k3 : (Cond.code yX5_feed cX5_feed 6 (some .int) : Cond) ∈ lw_tbl := List.mem_of_getElem? (i := 110) rfl
set_option maxRecDepth 100000 in
theorem wl_k4 : (Cond.code yX5_putOnTape cX5_putOnTape 3 none : Cond) ∈ lw_tbl := List.mem_of_getElem? (i := 114) rfl
set_option maxRecDepth 100000 in
theorem wl_k5 : (Cond.code yX6_feed cX6_feed 8 (some .int) : Cond) ∈ lw_tbl := List.mem_of_getElem? (i := 855) rfl
set_option maxRecDepth 100000 in
theorem wl_k6 : (Cond.code yX5_formats cX5_formats 4 (some .int) : Cond) ∈ lw_tbl := List.mem_of_getElem? (i := 118) rfl
set_option maxRecDepth 100000 in
theorem wl_k7 : (Cond.code yX4_init cX4_init 3 none : Cond) ∈ lw_tbl := List.mem_of_getElem? (i := 123) rfl
set_option maxRecDepth 100000 in
theorem wl_k8 : (Cond.code Lib.Math.min.name Lib.Math.min.code 2 (some .int) : Cond) ∈ lw_tbl := List.mem_of_getElem? (i := 127) rfl
set_option maxRecDepth 100000 in
theorem wl_k9 : (Cond.code yX4_readFormats cX4_readFormats 2 (some .boolean) : Cond) ∈ lw_tbl := List.mem_of_getElem? (i := 167) rfl
set_option maxRecDepth 100000 in
theorem wl_k10 : (Cond.code yX4_step cX4_step 1 none : Cond) ∈ lw_tbl := List.mem_of_getElem? (i := 171) rfl
set_option maxRecDepth 100000 in
theorem wl_k11 : (Cond.code yX4_sortAt cX4_sortAt 3 (some .int) : Cond) ∈ lw_tbl := List.mem_of_getElem? (i := 175) rfl
set_option maxRecDepth 100000 in
theorem wl_k12 : (Cond.code yX6_formats cX6_formats 4 (some .int) : Cond) ∈ lw_tbl := List.mem_of_getElem? (i := 859) rfl
set_option maxRecDepth 100000 in
theorem wl_k13 : (Cond.code yX6_take cX6_take 1 none : Cond) ∈ lw_tbl := List.mem_of_getElem? (i := 863) rfl
set_option maxRecDepth 100000 in
theorem wl_k14 : (Cond.code yX5_fault cX5_fault 2 (some .int) : Cond) ∈ lw_tbl := List.mem_of_getElem? (i := 326) rfl
set_option maxRecDepth 100000 in
theorem wl_k15 : (Cond.code yX6_fault cX6_fault 2 (some .int) : Cond) ∈ lw_tbl := List.mem_of_getElem? (i := 908) rfl
set_option maxRecDepth 100000 in
theorem wl_k16 : (Cond.code yX5_pass cX5_pass 2 (some .int) : Cond) ∈ lw_tbl := List.mem_of_getElem? (i := 330) rfl
set_option maxRecDepth 100000 in
theorem wl_k17 : (Cond.code yX6_pass cX6_pass 2 (some .int) : Cond) ∈ lw_tbl := List.mem_of_getElem? (i := 912) rfl
set_option maxRecDepth 100000 in
theorem wl_k18 : (Cond.code yX5_racer cX5_racer 2 (some .int) : Cond) ∈ lw_tbl := List.mem_of_getElem? (i := 334) rfl
set_option maxRecDepth 100000 in
theorem wl_k19 : (Cond.code yX5_isNation cX5_isNation 1 (some .boolean) : Cond) ∈ lw_tbl := List.mem_of_getElem? (i := 337) rfl
set_option maxRecDepth 100000 in
theorem wl_k20 : (Cond.code yX6_racer cX6_racer 2 (some .int) : Cond) ∈ lw_tbl := List.mem_of_getElem? (i := 916) rfl
set_option maxRecDepth 100000 in
theorem wl_k21 : (Cond.code yX5_race cX5_race 6 (some .int) : Cond) ∈ lw_tbl := List.mem_of_getElem? (i := 341) rfl
set_option maxRecDepth 100000 in
theorem wl_k22 : (Cond.code yX6_race cX6_race 3 (some .int) : Cond) ∈ lw_tbl := List.mem_of_getElem? (i := 920) rfl
set_option maxRecDepth 100000 in
theorem wl_k23 : (Cond.code yX5_enter cX5_enter 4 (some .int) : Cond) ∈ lw_tbl := List.mem_of_getElem? (i := 382) rfl
set_option maxRecDepth 100000 in
theorem wl_k24 : (Cond.code yX5_raceAt cX5_raceAt 2 (some (.object "SkiShots$Race")) : Cond) ∈ lw_tbl := List.mem_of_getElem? (i := 345) rfl
set_option maxRecDepth 100000 in
theorem wl_k25 : (Cond.code yX6_enter cX6_enter 3 (some .int) : Cond) ∈ lw_tbl := List.mem_of_getElem? (i := 928) rfl
set_option maxRecDepth 100000 in
theorem wl_k26 : (Cond.code yX6_isRace cX6_isRace 2 (some .boolean) : Cond) ∈ lw_tbl := List.mem_of_getElem? (i := 924) rfl
set_option maxRecDepth 100000 in
theorem wl_k27 : (Cond.code yX5_tell cX5_tell 8 (some .int) : Cond) ∈ lw_tbl := List.mem_of_getElem? (i := 445) rfl
set_option maxRecDepth 100000 in
theorem wl_k28 : (Cond.code yX6_tell cX6_tell 6 (some .int) : Cond) ∈ lw_tbl := List.mem_of_getElem? (i := 936) rfl
set_option maxRecDepth 100000 in
theorem wl_k29 : (Cond.code yX6_isIn cX6_isIn 3 (some .boolean) : Cond) ∈ lw_tbl := List.mem_of_getElem? (i := 940) rfl
set_option maxRecDepth 100000 in
theorem wl_k30 : (Cond.code yX6_look cX6_look 3 (some .int) : Cond) ∈ lw_tbl := List.mem_of_getElem? (i := 949) rfl
set_option maxRecDepth 100000 in
theorem wl_k31 : (Cond.code yX6_fails cX6_fails 2 (some .int) : Cond) ∈ lw_tbl := List.mem_of_getElem? (i := 953) rfl
set_option maxRecDepth 100000 in
theorem wl_k32 : (Cond.code yX5_entry cX5_entry 4 (some .int) : Cond) ∈ lw_tbl := List.mem_of_getElem? (i := 484) rfl
set_option maxRecDepth 100000 in
theorem wl_k33 : (Cond.code yX6_entry cX6_entry 3 (some .int) : Cond) ∈ lw_tbl := List.mem_of_getElem? (i := 957) rfl
set_option maxRecDepth 100000 in
theorem wl_k34 : (Cond.code yX5_time cX5_time 7 (some .int) : Cond) ∈ lw_tbl := List.mem_of_getElem? (i := 488) rfl
set_option maxRecDepth 100000 in
theorem wl_k35 : (Cond.code yX6_time cX6_time 6 (some .int) : Cond) ∈ lw_tbl := List.mem_of_getElem? (i := 961) rfl
set_option maxRecDepth 100000 in
theorem wl_k36 : (Cond.code yX5_split cX5_split 7 (some .int) : Cond) ∈ lw_tbl := List.mem_of_getElem? (i := 551) rfl
set_option maxRecDepth 100000 in
theorem wl_k37 : (Cond.code yX6_split cX6_split 7 (some .int) : Cond) ∈ lw_tbl := List.mem_of_getElem? (i := 996) rfl
set_option maxRecDepth 100000 in
theorem wl_k38 : (Cond.code yX5_order cX5_order 6 (some .int) : Cond) ∈ lw_tbl := List.mem_of_getElem? (i := 557) rfl
set_option maxRecDepth 100000 in
theorem wl_k39 : (Cond.code yX6_order cX6_order 8 (some .int) : Cond) ∈ lw_tbl := List.mem_of_getElem? (i := 1000) rfl
set_option maxRecDepth 100000 in
theorem wl_k40 : (Cond.code yX5_points cX5_points 3 (some .int) : Cond) ∈ lw_tbl := List.mem_of_getElem? (i := 566) rfl
set_option maxRecDepth 100000 in
theorem wl_k41 : (Cond.code yX5_isRacer cX5_isRacer 2 (some .boolean) : Cond) ∈ lw_tbl := List.mem_of_getElem? (i := 386) rfl
set_option maxRecDepth 100000 in
theorem wl_k42 : (Cond.code yX6_points cX6_points 3 (some .int) : Cond) ∈ lw_tbl := List.mem_of_getElem? (i := 1004) rfl
set_option maxRecDepth 100000 in
theorem wl_k43 : (Cond.code yX6_isRacer cX6_isRacer 2 (some .boolean) : Cond) ∈ lw_tbl := List.mem_of_getElem? (i := 932) rfl
set_option maxRecDepth 100000 in
theorem wl_k44 : (Cond.code yX5_standing cX5_standing 3 (some .int) : Cond) ∈ lw_tbl := List.mem_of_getElem? (i := 579) rfl
set_option maxRecDepth 100000 in
theorem wl_k45 : (Cond.code yX6_standing cX6_standing 3 (some .int) : Cond) ∈ lw_tbl := List.mem_of_getElem? (i := 1012) rfl
set_option maxRecDepth 100000 in
theorem wl_k46 : (Cond.code yX5_starters cX5_starters 5 (some .int) : Cond) ∈ lw_tbl := List.mem_of_getElem? (i := 587) rfl
set_option maxRecDepth 100000 in
theorem wl_k47 : (Cond.code yX5_isDay cX5_isDay 2 (some .boolean) : Cond) ∈ lw_tbl := List.mem_of_getElem? (i := 492) rfl
set_option maxRecDepth 100000 in
theorem wl_k48 : (Cond.code yX5_addUpCup cX5_addUpCup 3 none : Cond) ∈ lw_tbl := List.mem_of_getElem? (i := 570) rfl
set_option maxRecDepth 100000 in
theorem wl_k49 : (Cond.code yX5_workOut cX5_workOut 4 none : Cond) ∈ lw_tbl := List.mem_of_getElem? (i := 496) rfl
set_option maxRecDepth 100000 in
theorem wl_k50 : (Cond.code yX6_starters cX6_starters 5 (some .int) : Cond) ∈ lw_tbl := List.mem_of_getElem? (i := 1020) rfl
set_option maxRecDepth 100000 in
theorem wl_k51 : (Cond.code yX6_isDay cX6_isDay 2 (some .boolean) : Cond) ∈ lw_tbl := List.mem_of_getElem? (i := 965) rfl
set_option maxRecDepth 100000 in
theorem wl_k52 : (Cond.code yX6_cup cX6_cup 6 none : Cond) ∈ lw_tbl := List.mem_of_getElem? (i := 1008) rfl
set_option maxRecDepth 100000 in
theorem wl_k53 : (Cond.code yX6_workAll cX6_workAll 5 none : Cond) ∈ lw_tbl := List.mem_of_getElem? (i := 969) rfl
set_option maxRecDepth 100000 in
theorem wl_k54 : (Cond.code yX5_count cX5_count 2 (some .int) : Cond) ∈ lw_tbl := List.mem_of_getElem? (i := 592) rfl
set_option maxRecDepth 100000 in
theorem wl_k55 : (Cond.code yX6_count cX6_count 2 (some .int) : Cond) ∈ lw_tbl := List.mem_of_getElem? (i := 1024) rfl
set_option maxRecDepth 100000 in
theorem wl_k56 : (Cond.code yX6_thrown cX6_thrown 1 (some .int) : Cond) ∈ lw_tbl := List.mem_of_getElem? (i := 851) rfl
set_option maxRecDepth 100000 in
theorem wl_k57 : (Cond.code yX5_look cX5_look 4 (some .int) : Cond) ∈ lw_tbl := List.mem_of_getElem? (i := 601) rfl
def wl_c : List Cond := [.code yX5_init cX5_init 1 none, .code objectInit ⟨#[0xb1]⟩ 1 none, .code yX6_init cX6_init 2 none, .code yX5_feed cX5_feed 6 (some .int), .code yX5_putOnTape cX5_putOnTape 3 none, .code yX6_feed cX6_feed 8 (some .int), .code yX5_formats cX5_formats 4 (some .int), .code yX4_init cX4_init 3 none, .code Lib.Math.min.name Lib.Math.min.code 2 (some .int), .code yX4_readFormats cX4_readFormats 2 (some .boolean), .code yX4_step cX4_step 1 none, .code yX4_sortAt cX4_sortAt 3 (some .int), .code yX6_formats cX6_formats 4 (some .int), .code yX6_take cX6_take 1 none, .code yX5_fault cX5_fault 2 (some .int), .code yX6_fault cX6_fault 2 (some .int), .code yX5_pass cX5_pass 2 (some .int), .code yX6_pass cX6_pass 2 (some .int), .code yX5_racer cX5_racer 2 (some .int), .code yX5_isNation cX5_isNation 1 (some .boolean), .code yX6_racer cX6_racer 2 (some .int), .code yX5_race cX5_race 6 (some .int), .code yX6_race cX6_race 3 (some .int), .code yX5_enter cX5_enter 4 (some .int), .code yX5_raceAt cX5_raceAt 2 (some (.object "SkiShots$Race")), .code yX6_enter cX6_enter 3 (some .int), .code yX6_isRace cX6_isRace 2 (some .boolean), .code yX5_tell cX5_tell 8 (some .int), .code yX6_tell cX6_tell 6 (some .int), .code yX6_isIn cX6_isIn 3 (some .boolean), .code yX6_look cX6_look 3 (some .int), .code yX6_fails cX6_fails 2 (some .int), .code yX5_entry cX5_entry 4 (some .int), .code yX6_entry cX6_entry 3 (some .int), .code yX5_time cX5_time 7 (some .int), .code yX6_time cX6_time 6 (some .int), .code yX5_split cX5_split 7 (some .int), .code yX6_split cX6_split 7 (some .int), .code yX5_order cX5_order 6 (some .int), .code yX6_order cX6_order 8 (some .int), .code yX5_points cX5_points 3 (some .int), .code yX5_isRacer cX5_isRacer 2 (some .boolean), .code yX6_points cX6_points 3 (some .int), .code yX6_isRacer cX6_isRacer 2 (some .boolean), .code yX5_standing cX5_standing 3 (some .int), .code yX6_standing cX6_standing 3 (some .int), .code yX5_starters cX5_starters 5 (some .int), .code yX5_isDay cX5_isDay 2 (some .boolean), .code yX5_addUpCup cX5_addUpCup 3 none, .code yX5_workOut cX5_workOut 4 none, .code yX6_starters cX6_starters 5 (some .int), .code yX6_isDay cX6_isDay 2 (some .boolean), .code yX6_cup cX6_cup 6 none, .code yX6_workAll cX6_workAll 5 none, .code yX5_count cX5_count 2 (some .int), .code yX6_count cX6_count 2 (some .int), .code yX6_thrown cX6_thrown 1 (some .int), .code yX5_look cX5_look 4 (some .int)]
theorem wl_c_in : ∀ w ∈ wl_c, w ∈ lw_tbl := List.forall_mem_cons.mpr ⟨wl_k0, List.forall_mem_cons.mpr ⟨wl_k1, List.forall_mem_cons.mpr ⟨wl_k2, List.forall_mem_cons.mpr ⟨wl_k3, List.forall_mem_cons.mpr ⟨wl_k4, List.forall_mem_cons.mpr ⟨wl_k5, List.forall_mem_cons.mpr ⟨wl_k6, List.forall_mem_cons.mpr ⟨wl_k7, List.forall_mem_cons.mpr ⟨wl_k8, List.forall_mem_cons.mpr ⟨wl_k9, List.forall_mem_cons.mpr ⟨wl_k10, List.forall_mem_cons.mpr ⟨wl_k11, List.forall_mem_cons.mpr ⟨wl_k12, List.forall_mem_cons.mpr ⟨wl_k13, List.forall_mem_cons.mpr ⟨wl_k14, List.forall_mem_cons.mpr ⟨wl_k15, List.forall_mem_cons.mpr ⟨wl_k16, List.forall_mem_cons.mpr ⟨wl_k17, List.forall_mem_cons.mpr ⟨wl_k18, List.forall_mem_cons.mpr ⟨wl_k19, List.forall_mem_cons.mpr ⟨wl_k20, List.forall_mem_cons.mpr ⟨wl_k21, List.forall_mem_cons.mpr ⟨wl_k22, List.forall_mem_cons.mpr ⟨wl_k23, List.forall_mem_cons.mpr ⟨wl_k24, List.forall_mem_cons.mpr ⟨wl_k25, List.forall_mem_cons.mpr ⟨wl_k26, List.forall_mem_cons.mpr ⟨wl_k27, List.forall_mem_cons.mpr ⟨wl_k28, List.forall_mem_cons.mpr ⟨wl_k29, List.forall_mem_cons.mpr ⟨wl_k30, List.forall_mem_cons.mpr ⟨wl_k31, List.forall_mem_cons.mpr ⟨wl_k32, List.forall_mem_cons.mpr ⟨wl_k33, List.forall_mem_cons.mpr ⟨wl_k34, List.forall_mem_cons.mpr ⟨wl_k35, List.forall_mem_cons.mpr ⟨wl_k36, List.forall_mem_cons.mpr ⟨wl_k37, List.forall_mem_cons.mpr ⟨wl_k38, List.forall_mem_cons.mpr ⟨wl_k39, List.forall_mem_cons.mpr ⟨wl_k40, List.forall_mem_cons.mpr ⟨wl_k41, List.forall_mem_cons.mpr ⟨wl_k42, List.forall_mem_cons.mpr ⟨wl_k43, List.forall_mem_cons.mpr ⟨wl_k44, List.forall_mem_cons.mpr ⟨wl_k45, List.forall_mem_cons.mpr ⟨wl_k46, List.forall_mem_cons.mpr ⟨wl_k47, List.forall_mem_cons.mpr ⟨wl_k48, List.forall_mem_cons.mpr ⟨wl_k49, List.forall_mem_cons.mpr ⟨wl_k50, List.forall_mem_cons.mpr ⟨wl_k51, List.forall_mem_cons.mpr ⟨wl_k52, List.forall_mem_cons.mpr ⟨wl_k53, List.forall_mem_cons.mpr ⟨wl_k54, List.forall_mem_cons.mpr ⟨wl_k55, List.forall_mem_cons.mpr ⟨wl_k56, List.forall_mem_cons.mpr ⟨wl_k57, fun _ h => absurd h List.not_mem_nil⟩⟩⟩⟩⟩⟩⟩⟩⟩⟩⟩⟩⟩⟩⟩⟩⟩⟩⟩⟩⟩⟩⟩⟩⟩⟩⟩⟩⟩⟩⟩⟩⟩⟩⟩⟩⟩⟩⟩⟩⟩⟩⟩⟩⟩⟩⟩⟩⟩⟩⟩⟩⟩⟩⟩⟩⟩⟩
theorem wl_x4_in : ∀ w ∈ wsX40, w ∈ lw_tbl := by decide +kernel
theorem wl_x5_in : ∀ w ∈ wsX50, w ∈ lw_tbl := by decide +kernel
theorem wl_x6_in : ∀ w ∈ wsX60, w ∈ lw_tbl := by decide +kernel
def wl_o0 : List Cond := [.classLink RL 8 RX5, .instantiable RX5 13, .initialized RX5, .classLink RL 18 RX6, .instantiable RX6 52, .initialized RX6, .arrayClass .long, .methodLink RX5 1 objectInit, .instanceMethod objectInit, .arrayClass .byte, .fieldLink RX5 9 "SkiShots" "tape" "[B", .classLink RX5 13 RX2, .fieldLink RX5 15 "SkiShots" "formatsByName" "[LSkiShots$Format;", .fieldLink RX5 19 "SkiShots" "latestFaultPlace" "I"]
theorem wl_o0_in : ∀ w ∈ wl_o0, w ∈ lw_tbl := by decide +kernel
def wl_o1 : List Cond := [.arrayClass .int, .fieldLink RX5 23 "SkiShots" "nations" "[I", .classLink RX5 27 RX3, .fieldLink RX5 29 "SkiShots" "races" "[LSkiShots$Race;", .fieldLink RX5 33 "SkiShots" "cup" "[I", .methodLink RL 17 yX5_init, .instanceMethod yX5_init, .methodLink RX6 1 objectInit, .fieldLink RX6 7 "SkiShotsModel" "tape" "[I", .fieldLink RX6 13 "SkiShotsModel" "laps" "[I", .fieldLink RX6 16 "SkiShotsModel" "shootMany" "[I", .fieldLink RX6 19 "SkiShotsModel" "shoot" "[I", .fieldLink RX6 22 "SkiShotsModel" "spares" "[I", .arrayClass .boolean]
theorem wl_o1_in : ∀ w ∈ wl_o1, w ∈ lw_tbl := by decide +kernel
def wl_o2 : List Cond := [.fieldLink RX6 25 "SkiShotsModel" "isLoop" "[Z", .fieldLink RX6 29 "SkiShotsModel" "cost" "[I", .fieldLink RX6 32 "SkiShotsModel" "startHow" "[I", .fieldLink RX6 35 "SkiShotsModel" "startNumber" "[I", .fieldLink RX6 38 "SkiShotsModel" "faultPlace" "I", .fieldLink RX6 42 "SkiShotsModel" "nation" "[I", .fieldLink RX6 45 "SkiShotsModel" "rName" "[I", .fieldLink RX6 48 "SkiShotsModel" "rLaps" "[I", .fieldLink RX6 51 "SkiShotsModel" "rShoots" "[I", .fieldLink RX6 54 "SkiShotsModel" "rSpares" "[I", .fieldLink RX6 57 "SkiShotsModel" "rLoop" "[Z", .fieldLink RX6 60 "SkiShotsModel" "rCost" "[I", .fieldLink RX6 63 "SkiShotsModel" "rHow" "[I", .fieldLink RX6 66 "SkiShotsModel" "rNumber" "[I"]
theorem wl_o2_in : ∀ w ∈ wl_o2, w ∈ lw_tbl := by decide +kernel
def wl_o3 : List Cond := [.fieldLink RX6 69 "SkiShotsModel" "rBy" "[I", .fieldLink RX6 72 "SkiShotsModel" "rEntries" "[I", .fieldLink RX6 75 "SkiShotsModel" "rEvents" "[I", .fieldLink RX6 78 "SkiShotsModel" "entries" "[I", .fieldLink RX6 81 "SkiShotsModel" "entryOf" "[I", .fieldLink RX6 84 "SkiShotsModel" "tRace" "[I", .fieldLink RX6 87 "SkiShotsModel" "tRacer" "[I", .fieldLink RX6 90 "SkiShotsModel" "tSort" "[I", .fieldLink RX6 93 "SkiShotsModel" "tK" "[I", .fieldLink RX6 96 "SkiShotsModel" "tV" "[I", .fieldLink RX6 99 "SkiShotsModel" "tDay" "[I", .fieldLink RX6 102 "SkiShotsModel" "words" "[I", .fieldLink RX6 105 "SkiShotsModel" "start" "[I", .fieldLink RX6 108 "SkiShotsModel" "low" "[I"]
theorem wl_o3_in : ∀ w ∈ wl_o3, w ∈ lw_tbl := by decide +kernel
def wl_o4 : List Cond := [.fieldLink RX6 111 "SkiShotsModel" "high" "[I", .fieldLink RX6 114 "SkiShotsModel" "missLow" "[I", .fieldLink RX6 117 "SkiShotsModel" "missHigh" "[I", .fieldLink RX6 120 "SkiShotsModel" "line" "[I", .fieldLink RX6 123 "SkiShotsModel" "sums" "[I", .methodLink RL 20 yX6_init, .instanceMethod yX6_init, .fieldLink RX5 36 "SkiShots" "tapeLength" "I", .methodLink RX5 39 yX5_putOnTape, .instanceMethod yX5_putOnTape, .selects RX5 yX5_putOnTape yX5_putOnTape, .methodLink RL 21 yX5_feed, .instanceMethod yX5_feed, .selects RX5 yX5_feed yX5_feed]
theorem wl_o4_in : ∀ w ∈ wl_o4, w ∈ lw_tbl := by decide +kernel
def wl_o5 : List Cond := [.fieldLink RX6 126 "SkiShotsModel" "thrown" "I", .fieldLink RX6 129 "SkiShotsModel" "tapeSize" "I", .methodLink RL 25 yX6_feed, .instanceMethod yX6_feed, .selects RX6 yX6_feed yX6_feed, .classLink RX5 43 RX4, .instantiable RX4 10, .initialized RX4, .methodLink RX5 45 yX4_init, .instanceMethod yX4_init, .fieldLink RX5 52 "SkiShots$Reader" "fault" "I", .fieldLink RX5 55 "SkiShots" "latestFault" "I", .fieldLink RX5 58 "SkiShots$Reader" "faultPlace" "I", .fieldLink RX5 61 "SkiShots$Reader" "found" "[LSkiShots$Format;"]
theorem wl_o5_in : ∀ w ∈ wl_o5, w ∈ lw_tbl := by decide +kernel
def wl_o6 : List Cond := [.fieldLink RX5 64 "SkiShots$Reader" "foundCount" "I", .fieldLink RX5 67 "SkiShots" "formatCount" "I", .methodLink RX4 3 objectInit, .fieldLink RX4 9 "SkiShots$Reader" "text" "[B", .methodLink RX4 15 Lib.Math.min.name, .static Lib.Math.min.name, .initialized "java/lang/Math", .fieldLink RX4 21 "SkiShots$Reader" "length" "I", .classLink RX4 25 RX2, .fieldLink RX4 27 "SkiShots$Reader" "found" "[LSkiShots$Format;", .fieldLink RX4 31 "SkiShots$Reader" "faultPlace" "I", .methodLink RX5 48 yX4_readFormats, .instanceMethod yX4_readFormats, .selects RX4 yX4_readFormats yX4_readFormats]
theorem wl_o6_in : ∀ w ∈ wl_o6, w ∈ lw_tbl := by decide +kernel
def wl_o7 : List Cond := [.fieldLink RX4 37 "SkiShots$Reader" "sort" "I", .methodLink RX4 34 yX4_step, .instanceMethod yX4_step, .selects RX4 yX4_step yX4_step, .fieldLink RX4 133 "SkiShots$Reader" "behind" "I", .fieldLink RX4 54 "SkiShots$Reader" "place" "I", .methodLink RX4 149 yX4_sortAt, .instanceMethod yX4_sortAt, .selects RX4 yX4_sortAt yX4_sortAt, .methodLink RL 26 yX5_formats, .instanceMethod yX5_formats, .selects RX5 yX5_formats yX5_formats, .fieldLink RX6 135 "SkiShotsModel" "size" "I", .fieldLink RX6 132 "SkiShotsModel" "fault" "I"]
theorem wl_o7_in : ∀ w ∈ wl_o7, w ∈ lw_tbl := by decide +kernel
def wl_o8 : List Cond := [.fieldLink RX6 138 "SkiShotsModel" "next" "I", .fieldLink RX6 144 "SkiShotsModel" "kind" "I", .fieldLink RX6 191 "SkiShotsModel" "formatMany" "I", .methodLink RX6 166 yX6_take, .instanceMethod yX6_take, .selects RX6 yX6_take yX6_take, .fieldLink RX6 141 "SkiShotsModel" "place" "I", .methodLink RL 30 yX6_formats, .instanceMethod yX6_formats, .selects RX6 yX6_formats yX6_formats, .methodLink RL 31 yX5_fault, .instanceMethod yX5_fault, .selects RX5 yX5_fault yX5_fault, .methodLink RL 34 yX6_fault]
theorem wl_o8_in : ∀ w ∈ wl_o8, w ∈ lw_tbl := by decide +kernel
def wl_o9 : List Cond := [.instanceMethod yX6_fault, .selects RX6 yX6_fault yX6_fault, .fieldLink RX5 70 "SkiShots" "today" "I", .methodLink RL 35 yX5_pass, .instanceMethod yX5_pass, .selects RX5 yX5_pass yX5_pass, .fieldLink RX6 194 "SkiShotsModel" "today" "I", .methodLink RL 38 yX6_pass, .instanceMethod yX6_pass, .selects RX6 yX6_pass yX6_pass, .fieldLink RX5 77 "SkiShots" "racerCount" "I", .methodLink RX5 73 yX5_isNation, .static yX5_isNation, .methodLink RL 39 yX5_racer]
theorem wl_o9_in : ∀ w ∈ wl_o9, w ∈ lw_tbl := by decide +kernel
def wl_o10 : List Cond := [.instanceMethod yX5_racer, .selects RX5 yX5_racer yX5_racer, .fieldLink RX6 197 "SkiShotsModel" "racers" "I", .methodLink RL 42 yX6_racer, .instanceMethod yX6_racer, .selects RX6 yX6_racer yX6_racer, .fieldLink RX5 80 "SkiShots" "raceCount" "I", .methodLink RL 43 yX5_race, .instanceMethod yX5_race, .selects RX5 yX5_race yX5_race, .methodLink RL 46 yX6_race, .instanceMethod yX6_race, .selects RX6 yX6_race yX6_race, .methodLink RX5 83 yX5_raceAt]
theorem wl_o10_in : ∀ w ∈ wl_o10, w ∈ lw_tbl := by decide +kernel
def wl_o11 : List Cond := [.instanceMethod yX5_raceAt, .selects RX5 yX5_raceAt yX5_raceAt, .methodLink RL 47 yX5_enter, .instanceMethod yX5_enter, .selects RX5 yX5_enter yX5_enter, .methodLink RX6 203 yX6_isRace, .instanceMethod yX6_isRace, .selects RX6 yX6_isRace yX6_isRace, .fieldLink RX6 200 "SkiShotsModel" "races" "I", .methodLink RL 50 yX6_enter, .instanceMethod yX6_enter, .selects RX6 yX6_enter yX6_enter, .methodLink RL 51 yX5_tell, .instanceMethod yX5_tell]
theorem wl_o11_in : ∀ w ∈ wl_o11, w ∈ lw_tbl := by decide +kernel
def wl_o12 : List Cond := [.selects RX5 yX5_tell yX5_tell, .methodLink RX6 210 yX6_isIn, .instanceMethod yX6_isIn, .selects RX6 yX6_isIn yX6_isIn, .methodLink RL 54 yX6_tell, .instanceMethod yX6_tell, .selects RX6 yX6_tell yX6_tell, .methodLink RX6 220 yX6_fails, .instanceMethod yX6_fails, .selects RX6 yX6_fails yX6_fails, .methodLink RL 60 yX6_look, .instanceMethod yX6_look, .selects RX6 yX6_look yX6_look, .methodLink RL 65 yX5_entry]
theorem wl_o12_in : ∀ w ∈ wl_o12, w ∈ lw_tbl := by decide +kernel
def wl_o13 : List Cond := [.instanceMethod yX5_entry, .selects RX5 yX5_entry yX5_entry, .methodLink RL 68 yX6_entry, .instanceMethod yX6_entry, .selects RX6 yX6_entry yX6_entry, .methodLink RL 69 yX5_time, .instanceMethod yX5_time, .selects RX5 yX5_time yX5_time, .methodLink RL 73 yX6_time, .instanceMethod yX6_time, .selects RX6 yX6_time yX6_time, .methodLink RL 74 yX5_split, .instanceMethod yX5_split, .selects RX5 yX5_split yX5_split]
theorem wl_o13_in : ∀ w ∈ wl_o13, w ∈ lw_tbl := by decide +kernel
def wl_o14 : List Cond := [.methodLink RL 77 yX6_split, .instanceMethod yX6_split, .selects RX6 yX6_split yX6_split, .methodLink RL 78 yX5_order, .instanceMethod yX5_order, .selects RX5 yX5_order yX5_order, .methodLink RL 82 yX6_order, .instanceMethod yX6_order, .selects RX6 yX6_order yX6_order, .methodLink RX5 93 yX5_isRacer, .instanceMethod yX5_isRacer, .selects RX5 yX5_isRacer yX5_isRacer, .methodLink RL 83 yX5_points, .instanceMethod yX5_points]
theorem wl_o14_in : ∀ w ∈ wl_o14, w ∈ lw_tbl := by decide +kernel
def wl_o15 : List Cond := [.selects RX5 yX5_points yX5_points, .methodLink RX6 206 yX6_isRacer, .instanceMethod yX6_isRacer, .selects RX6 yX6_isRacer yX6_isRacer, .methodLink RL 86 yX6_points, .instanceMethod yX6_points, .selects RX6 yX6_points yX6_points, .methodLink RL 87 yX5_standing, .instanceMethod yX5_standing, .selects RX5 yX5_standing yX5_standing, .methodLink RL 90 yX6_standing, .instanceMethod yX6_standing, .selects RX6 yX6_standing yX6_standing, .methodLink RX5 221 Lib.Math.min.name]
theorem wl_o15_in : ∀ w ∈ wl_o15, w ∈ lw_tbl := by decide +kernel
def wl_o16 : List Cond := [.methodLink RX5 168 yX5_isDay, .instanceMethod yX5_isDay, .selects RX5 yX5_isDay yX5_isDay, .methodLink RX5 215 yX5_addUpCup, .instanceMethod yX5_addUpCup, .selects RX5 yX5_addUpCup yX5_addUpCup, .methodLink RX5 171 yX5_workOut, .instanceMethod yX5_workOut, .selects RX5 yX5_workOut yX5_workOut, .methodLink RL 91 yX5_starters, .instanceMethod yX5_starters, .selects RX5 yX5_starters yX5_starters, .methodLink RX6 241 yX6_isDay, .instanceMethod yX6_isDay]
theorem wl_o16_in : ∀ w ∈ wl_o16, w ∈ lw_tbl := by decide +kernel
def wl_o17 : List Cond := [.selects RX6 yX6_isDay yX6_isDay, .methodLink RX6 252 yX6_cup, .instanceMethod yX6_cup, .selects RX6 yX6_cup yX6_cup, .methodLink RX6 244 yX6_workAll, .instanceMethod yX6_workAll, .selects RX6 yX6_workAll yX6_workAll, .methodLink RL 94 yX6_starters, .instanceMethod yX6_starters, .selects RX6 yX6_starters yX6_starters, .fieldLink RX5 109 "SkiShots" "eventCount" "I", .methodLink RL 95 yX5_count, .instanceMethod yX5_count, .selects RX5 yX5_count yX5_count]
theorem wl_o17_in : ∀ w ∈ wl_o17, w ∈ lw_tbl := by decide +kernel
def wl_o18 : List Cond := [.fieldLink RX6 217 "SkiShotsModel" "told" "I", .methodLink RL 98 yX6_count, .instanceMethod yX6_count, .selects RX6 yX6_count yX6_count, .methodLink RL 61 yX6_thrown, .instanceMethod yX6_thrown, .selects RX6 yX6_thrown yX6_thrown, .codeWith yL_look cL_look 5 (some .int) [(0, 10, 13, 13), (0, 10, 17, 15)], .methodLink RL 55 yL_look, .static yL_look, .initialized RL, .methodLink RL 7 yX5_look, .instanceMethod yX5_look, .selects RX5 yX5_look yX5_look]
theorem wl_o18_in : ∀ w ∈ wl_o18, w ∈ lw_tbl := by decide +kernel
def wl_o19 : List Cond := [.classLink RL 13 "java/lang/IndexOutOfBoundsException", .classLink RX5 134 "java/lang/IndexOutOfBoundsException", .initialized "java/lang/IndexOutOfBoundsException"]
theorem wl_o19_in : ∀ w ∈ wl_o19, w ∈ lw_tbl := by decide +kernel
theorem wl_xt_in : ∀ w ∈ (vx_atS RX5 138 "java/lang/IndexOutOfBoundsException" ["java/lang/RuntimeException", "java/lang/Exception"]).filter goodWord, w ∈ lw_tbl := by decide +kernel
def wl : List Cond := wl_c ++ (wsX40 ++ (wsX50 ++ (wsX60 ++ (wl_o0 ++ (wl_o1 ++ (wl_o2 ++ (wl_o3 ++ (wl_o4 ++ (wl_o5 ++ (wl_o6 ++ (wl_o7 ++ (wl_o8 ++ (wl_o9 ++ (wl_o10 ++ (wl_o11 ++ (wl_o12 ++ (wl_o13 ++ (wl_o14 ++ (wl_o15 ++ (wl_o16 ++ (wl_o17 ++ (wl_o18 ++ (wl_o19 ++ ((vx_atS RX5 138 "java/lang/IndexOutOfBoundsException" ["java/lang/RuntimeException", "java/lang/Exception"]).filter goodWord))))))))))))))))))))))))
theorem wl_in : ∀ w ∈ wl, w ∈ lw_tbl := (fun w h => (List.mem_append.mp h).elim (fun h => wl_c_in w h) (fun h => (fun w h => (List.mem_append.mp h).elim (fun h => wl_x4_in w h) (fun h => (fun w h => (List.mem_append.mp h).elim (fun h => wl_x5_in w h) (fun h => (fun w h => (List.mem_append.mp h).elim (fun h => wl_x6_in w h) (fun h => (fun w h => (List.mem_append.mp h).elim (fun h => wl_o0_in w h) (fun h => (fun w h => (List.mem_append.mp h).elim (fun h => wl_o1_in w h) (fun h => (fun w h => (List.mem_append.mp h).elim (fun h => wl_o2_in w h) (fun h => (fun w h => (List.mem_append.mp h).elim (fun h => wl_o3_in w h) (fun h => (fun w h => (List.mem_append.mp h).elim (fun h => wl_o4_in w h) (fun h => (fun w h => (List.mem_append.mp h).elim (fun h => wl_o5_in w h) (fun h => (fun w h => (List.mem_append.mp h).elim (fun h => wl_o6_in w h) (fun h => (fun w h => (List.mem_append.mp h).elim (fun h => wl_o7_in w h) (fun h => (fun w h => (List.mem_append.mp h).elim (fun h => wl_o8_in w h) (fun h => (fun w h => (List.mem_append.mp h).elim (fun h => wl_o9_in w h) (fun h => (fun w h => (List.mem_append.mp h).elim (fun h => wl_o10_in w h) (fun h => (fun w h => (List.mem_append.mp h).elim (fun h => wl_o11_in w h) (fun h => (fun w h => (List.mem_append.mp h).elim (fun h => wl_o12_in w h) (fun h => (fun w h => (List.mem_append.mp h).elim (fun h => wl_o13_in w h) (fun h => (fun w h => (List.mem_append.mp h).elim (fun h => wl_o14_in w h) (fun h => (fun w h => (List.mem_append.mp h).elim (fun h => wl_o15_in w h) (fun h => (fun w h => (List.mem_append.mp h).elim (fun h => wl_o16_in w h) (fun h => (fun w h => (List.mem_append.mp h).elim (fun h => wl_o17_in w h) (fun h => (fun w h => (List.mem_append.mp h).elim (fun h => wl_o18_in w h) (fun h => (fun w h => (List.mem_append.mp h).elim (fun h => wl_o19_in w h) (fun h => (fun w h => wl_xt_in w h) w h)) w h)) w h)) w h)) w h)) w h)) w h)) w h)) w h)) w h)) w h)) w h)) w h)) w h)) w h)) w h)) w h)) w h)) w h)) w h)) w h)) w h)) w h)) w h))
theorem wl_xt : ∀ w ∈ (vx_atS RX5 138 "java/lang/IndexOutOfBoundsException" ["java/lang/RuntimeException", "java/lang/Exception"]).filter goodWord, w ∈ wl := fun w h => List.mem_append_right _ (List.mem_append_right _ (List.mem_append_right _ (List.mem_append_right _ (List.mem_append_right _ (List.mem_append_right _ (List.mem_append_right _ (List.mem_append_right _ (List.mem_append_right _ (List.mem_append_right _ (List.mem_append_right _ (List.mem_append_right _ (List.mem_append_right _ (List.mem_append_right _ (List.mem_append_right _ (List.mem_append_right _ (List.mem_append_right _ (List.mem_append_right _ (List.mem_append_right _ (List.mem_append_right _ (List.mem_append_right _ (List.mem_append_right _ (List.mem_append_right _ (List.mem_append_right _ (h))))))))))))))))))))))))
