set_option maxRecDepth 100000 in
theorem wl_k0 : (Cond.code yX5_init cX5_init 1 none : Cond) ∈ lw_tbl := List.mem_of_getElem? (i := 57) rfl
set_option maxRecDepth 100000 in
theorem wl_k1 : (Cond.code objectInit ⟨#[0xb1]⟩ 1 none : Cond) ∈ lw_tbl := List.mem_of_getElem? (i := 60) rfl
set_option maxRecDepth 100000 in
theorem wl_k2 : (Cond.code yX6_init cX6_init 2 none : Cond) ∈ lw_tbl := List.mem_of_getElem? (i := 688) rfl
set_option maxRecDepth 100000 in
theorem wl_k3 : (Cond.code yX5_feed cX5_feed 6 (some .int) : Cond) ∈ lw_tbl := List.mem_of_getElem? (i := 110) rfl
set_option maxRecDepth 100000 in
theorem wl_k4 : (Cond.code yX5_putOnTape cX5_putOnTape 3 none : Cond) ∈ lw_tbl := List.mem_of_getElem? (i := 114) rfl
set_option maxRecDepth 100000 in
theorem wl_k5 : (Cond.code yX6_feed cX6_feed 8 (some .int) : Cond) ∈ lw_tbl := List.mem_of_getElem? (i := 851) rfl
set_option maxRecDepth 100000 in
theorem wl_k6 : (Cond.code yX5_formats cX5_formats 4 (some .int) : Cond) ∈ lw_tbl := List.mem_of_getElem? (i := 118) rfl
set_option maxRecDepth 100000 in
theorem wl_k7 : (Cond.code yX4_init cX4_init 3 none : Cond) ∈ lw_tbl := List.mem_of_getElem? (i := 123) rfl
set_option maxRecDepth 100000 in
theorem wl_k8 : (Cond.code Lib.Math.min.name Lib.Math.min.code 2 (some .int) : Cond) ∈ lw_tbl := List.mem_of_getElem? (i := 127) rfl
set_option maxRecDepth 100000 in
theorem wl_k9 : (Cond.code yX4_readFormats cX4_readFormats 2 (some .boolean) : Cond) ∈ lw_tbl := List.mem_of_getElem? (i := 167) rfl
set_option maxRecDepth 100000 in
theorem wl_k10 : (Cond.code yX4_step cX4_step 1 none : Cond) ∈ lw_tbl := List.mem_of_getElem? (i := 171) rfl
set_option maxRecDepth 100000 in
theorem wl_k11 : (Cond.code yX4_sortAt cX4_sortAt 3 (some .int) : Cond) ∈ lw_tbl := List.mem_of_getElem? (i := 175) rfl
set_option maxRecDepth 100000 in
theorem wl_k12 : (Cond.code yX4_readFormat cX4_readFormat 3 (some .boolean) : Cond) ∈ lw_tbl := List.mem_of_getElem? (i := 179) rfl
set_option maxRecDepth 100000 in
theorem wl_k13 : (Cond.code yX4_readWord cX4_readWord 2 (some .boolean) : Cond) ∈ lw_tbl := List.mem_of_getElem? (i := 184) rfl
set_option maxRecDepth 100000 in
theorem wl_k14 : (Cond.code yX4_isWord cX4_isWord 3 (some .boolean) : Cond) ∈ lw_tbl := List.mem_of_getElem? (i := 188) rfl
set_option maxRecDepth 100000 in
theorem wl_k15 : (Cond.code yJ0_length_8abf5 cJ0_length_8abf5 1 (some .int) : Cond) ∈ lw_tbl := List.mem_of_getElem? (i := 192) rfl
set_option maxRecDepth 100000 in
theorem wl_k16 : (Cond.code yJ0_coder_7d493 cJ0_coder_7d493 1 (some .byte) : Cond) ∈ lw_tbl := List.mem_of_getElem? (i := 196) rfl
set_option maxRecDepth 100000 in
theorem wl_k17 : (Cond.code yJ0_charAt_5068e cJ0_charAt_5068e 2 (some .char) : Cond) ∈ lw_tbl := List.mem_of_getElem? (i := 202) rfl
set_option maxRecDepth 100000 in
theorem wl_k18 : (Cond.code yJ0_isLatin1_aae02 cJ0_isLatin1_aae02 1 (some .boolean) : Cond) ∈ lw_tbl := List.mem_of_getElem? (i := 206) rfl
set_option maxRecDepth 100000 in
theorem wl_k19 : (Cond.code yJ1_charAt_3b067 cJ1_charAt_3b067 2 (some .char) : Cond) ∈ lw_tbl := List.mem_of_getElem? (i := 209) rfl
set_option maxRecDepth 100000 in
theorem wl_k20 : (Cond.code yJ0_checkIndex_df160 cJ0_checkIndex_df160 2 none : Cond) ∈ lw_tbl := List.mem_of_getElem? (i := 212) rfl
set_option maxRecDepth 100000 in
theorem wl_k21 : (Cond.code yJ3_checkIndex_8e157 cJ3_checkIndex_8e157 3 (some .int) : Cond) ∈ lw_tbl := List.mem_of_getElem? (i := 217) rfl
set_option maxRecDepth 100000 in
theorem wl_k22 : (Cond.code yX4_fail cX4_fail 2 (some .boolean) : Cond) ∈ lw_tbl := List.mem_of_getElem? (i := 240) rfl
set_option maxRecDepth 100000 in
theorem wl_k23 : (Cond.code yX2_init cX2_init 2 none : Cond) ∈ lw_tbl := List.mem_of_getElem? (i := 244) rfl
set_option maxRecDepth 100000 in
theorem wl_k24 : (Cond.code yX4_readSign cX4_readSign 2 (some .boolean) : Cond) ∈ lw_tbl := List.mem_of_getElem? (i := 287) rfl
set_option maxRecDepth 100000 in
theorem wl_k25 : (Cond.code yX4_readLaps cX4_readLaps 2 (some .boolean) : Cond) ∈ lw_tbl := List.mem_of_getElem? (i := 291) rfl
set_option maxRecDepth 100000 in
theorem wl_k26 : (Cond.code yX4_readNumber cX4_readNumber 4 (some .boolean) : Cond) ∈ lw_tbl := List.mem_of_getElem? (i := 296) rfl
set_option maxRecDepth 100000 in
theorem wl_k27 : (Cond.code yX4_readShootings cX4_readShootings 4 (some .boolean) : Cond) ∈ lw_tbl := List.mem_of_getElem? (i := 301) rfl
set_option maxRecDepth 100000 in
theorem wl_k28 : (Cond.code yX4_readSpares cX4_readSpares 2 (some .boolean) : Cond) ∈ lw_tbl := List.mem_of_getElem? (i := 306) rfl
set_option maxRecDepth 100000 in
theorem wl_k29 : (Cond.code yX4_readMiss cX4_readMiss 2 (some .boolean) : Cond) ∈ lw_tbl := List.mem_of_getElem? (i := 311) rfl
set_option maxRecDepth 100000 in
theorem wl_k30 : (Cond.code yX4_readStart cX4_readStart 3 (some .boolean) : Cond) ∈ lw_tbl := List.mem_of_getElem? (i := 318) rfl
set_option maxRecDepth 100000 in
theorem wl_k31 : (Cond.code yX6_formats cX6_formats 4 (some .int) : Cond) ∈ lw_tbl := List.mem_of_getElem? (i := 855) rfl
set_option maxRecDepth 100000 in
theorem wl_k32 : (Cond.code yX6_format cX6_format 2 (some .boolean) : Cond) ∈ lw_tbl := List.mem_of_getElem? (i := 876) rfl
set_option maxRecDepth 100000 in
theorem wl_k33 : (Cond.code yX6_sign cX6_sign 2 (some .boolean) : Cond) ∈ lw_tbl := List.mem_of_getElem? (i := 888) rfl
set_option maxRecDepth 100000 in
theorem wl_k34 : (Cond.code yX6_wrong cX6_wrong 3 (some .boolean) : Cond) ∈ lw_tbl := List.mem_of_getElem? (i := 884) rfl
set_option maxRecDepth 100000 in
theorem wl_k35 : (Cond.code yX6_take cX6_take 1 none : Cond) ∈ lw_tbl := List.mem_of_getElem? (i := 859) rfl
set_option maxRecDepth 100000 in
theorem wl_k36 : (Cond.code yX6_isDigit cX6_isDigit 2 (some .boolean) : Cond) ∈ lw_tbl := List.mem_of_getElem? (i := 871) rfl
set_option maxRecDepth 100000 in
theorem wl_k37 : (Cond.code yX6_isSmall cX6_isSmall 2 (some .boolean) : Cond) ∈ lw_tbl := List.mem_of_getElem? (i := 863) rfl
set_option maxRecDepth 100000 in
theorem wl_k38 : (Cond.code yX6_wordAt cX6_wordAt 8 (some .int) : Cond) ∈ lw_tbl := List.mem_of_getElem? (i := 867) rfl
set_option maxRecDepth 100000 in
theorem wl_k39 : (Cond.code yX6_word cX6_word 2 (some .boolean) : Cond) ∈ lw_tbl := List.mem_of_getElem? (i := 880) rfl
set_option maxRecDepth 100000 in
theorem wl_k40 : (Cond.code yX6_starts cX6_starts 3 (some .boolean) : Cond) ∈ lw_tbl := List.mem_of_getElem? (i := 900) rfl
set_option maxRecDepth 100000 in
theorem wl_k41 : (Cond.code yX6_number cX6_number 3 (some .boolean) : Cond) ∈ lw_tbl := List.mem_of_getElem? (i := 892) rfl
set_option maxRecDepth 100000 in
theorem wl_k42 : (Cond.code yX6_shots cX6_shots 4 (some .boolean) : Cond) ∈ lw_tbl := List.mem_of_getElem? (i := 896) rfl
set_option maxRecDepth 100000 in
theorem wl_k43 : (Cond.code yX5_fault cX5_fault 2 (some .int) : Cond) ∈ lw_tbl := List.mem_of_getElem? (i := 326) rfl
set_option maxRecDepth 100000 in
theorem wl_k44 : (Cond.code yX6_fault cX6_fault 2 (some .int) : Cond) ∈ lw_tbl := List.mem_of_getElem? (i := 904) rfl
set_option maxRecDepth 100000 in
theorem wl_k45 : (Cond.code yX5_pass cX5_pass 2 (some .int) : Cond) ∈ lw_tbl := List.mem_of_getElem? (i := 330) rfl
set_option maxRecDepth 100000 in
theorem wl_k46 : (Cond.code yX6_pass cX6_pass 2 (some .int) : Cond) ∈ lw_tbl := List.mem_of_getElem? (i := 908) rfl
set_option maxRecDepth 100000 in
theorem wl_k47 : (Cond.code yX5_racer cX5_racer 2 (some .int) : Cond) ∈ lw_tbl := List.mem_of_getElem? (i := 334) rfl
set_option maxRecDepth 100000 in
theorem wl_k48 : (Cond.code yX5_isNation cX5_isNation 1 (some .boolean) : Cond) ∈ lw_tbl := List.mem_of_getElem? (i := 337) rfl
set_option maxRecDepth 100000 in
theorem wl_k49 : (Cond.code yX6_racer cX6_racer 2 (some .int) : Cond) ∈ lw_tbl := List.mem_of_getElem? (i := 912) rfl
set_option maxRecDepth 100000 in
theorem wl_k50 : (Cond.code yX5_race cX5_race 6 (some .int) : Cond) ∈ lw_tbl := List.mem_of_getElem? (i := 341) rfl
set_option maxRecDepth 100000 in
theorem wl_k51 : (Cond.code yX5_raceAt cX5_raceAt 2 (some (.object "SkiShots$Race")) : Cond) ∈ lw_tbl := List.mem_of_getElem? (i := 345) rfl
set_option maxRecDepth 100000 in
theorem wl_k52 : (Cond.code yX3_init cX3_init 4 none : Cond) ∈ lw_tbl := List.mem_of_getElem? (i := 349) rfl
set_option maxRecDepth 100000 in
theorem wl_k53 : (Cond.code yX6_race cX6_race 3 (some .int) : Cond) ∈ lw_tbl := List.mem_of_getElem? (i := 916) rfl
set_option maxRecDepth 100000 in
theorem wl_k54 : (Cond.code yX6_isRace cX6_isRace 2 (some .boolean) : Cond) ∈ lw_tbl := List.mem_of_getElem? (i := 920) rfl
set_option maxRecDepth 100000 in
theorem wl_k55 : (Cond.code yX5_enter cX5_enter 4 (some .int) : Cond) ∈ lw_tbl := List.mem_of_getElem? (i := 382) rfl
set_option maxRecDepth 100000 in
theorem wl_k56 : (Cond.code yX5_isRacer cX5_isRacer 2 (some .boolean) : Cond) ∈ lw_tbl := List.mem_of_getElem? (i := 386) rfl
set_option maxRecDepth 100000 in
theorem wl_k57 : (Cond.code yX3_entryOf cX3_entryOf 3 (some (.object "SkiShots$Entry")) : Cond) ∈ lw_tbl := List.mem_of_getElem? (i := 390) rfl
set_option maxRecDepth 100000 in
theorem wl_k58 : (Cond.code yX3_add cX3_add 2 none : Cond) ∈ lw_tbl := List.mem_of_getElem? (i := 394) rfl
set_option maxRecDepth 100000 in
theorem wl_k59 : (Cond.code yX0_init cX0_init 2 none : Cond) ∈ lw_tbl := List.mem_of_getElem? (i := 398) rfl
set_option maxRecDepth 100000 in
theorem wl_k60 : (Cond.code yX6_enter cX6_enter 3 (some .int) : Cond) ∈ lw_tbl := List.mem_of_getElem? (i := 924) rfl
set_option maxRecDepth 100000 in
theorem wl_k61 : (Cond.code yX6_isRacer cX6_isRacer 2 (some .boolean) : Cond) ∈ lw_tbl := List.mem_of_getElem? (i := 928) rfl
set_option maxRecDepth 100000 in
theorem wl_k62 : (Cond.code yX5_tell cX5_tell 8 (some .int) : Cond) ∈ lw_tbl := List.mem_of_getElem? (i := 445) rfl
set_option maxRecDepth 100000 in
theorem wl_k63 : (Cond.code yX2_hasEvent cX2_hasEvent 3 (some .boolean) : Cond) ∈ lw_tbl := List.mem_of_getElem? (i := 449) rfl
set_option maxRecDepth 100000 in
theorem wl_k64 : (Cond.code yX5_isValue cX5_isValue 2 (some .boolean) : Cond) ∈ lw_tbl := List.mem_of_getElem? (i := 452) rfl
set_option maxRecDepth 100000 in
theorem wl_k65 : (Cond.code yX1_init cX1_init 6 none : Cond) ∈ lw_tbl := List.mem_of_getElem? (i := 458) rfl
set_option maxRecDepth 100000 in
theorem wl_k66 : (Cond.code yX6_tell cX6_tell 6 (some .int) : Cond) ∈ lw_tbl := List.mem_of_getElem? (i := 932) rfl
set_option maxRecDepth 100000 in
theorem wl_k67 : (Cond.code yX6_isIn cX6_isIn 3 (some .boolean) : Cond) ∈ lw_tbl := List.mem_of_getElem? (i := 936) rfl
set_option maxRecDepth 100000 in
theorem wl_k68 : (Cond.code yX6_can cX6_can 5 (some .boolean) : Cond) ∈ lw_tbl := List.mem_of_getElem? (i := 940) rfl
set_option maxRecDepth 100000 in
theorem wl_k69 : (Cond.code yX6_look cX6_look 3 (some .int) : Cond) ∈ lw_tbl := List.mem_of_getElem? (i := 945) rfl
set_option maxRecDepth 100000 in
theorem wl_k70 : (Cond.code yX6_fails cX6_fails 2 (some .int) : Cond) ∈ lw_tbl := List.mem_of_getElem? (i := 949) rfl
set_option maxRecDepth 100000 in
theorem wl_k71 : (Cond.code yX5_entry cX5_entry 4 (some .int) : Cond) ∈ lw_tbl := List.mem_of_getElem? (i := 484) rfl
set_option maxRecDepth 100000 in
theorem wl_k72 : (Cond.code yX6_entry cX6_entry 3 (some .int) : Cond) ∈ lw_tbl := List.mem_of_getElem? (i := 953) rfl
set_option maxRecDepth 100000 in
theorem wl_k73 : (Cond.code yX5_time cX5_time 7 (some .int) : Cond) ∈ lw_tbl := List.mem_of_getElem? (i := 488) rfl
set_option maxRecDepth 100000 in
theorem wl_k74 : (Cond.code yX5_isDay cX5_isDay 2 (some .boolean) : Cond) ∈ lw_tbl := List.mem_of_getElem? (i := 492) rfl
set_option maxRecDepth 100000 in
theorem wl_k75 : (Cond.code yX5_workOut cX5_workOut 4 none : Cond) ∈ lw_tbl := List.mem_of_getElem? (i := 496) rfl
set_option maxRecDepth 100000 in
theorem wl_k76 : (Cond.code yX3_workOut cX3_workOut 4 none : Cond) ∈ lw_tbl := List.mem_of_getElem? (i := 500) rfl
set_option maxRecDepth 100000 in
theorem wl_k77 : (Cond.code yX3_startOf cX3_startOf 2 (some .int) : Cond) ∈ lw_tbl := List.mem_of_getElem? (i := 504) rfl
set_option maxRecDepth 100000 in
theorem wl_k78 : (Cond.code yX3_chaseStart cX3_chaseStart 4 (some .int) : Cond) ∈ lw_tbl := List.mem_of_getElem? (i := 508) rfl
set_option maxRecDepth 100000 in
theorem wl_k79 : (Cond.code yX0_hasTime cX0_hasTime 1 (some .boolean) : Cond) ∈ lw_tbl := List.mem_of_getElem? (i := 513) rfl
set_option maxRecDepth 100000 in
theorem wl_k80 : (Cond.code yX0_workOut cX0_workOut 5 none : Cond) ∈ lw_tbl := List.mem_of_getElem? (i := 518) rfl
set_option maxRecDepth 100000 in
theorem wl_k81 : (Cond.code yX0_known cX0_known 5 (some .int) : Cond) ∈ lw_tbl := List.mem_of_getElem? (i := 522) rfl
set_option maxRecDepth 100000 in
theorem wl_k82 : (Cond.code yX0_sinceStart cX0_sinceStart 2 (some .int) : Cond) ∈ lw_tbl := List.mem_of_getElem? (i := 539) rfl
set_option maxRecDepth 100000 in
theorem wl_k83 : (Cond.code yX0_addShooting cX0_addShooting 11 none : Cond) ∈ lw_tbl := List.mem_of_getElem? (i := 526) rfl
set_option maxRecDepth 100000 in
theorem wl_k84 : (Cond.code Lib.Math.max.name Lib.Math.max.code 2 (some .int) : Cond) ∈ lw_tbl := List.mem_of_getElem? (i := 535) rfl
set_option maxRecDepth 100000 in
theorem wl_k85 : (Cond.code yJ6_bitCount_0f7a4 cJ6_bitCount_0f7a4 1 (some .int) : Cond) ∈ lw_tbl := List.mem_of_getElem? (i := 529) rfl
set_option maxRecDepth 100000 in
theorem wl_k86 : (Cond.code yX3_firstPlace cX3_firstPlace 5 (some .int) : Cond) ∈ lw_tbl := List.mem_of_getElem? (i := 543) rfl
set_option maxRecDepth 100000 in
theorem wl_k87 : (Cond.code yX3_lastPlace cX3_lastPlace 5 (some .int) : Cond) ∈ lw_tbl := List.mem_of_getElem? (i := 547) rfl
set_option maxRecDepth 100000 in
theorem wl_k88 : (Cond.code yX6_time cX6_time 6 (some .int) : Cond) ∈ lw_tbl := List.mem_of_getElem? (i := 957) rfl
set_option maxRecDepth 100000 in
theorem wl_k89 : (Cond.code yX6_isDay cX6_isDay 2 (some .boolean) : Cond) ∈ lw_tbl := List.mem_of_getElem? (i := 961) rfl
set_option maxRecDepth 100000 in
theorem wl_k90 : (Cond.code yX6_workAll cX6_workAll 5 none : Cond) ∈ lw_tbl := List.mem_of_getElem? (i := 965) rfl
set_option maxRecDepth 100000 in
theorem wl_k91 : (Cond.code yX6_work cX6_work 12 none : Cond) ∈ lw_tbl := List.mem_of_getElem? (i := 969) rfl
set_option maxRecDepth 100000 in
theorem wl_k92 : (Cond.code yX6_known cX6_known 7 (some .int) : Cond) ∈ lw_tbl := List.mem_of_getElem? (i := 981) rfl
set_option maxRecDepth 100000 in
theorem wl_k93 : (Cond.code yX6_hits cX6_hits 3 (some .int) : Cond) ∈ lw_tbl := List.mem_of_getElem? (i := 984) rfl
set_option maxRecDepth 100000 in
theorem wl_k94 : (Cond.code yX6_startOf cX6_startOf 5 (some .int) : Cond) ∈ lw_tbl := List.mem_of_getElem? (i := 973) rfl
set_option maxRecDepth 100000 in
theorem wl_k95 : (Cond.code yX6_least cX6_least 4 (some .int) : Cond) ∈ lw_tbl := List.mem_of_getElem? (i := 977) rfl
set_option maxRecDepth 100000 in
theorem wl_k96 : (Cond.code yX6_placed cX6_placed 8 (some .int) : Cond) ∈ lw_tbl := List.mem_of_getElem? (i := 988) rfl
set_option maxRecDepth 100000 in
theorem wl_k97 : (Cond.code yX5_split cX5_split 7 (some .int) : Cond) ∈ lw_tbl := List.mem_of_getElem? (i := 551) rfl
set_option maxRecDepth 100000 in
theorem wl_k98 : (Cond.code yX6_split cX6_split 7 (some .int) : Cond) ∈ lw_tbl := List.mem_of_getElem? (i := 992) rfl
set_option maxRecDepth 100000 in
theorem wl_k99 : (Cond.code yX5_order cX5_order 6 (some .int) : Cond) ∈ lw_tbl := List.mem_of_getElem? (i := 557) rfl
set_option maxRecDepth 100000 in
theorem wl_k100 : (Cond.code yX3_aheadInOrder cX3_aheadInOrder 5 (some .int) : Cond) ∈ lw_tbl := List.mem_of_getElem? (i := 562) rfl
set_option maxRecDepth 100000 in
theorem wl_k101 : (Cond.code yX6_order cX6_order 8 (some .int) : Cond) ∈ lw_tbl := List.mem_of_getElem? (i := 996) rfl
set_option maxRecDepth 100000 in
theorem wl_k102 : (Cond.code yX5_points cX5_points 3 (some .int) : Cond) ∈ lw_tbl := List.mem_of_getElem? (i := 566) rfl
set_option maxRecDepth 100000 in
theorem wl_k103 : (Cond.code yX5_addUpCup cX5_addUpCup 3 none : Cond) ∈ lw_tbl := List.mem_of_getElem? (i := 570) rfl
set_option maxRecDepth 100000 in
theorem wl_k104 : (Cond.code yX5_addToCup cX5_addToCup 4 none : Cond) ∈ lw_tbl := List.mem_of_getElem? (i := 574) rfl
set_option maxRecDepth 100000 in
theorem wl_k105 : (Cond.code yX6_points cX6_points 3 (some .int) : Cond) ∈ lw_tbl := List.mem_of_getElem? (i := 1000) rfl
set_option maxRecDepth 100000 in
theorem wl_k106 : (Cond.code yX6_cup cX6_cup 6 none : Cond) ∈ lw_tbl := List.mem_of_getElem? (i := 1004) rfl
set_option maxRecDepth 100000 in
theorem wl_k107 : (Cond.code yX5_standing cX5_standing 3 (some .int) : Cond) ∈ lw_tbl := List.mem_of_getElem? (i := 579) rfl
set_option maxRecDepth 100000 in
theorem wl_k108 : (Cond.code yX5_standingInCup cX5_standingInCup 4 (some .int) : Cond) ∈ lw_tbl := List.mem_of_getElem? (i := 583) rfl
set_option maxRecDepth 100000 in
theorem wl_k109 : (Cond.code yX6_standing cX6_standing 3 (some .int) : Cond) ∈ lw_tbl := List.mem_of_getElem? (i := 1008) rfl
set_option maxRecDepth 100000 in
theorem wl_k110 : (Cond.code yX6_stands cX6_stands 4 (some .int) : Cond) ∈ lw_tbl := List.mem_of_getElem? (i := 1012) rfl
set_option maxRecDepth 100000 in
theorem wl_k111 : (Cond.code yX5_starters cX5_starters 5 (some .int) : Cond) ∈ lw_tbl := List.mem_of_getElem? (i := 587) rfl
set_option maxRecDepth 100000 in
theorem wl_k112 : (Cond.code yX6_starters cX6_starters 5 (some .int) : Cond) ∈ lw_tbl := List.mem_of_getElem? (i := 1016) rfl
set_option maxRecDepth 100000 in
theorem wl_k113 : (Cond.code yX5_count cX5_count 2 (some .int) : Cond) ∈ lw_tbl := List.mem_of_getElem? (i := 592) rfl
set_option maxRecDepth 100000 in
theorem wl_k114 : (Cond.code yX6_count cX6_count 2 (some .int) : Cond) ∈ lw_tbl := List.mem_of_getElem? (i := 1020) rfl
set_option maxRecDepth 100000 in
theorem wl_k115 : (Cond.code yX5_look cX5_look 4 (some .int) : Cond) ∈ lw_tbl := List.mem_of_getElem? (i := 601) rfl
def wl_c : List Cond := [.code yX5_init cX5_init 1 none, .code objectInit ⟨#[0xb1]⟩ 1 none, .code yX6_init cX6_init 2 none, .code yX5_feed cX5_feed 6 (some .int), .code yX5_putOnTape cX5_putOnTape 3 none, .code yX6_feed cX6_feed 8 (some .int), .code yX5_formats cX5_formats 4 (some .int), .code yX4_init cX4_init 3 none, .code Lib.Math.min.name Lib.Math.min.code 2 (some .int), .code yX4_readFormats cX4_readFormats 2 (some .boolean), .code yX4_step cX4_step 1 none, .code yX4_sortAt cX4_sortAt 3 (some .int), .code yX4_readFormat cX4_readFormat 3 (some .boolean), .code yX4_readWord cX4_readWord 2 (some .boolean), .code yX4_isWord cX4_isWord 3 (some .boolean), .code yJ0_length_8abf5 cJ0_length_8abf5 1 (some .int), .code yJ0_coder_7d493 cJ0_coder_7d493 1 (some .byte), .code yJ0_charAt_5068e cJ0_charAt_5068e 2 (some .char), .code yJ0_isLatin1_aae02 cJ0_isLatin1_aae02 1 (some .boolean), .code yJ1_charAt_3b067 cJ1_charAt_3b067 2 (some .char), .code yJ0_checkIndex_df160 cJ0_checkIndex_df160 2 none, .code yJ3_checkIndex_8e157 cJ3_checkIndex_8e157 3 (some .int), .code yX4_fail cX4_fail 2 (some .boolean), .code yX2_init cX2_init 2 none, .code yX4_readSign cX4_readSign 2 (some .boolean), .code yX4_readLaps cX4_readLaps 2 (some .boolean), .code yX4_readNumber cX4_readNumber 4 (some .boolean), .code yX4_readShootings cX4_readShootings 4 (some .boolean), .code yX4_readSpares cX4_readSpares 2 (some .boolean), .code yX4_readMiss cX4_readMiss 2 (some .boolean), .code yX4_readStart cX4_readStart 3 (some .boolean), .code yX6_formats cX6_formats 4 (some .int), .code yX6_format cX6_format 2 (some .boolean), .code yX6_sign cX6_sign 2 (some .boolean), .code yX6_wrong cX6_wrong 3 (some .boolean), .code yX6_take cX6_take 1 none, .code yX6_isDigit cX6_isDigit 2 (some .boolean), .code yX6_isSmall cX6_isSmall 2 (some .boolean), .code yX6_wordAt cX6_wordAt 8 (some .int), .code yX6_word cX6_word 2 (some .boolean), .code yX6_starts cX6_starts 3 (some .boolean), .code yX6_number cX6_number 3 (some .boolean), .code yX6_shots cX6_shots 4 (some .boolean), .code yX5_fault cX5_fault 2 (some .int), .code yX6_fault cX6_fault 2 (some .int), .code yX5_pass cX5_pass 2 (some .int), .code yX6_pass cX6_pass 2 (some .int), .code yX5_racer cX5_racer 2 (some .int), .code yX5_isNation cX5_isNation 1 (some .boolean), .code yX6_racer cX6_racer 2 (some .int), .code yX5_race cX5_race 6 (some .int), .code yX5_raceAt cX5_raceAt 2 (some (.object "SkiShots$Race")), .code yX3_init cX3_init 4 none, .code yX6_race cX6_race 3 (some .int), .code yX6_isRace cX6_isRace 2 (some .boolean), .code yX5_enter cX5_enter 4 (some .int), .code yX5_isRacer cX5_isRacer 2 (some .boolean), .code yX3_entryOf cX3_entryOf 3 (some (.object "SkiShots$Entry")), .code yX3_add cX3_add 2 none, .code yX0_init cX0_init 2 none, .code yX6_enter cX6_enter 3 (some .int), .code yX6_isRacer cX6_isRacer 2 (some .boolean), .code yX5_tell cX5_tell 8 (some .int), .code yX2_hasEvent cX2_hasEvent 3 (some .boolean), .code yX5_isValue cX5_isValue 2 (some .boolean), .code yX1_init cX1_init 6 none, .code yX6_tell cX6_tell 6 (some .int), .code yX6_isIn cX6_isIn 3 (some .boolean), .code yX6_can cX6_can 5 (some .boolean), .code yX6_look cX6_look 3 (some .int), .code yX6_fails cX6_fails 2 (some .int), .code yX5_entry cX5_entry 4 (some .int), .code yX6_entry cX6_entry 3 (some .int), .code yX5_time cX5_time 7 (some .int), .code yX5_isDay cX5_isDay 2 (some .boolean), .code yX5_workOut cX5_workOut 4 none, .code yX3_workOut cX3_workOut 4 none, .code yX3_startOf cX3_startOf 2 (some .int), .code yX3_chaseStart cX3_chaseStart 4 (some .int), .code yX0_hasTime cX0_hasTime 1 (some .boolean), .code yX0_workOut cX0_workOut 5 none, .code yX0_known cX0_known 5 (some .int), .code yX0_sinceStart cX0_sinceStart 2 (some .int), .code yX0_addShooting cX0_addShooting 11 none, .code Lib.Math.max.name Lib.Math.max.code 2 (some .int), .code yJ6_bitCount_0f7a4 cJ6_bitCount_0f7a4 1 (some .int), .code yX3_firstPlace cX3_firstPlace 5 (some .int), .code yX3_lastPlace cX3_lastPlace 5 (some .int), .code yX6_time cX6_time 6 (some .int), .code yX6_isDay cX6_isDay 2 (some .boolean), .code yX6_workAll cX6_workAll 5 none, .code yX6_work cX6_work 12 none, .code yX6_known cX6_known 7 (some .int), .code yX6_hits cX6_hits 3 (some .int), .code yX6_startOf cX6_startOf 5 (some .int), .code yX6_least cX6_least 4 (some .int), .code yX6_placed cX6_placed 8 (some .int), .code yX5_split cX5_split 7 (some .int), .code yX6_split cX6_split 7 (some .int), .code yX5_order cX5_order 6 (some .int), .code yX3_aheadInOrder cX3_aheadInOrder 5 (some .int), .code yX6_order cX6_order 8 (some .int), .code yX5_points cX5_points 3 (some .int), .code yX5_addUpCup cX5_addUpCup 3 none, .code yX5_addToCup cX5_addToCup 4 none, .code yX6_points cX6_points 3 (some .int), .code yX6_cup cX6_cup 6 none, .code yX5_standing cX5_standing 3 (some .int), .code yX5_standingInCup cX5_standingInCup 4 (some .int), .code yX6_standing cX6_standing 3 (some .int), .code yX6_stands cX6_stands 4 (some .int), .code yX5_starters cX5_starters 5 (some .int), .code yX6_starters cX6_starters 5 (some .int), .code yX5_count cX5_count 2 (some .int), .code yX6_count cX6_count 2 (some .int), .code yX5_look cX5_look 4 (some .int)]
theorem wl_c_in : ∀ w ∈ wl_c, w ∈ lw_tbl := List.forall_mem_cons.mpr ⟨wl_k0, List.forall_mem_cons.mpr ⟨wl_k1, List.forall_mem_cons.mpr ⟨wl_k2, List.forall_mem_cons.mpr ⟨wl_k3, List.forall_mem_cons.mpr ⟨wl_k4, List.forall_mem_cons.mpr ⟨wl_k5, List.forall_mem_cons.mpr ⟨wl_k6, List.forall_mem_cons.mpr ⟨wl_k7, List.forall_mem_cons.mpr ⟨wl_k8, List.forall_mem_cons.mpr ⟨wl_k9, List.forall_mem_cons.mpr ⟨wl_k10, List.forall_mem_cons.mpr ⟨wl_k11, List.forall_mem_cons.mpr ⟨wl_k12, List.forall_mem_cons.mpr ⟨wl_k13, List.forall_mem_cons.mpr ⟨wl_k14, List.forall_mem_cons.mpr ⟨wl_k15, List.forall_mem_cons.mpr ⟨wl_k16, List.forall_mem_cons.mpr ⟨wl_k17, List.forall_mem_cons.mpr ⟨wl_k18, List.forall_mem_cons.mpr ⟨wl_k19, List.forall_mem_cons.mpr ⟨wl_k20, List.forall_mem_cons.mpr ⟨wl_k21, List.forall_mem_cons.mpr ⟨wl_k22, List.forall_mem_cons.mpr ⟨wl_k23, List.forall_mem_cons.mpr ⟨wl_k24, List.forall_mem_cons.mpr ⟨wl_k25, List.forall_mem_cons.mpr ⟨wl_k26, List.forall_mem_cons.mpr ⟨wl_k27, List.forall_mem_cons.mpr ⟨wl_k28, List.forall_mem_cons.mpr ⟨wl_k29, List.forall_mem_cons.mpr ⟨wl_k30, List.forall_mem_cons.mpr ⟨wl_k31, List.forall_mem_cons.mpr ⟨wl_k32, List.forall_mem_cons.mpr ⟨wl_k33, List.forall_mem_cons.mpr ⟨wl_k34, List.forall_mem_cons.mpr ⟨wl_k35, List.forall_mem_cons.mpr ⟨wl_k36, List.forall_mem_cons.mpr ⟨wl_k37, List.forall_mem_cons.mpr ⟨wl_k38, List.forall_mem_cons.mpr ⟨wl_k39, List.forall_mem_cons.mpr ⟨wl_k40, List.forall_mem_cons.mpr ⟨wl_k41, List.forall_mem_cons.mpr ⟨wl_k42, List.forall_mem_cons.mpr ⟨wl_k43, List.forall_mem_cons.mpr ⟨wl_k44, List.forall_mem_cons.mpr ⟨wl_k45, List.forall_mem_cons.mpr ⟨wl_k46, List.forall_mem_cons.mpr ⟨wl_k47, List.forall_mem_cons.mpr ⟨wl_k48, List.forall_mem_cons.mpr ⟨wl_k49, List.forall_mem_cons.mpr ⟨wl_k50, List.forall_mem_cons.mpr ⟨wl_k51, List.forall_mem_cons.mpr ⟨wl_k52, List.forall_mem_cons.mpr ⟨wl_k53, List.forall_mem_cons.mpr ⟨wl_k54, List.forall_mem_cons.mpr ⟨wl_k55, List.forall_mem_cons.mpr ⟨wl_k56, List.forall_mem_cons.mpr ⟨wl_k57, List.forall_mem_cons.mpr ⟨wl_k58, List.forall_mem_cons.mpr ⟨wl_k59, List.forall_mem_cons.mpr ⟨wl_k60, List.forall_mem_cons.mpr ⟨wl_k61, List.forall_mem_cons.mpr ⟨wl_k62, List.forall_mem_cons.mpr ⟨wl_k63, List.forall_mem_cons.mpr ⟨wl_k64, List.forall_mem_cons.mpr ⟨wl_k65, List.forall_mem_cons.mpr ⟨wl_k66, List.forall_mem_cons.mpr ⟨wl_k67, List.forall_mem_cons.mpr ⟨wl_k68, List.forall_mem_cons.mpr ⟨wl_k69, List.forall_mem_cons.mpr ⟨wl_k70, List.forall_mem_cons.mpr ⟨wl_k71, List.forall_mem_cons.mpr ⟨wl_k72, List.forall_mem_cons.mpr ⟨wl_k73, List.forall_mem_cons.mpr ⟨wl_k74, List.forall_mem_cons.mpr ⟨wl_k75, List.forall_mem_cons.mpr ⟨wl_k76, List.forall_mem_cons.mpr ⟨wl_k77, List.forall_mem_cons.mpr ⟨wl_k78, List.forall_mem_cons.mpr ⟨wl_k79, List.forall_mem_cons.mpr ⟨wl_k80, List.forall_mem_cons.mpr ⟨wl_k81, List.forall_mem_cons.mpr ⟨wl_k82, List.forall_mem_cons.mpr ⟨wl_k83, List.forall_mem_cons.mpr ⟨wl_k84, List.forall_mem_cons.mpr ⟨wl_k85, List.forall_mem_cons.mpr ⟨wl_k86, List.forall_mem_cons.mpr ⟨wl_k87, List.forall_mem_cons.mpr ⟨wl_k88, List.forall_mem_cons.mpr ⟨wl_k89, List.forall_mem_cons.mpr ⟨wl_k90, List.forall_mem_cons.mpr ⟨wl_k91, List.forall_mem_cons.mpr ⟨wl_k92, List.forall_mem_cons.mpr ⟨wl_k93, List.forall_mem_cons.mpr ⟨wl_k94, List.forall_mem_cons.mpr ⟨wl_k95, List.forall_mem_cons.mpr ⟨wl_k96, List.forall_mem_cons.mpr ⟨wl_k97, List.forall_mem_cons.mpr ⟨wl_k98, List.forall_mem_cons.mpr ⟨wl_k99, List.forall_mem_cons.mpr ⟨wl_k100, List.forall_mem_cons.mpr ⟨wl_k101, List.forall_mem_cons.mpr ⟨wl_k102, List.forall_mem_cons.mpr ⟨wl_k103, List.forall_mem_cons.mpr ⟨wl_k104, List.forall_mem_cons.mpr ⟨wl_k105, List.forall_mem_cons.mpr ⟨wl_k106, List.forall_mem_cons.mpr ⟨wl_k107, List.forall_mem_cons.mpr ⟨wl_k108, List.forall_mem_cons.mpr ⟨wl_k109, List.forall_mem_cons.mpr ⟨wl_k110, List.forall_mem_cons.mpr ⟨wl_k111, List.forall_mem_cons.mpr ⟨wl_k112, List.forall_mem_cons.mpr ⟨wl_k113, List.forall_mem_cons.mpr ⟨wl_k114, List.forall_mem_cons.mpr ⟨wl_k115, fun _ h => absurd h List.not_mem_nil⟩⟩⟩⟩⟩⟩⟩⟩⟩⟩⟩⟩⟩⟩⟩⟩⟩⟩⟩⟩⟩⟩⟩⟩⟩⟩⟩⟩⟩⟩⟩⟩⟩⟩⟩⟩⟩⟩⟩⟩⟩⟩⟩⟩⟩⟩⟩⟩⟩⟩⟩⟩⟩⟩⟩⟩⟩⟩⟩⟩⟩⟩⟩⟩⟩⟩⟩⟩⟩⟩⟩⟩⟩⟩⟩⟩⟩⟩⟩⟩⟩⟩⟩⟩⟩⟩⟩⟩⟩⟩⟩⟩⟩⟩⟩⟩⟩⟩⟩⟩⟩⟩⟩⟩⟩⟩⟩⟩⟩⟩⟩⟩⟩⟩⟩⟩
theorem wl_x0_in : ∀ w ∈ wsX00, w ∈ lw_tbl := by decide +kernel
theorem wl_x1_in : ∀ w ∈ wsX10, w ∈ lw_tbl := by decide +kernel
theorem wl_x2_in : ∀ w ∈ wsX20, w ∈ lw_tbl := by decide +kernel
theorem wl_x3_in : ∀ w ∈ wsX30, w ∈ lw_tbl := by decide +kernel
theorem wl_x4_in : ∀ w ∈ wsX40, w ∈ lw_tbl := by decide +kernel
theorem wl_x5_in : ∀ w ∈ wsX50, w ∈ lw_tbl := by decide +kernel
theorem wl_x6_in : ∀ w ∈ wsX60, w ∈ lw_tbl := by decide +kernel
theorem wl_pl {tbl ws : List Cond} (ps : List Nat) (h : ws.map some = ps.map (fun i => tbl[i]?)) : ∀ w ∈ ws, w ∈ tbl := by
  intro w hw
  have h1 : some w ∈ ws.map some := List.mem_map.mpr ⟨w, hw, rfl⟩
  rw [h] at h1
  obtain ⟨i, -, hi⟩ := List.mem_map.mp h1
  exact List.mem_of_getElem? hi
def wl_o0 : List Cond := [.classLink RL 8 RX5, .instantiable RX5 13, .initialized RX5, .classLink RL 18 RX6, .instantiable RX6 52, .initialized RX6, .arrayClass .long, .methodLink RX5 1 objectInit, .instanceMethod objectInit, .arrayClass .byte, .fieldLink RX5 9 "SkiShots" "tape" "[B", .classLink RX5 13 RX2, .fieldLink RX5 15 "SkiShots" "formatsByName" "[LSkiShots$Format;", .fieldLink RX5 19 "SkiShots" "latestFaultPlace" "I"]
theorem wl_o0_in : ∀ w ∈ wl_o0, w ∈ lw_tbl := wl_pl [53, 54, 35, 684, 685, 36, 1021, 58, 59, 105, 65, 61, 67, 70] (by decide +kernel)
def wl_o1 : List Cond := [.arrayClass .int, .fieldLink RX5 23 "SkiShots" "nations" "[I", .classLink RX5 27 RX3, .fieldLink RX5 29 "SkiShots" "races" "[LSkiShots$Race;", .fieldLink RX5 33 "SkiShots" "cup" "[I", .methodLink RL 17 yX5_init, .instanceMethod yX5_init, .methodLink RX6 1 objectInit, .fieldLink RX6 7 "SkiShotsModel" "tape" "[I", .fieldLink RX6 13 "SkiShotsModel" "laps" "[I", .fieldLink RX6 16 "SkiShotsModel" "shootMany" "[I", .fieldLink RX6 19 "SkiShotsModel" "shoot" "[I", .fieldLink RX6 22 "SkiShotsModel" "spares" "[I", .arrayClass .boolean]
theorem wl_o1_in : ∀ w ∈ wl_o1, w ∈ lw_tbl := wl_pl [106, 72, 63, 74, 77, 55, 56, 689, 690, 695, 696, 697, 698, 847] (by decide +kernel)
def wl_o2 : List Cond := [.fieldLink RX6 25 "SkiShotsModel" "isLoop" "[Z", .fieldLink RX6 29 "SkiShotsModel" "cost" "[I", .fieldLink RX6 32 "SkiShotsModel" "startHow" "[I", .fieldLink RX6 35 "SkiShotsModel" "startNumber" "[I", .fieldLink RX6 38 "SkiShotsModel" "faultPlace" "I", .fieldLink RX6 42 "SkiShotsModel" "nation" "[I", .fieldLink RX6 45 "SkiShotsModel" "rName" "[I", .fieldLink RX6 48 "SkiShotsModel" "rLaps" "[I", .fieldLink RX6 51 "SkiShotsModel" "rShoots" "[I", .fieldLink RX6 54 "SkiShotsModel" "rSpares" "[I", .fieldLink RX6 57 "SkiShotsModel" "rLoop" "[Z", .fieldLink RX6 60 "SkiShotsModel" "rCost" "[I", .fieldLink RX6 63 "SkiShotsModel" "rHow" "[I", .fieldLink RX6 66 "SkiShotsModel" "rNumber" "[I"]
theorem wl_o2_in : ∀ w ∈ wl_o2, w ∈ lw_tbl := wl_pl [699, 700, 701, 702, 704, 706, 708, 709, 710, 711, 712, 713, 714, 715] (by decide +kernel)
def wl_o3 : List Cond := [.fieldLink RX6 69 "SkiShotsModel" "rBy" "[I", .fieldLink RX6 72 "SkiShotsModel" "rEntries" "[I", .fieldLink RX6 75 "SkiShotsModel" "rEvents" "[I", .fieldLink RX6 78 "SkiShotsModel" "entries" "[I", .fieldLink RX6 81 "SkiShotsModel" "entryOf" "[I", .fieldLink RX6 84 "SkiShotsModel" "tRace" "[I", .fieldLink RX6 87 "SkiShotsModel" "tRacer" "[I", .fieldLink RX6 90 "SkiShotsModel" "tSort" "[I", .fieldLink RX6 93 "SkiShotsModel" "tK" "[I", .fieldLink RX6 96 "SkiShotsModel" "tV" "[I", .fieldLink RX6 99 "SkiShotsModel" "tDay" "[I", .fieldLink RX6 102 "SkiShotsModel" "words" "[I", .fieldLink RX6 105 "SkiShotsModel" "start" "[I", .fieldLink RX6 108 "SkiShotsModel" "low" "[I"]
theorem wl_o3_in : ∀ w ∈ wl_o3, w ∈ lw_tbl := wl_pl [716, 717, 718, 719, 720, 722, 723, 724, 725, 726, 727, 728, 735, 736] (by decide +kernel)
def wl_o4 : List Cond := [.fieldLink RX6 111 "SkiShotsModel" "high" "[I", .fieldLink RX6 114 "SkiShotsModel" "missLow" "[I", .fieldLink RX6 117 "SkiShotsModel" "missHigh" "[I", .fieldLink RX6 120 "SkiShotsModel" "line" "[I", .fieldLink RX6 123 "SkiShotsModel" "sums" "[I", .methodLink RL 20 yX6_init, .instanceMethod yX6_init, .fieldLink RX5 36 "SkiShots" "tapeLength" "I", .methodLink RX5 39 yX5_putOnTape, .instanceMethod yX5_putOnTape, .selects RX5 yX5_putOnTape yX5_putOnTape, .methodLink RL 21 yX5_feed, .instanceMethod yX5_feed, .selects RX5 yX5_feed yX5_feed]
theorem wl_o4_in : ∀ w ∈ wl_o4, w ∈ lw_tbl := wl_pl [737, 738, 739, 740, 741, 686, 687, 66, 111, 113, 0, 107, 108, 109] (by decide +kernel)
def wl_o5 : List Cond := [.fieldLink RX6 129 "SkiShotsModel" "tapeSize" "I", .fieldLink RX6 126 "SkiShotsModel" "thrown" "I", .methodLink RL 25 yX6_feed, .instanceMethod yX6_feed, .selects RX6 yX6_feed yX6_feed, .classLink RX5 43 RX4, .instantiable RX4 10, .initialized RX4, .methodLink RX5 45 yX4_init, .instanceMethod yX4_init, .methodLink RX4 3 objectInit, .fieldLink RX4 9 "SkiShots$Reader" "text" "[B", .methodLink RX4 15 Lib.Math.min.name, .static Lib.Math.min.name]
theorem wl_o5_in : ∀ w ∈ wl_o5, w ∈ lw_tbl := wl_pl [691, 692, 848, 849, 850, 119, 120, 37, 121, 122, 124, 129, 125, 126] (by decide +kernel)
def wl_o6 : List Cond := [.initialized "java/lang/Math", .fieldLink RX4 21 "SkiShots$Reader" "length" "I", .classLink RX4 25 RX2, .fieldLink RX4 27 "SkiShots$Reader" "found" "[LSkiShots$Format;", .fieldLink RX4 31 "SkiShots$Reader" "faultPlace" "I", .methodLink RX5 48 yX4_readFormats, .instanceMethod yX4_readFormats, .selects RX4 yX4_readFormats yX4_readFormats, .methodLink RX4 34 yX4_step, .instanceMethod yX4_step, .selects RX4 yX4_step yX4_step, .fieldLink RX4 133 "SkiShots$Reader" "behind" "I", .methodLink RX4 149 yX4_sortAt, .instanceMethod yX4_sortAt]
theorem wl_o6_in : ∀ w ∈ wl_o6, w ∈ lw_tbl := wl_pl [38, 130, 128, 131, 137, 164, 165, 166, 168, 169, 170, 141, 172, 173] (by decide +kernel)
def wl_o7 : List Cond := [.selects RX4 yX4_sortAt yX4_sortAt, .fieldLink RX4 37 "SkiShots$Reader" "sort" "I", .fieldLink RX4 54 "SkiShots$Reader" "place" "I", .methodLink RX4 40 yX4_readFormat, .instanceMethod yX4_readFormat, .selects RX4 yX4_readFormat yX4_readFormat, .methodLink RX4 50 yX4_readWord, .instanceMethod yX4_readWord, .selects RX4 yX4_readWord yX4_readWord, .methodLink RX4 107 yX4_isWord, .instanceMethod yX4_isWord, .selects RX4 yX4_isWord yX4_isWord, .methodLink RX4 140 yJ0_length_8abf5, .instanceMethod yJ0_length_8abf5]
theorem wl_o7_in : ∀ w ∈ wl_o7, w ∈ lw_tbl := wl_pl [174, 139, 140, 176, 177, 178, 181, 182, 183, 185, 186, 187, 189, 190] (by decide +kernel)
def wl_o8 : List Cond := [.selects RJ0 yJ0_length_8abf5 yJ0_length_8abf5, .initialized RJ0, .fieldLink RJ0 9 "java/lang/String" "value" "[B", .methodLink RJ0 335 yJ0_coder_7d493, .instanceMethod yJ0_coder_7d493, .selects RJ0 yJ0_coder_7d493 yJ0_coder_7d493, .fieldLink RJ0 38 "java/lang/String" "COMPACT_STRINGS" "Z", .fieldLink RJ0 15 "java/lang/String" "coder" "B", .methodLink RX4 145 yJ0_charAt_5068e, .instanceMethod yJ0_charAt_5068e, .selects RJ0 yJ0_charAt_5068e yJ0_charAt_5068e, .methodLink RJ0 492 yJ0_isLatin1_aae02, .instanceMethod yJ0_isLatin1_aae02, .selects RJ0 yJ0_isLatin1_aae02 yJ0_isLatin1_aae02]
theorem wl_o8_in : ∀ w ∈ wl_o8, w ∈ lw_tbl := wl_pl [191, 39, 1034, 193, 194, 195, 197, 1035, 199, 200, 201, 203, 204, 205] (by decide +kernel)
def wl_o9 : List Cond := [.methodLink RJ0 495 yJ1_charAt_3b067, .static yJ1_charAt_3b067, .initialized RJ1, .methodLink RJ1 9 yJ0_checkIndex_df160, .static yJ0_checkIndex_df160, .fieldLink RJ0 1053 "jdk/internal/util/Preconditions" "SIOOBE_FORMATTER" "Ljava/util/function/BiFunction;", .methodLink RJ0 1059 yJ3_checkIndex_8e157, .static yJ3_checkIndex_8e157, .initialized RJ3, .methodLink RX4 44 yX4_fail, .instanceMethod yX4_fail, .selects RX4 yX4_fail yX4_fail, .fieldLink RX4 137 "SkiShots$Reader" "fault" "I", .instantiable RX2 8]
theorem wl_o9_in : ∀ w ∈ wl_o9, w ∈ lw_tbl := wl_pl [207, 208, 40, 210, 211, 213, 215, 216, 41, 237, 238, 239, 136, 241] (by decide +kernel)
def wl_o10 : List Cond := [.initialized RX2, .methodLink RX4 57 yX2_init, .instanceMethod yX2_init, .methodLink RX2 3 objectInit, .fieldLink RX2 9 "SkiShots$Format" "name" "I", .fieldLink RX4 60 "SkiShots$Reader" "foundCount" "I", .methodLink RX4 63 yX4_readSign, .instanceMethod yX4_readSign, .selects RX4 yX4_readSign yX4_readSign, .methodLink RX4 67 yX4_readLaps, .instanceMethod yX4_readLaps, .selects RX4 yX4_readLaps yX4_readLaps, .methodLink RX4 85 yX4_readNumber, .instanceMethod yX4_readNumber]
theorem wl_o10_in : ∀ w ∈ wl_o10, w ∈ lw_tbl := wl_pl [43, 242, 243, 245, 246, 133, 284, 285, 286, 288, 289, 290, 293, 294] (by decide +kernel)
def wl_o11 : List Cond := [.selects RX4 yX4_readNumber yX4_readNumber, .fieldLink RX4 89 "SkiShots$Reader" "number" "I", .constant RX4 136 (100000), .fieldLink RX4 92 "SkiShots$Format" "laps" "I", .methodLink RX4 71 yX4_readShootings, .instanceMethod yX4_readShootings, .selects RX4 yX4_readShootings yX4_readShootings, .fieldLink RX4 96 "SkiShots$Format" "shootings" "I", .methodLink RX4 74 yX4_readSpares, .instanceMethod yX4_readSpares, .selects RX4 yX4_readSpares yX4_readSpares, .fieldLink RX4 101 "SkiShots$Format" "spares" "I", .methodLink RX4 77 yX4_readMiss, .instanceMethod yX4_readMiss]
theorem wl_o11_in : ∀ w ∈ wl_o11, w ∈ lw_tbl := wl_pl [295, 142, 297, 249, 298, 299, 300, 254, 303, 304, 305, 256, 308, 309] (by decide +kernel)
def wl_o12 : List Cond := [.selects RX4 yX4_readMiss yX4_readMiss, .fieldLink RX4 110 "SkiShots$Format" "loops" "Z", .fieldLink RX4 116 "SkiShots$Format" "missSeconds" "I", .methodLink RX4 80 yX4_readStart, .instanceMethod yX4_readStart, .selects RX4 yX4_readStart yX4_readStart, .fieldLink RX4 123 "SkiShots$Format" "startSort" "I", .fieldLink RX4 130 "SkiShots$Format" "startSeconds" "I", .fieldLink RX5 52 "SkiShots$Reader" "fault" "I", .fieldLink RX5 55 "SkiShots" "latestFault" "I", .fieldLink RX5 58 "SkiShots$Reader" "faultPlace" "I", .fieldLink RX5 61 "SkiShots$Reader" "found" "[LSkiShots$Format;", .fieldLink RX5 64 "SkiShots$Reader" "foundCount" "I", .fieldLink RX5 67 "SkiShots" "formatCount" "I"]
theorem wl_o12_in : ∀ w ∈ wl_o12, w ∈ lw_tbl := wl_pl [310, 259, 261, 315, 316, 317, 263, 266, 135, 69, 138, 132, 134, 68] (by decide +kernel)
def wl_o13 : List Cond := [.methodLink RL 26 yX5_formats, .instanceMethod yX5_formats, .selects RX5 yX5_formats yX5_formats, .fieldLink RX6 144 "SkiShotsModel" "kind" "I", .fieldLink RX6 191 "SkiShotsModel" "formatMany" "I", .methodLink RX6 187 yX6_format, .instanceMethod yX6_format, .selects RX6 yX6_format yX6_format, .fieldLink RX6 169 "SkiShotsModel" "read" "I", .methodLink RX6 178 yX6_sign, .instanceMethod yX6_sign, .selects RX6 yX6_sign yX6_sign, .fieldLink RX6 141 "SkiShotsModel" "place" "I", .methodLink RX6 162 yX6_wrong]
theorem wl_o13_in : ∀ w ∈ wl_o13, w ∈ lw_tbl := wl_pl [115, 116, 117, 731, 694, 873, 875, 13, 734, 885, 887, 16, 733, 881] (by decide +kernel)
def wl_o14 : List Cond := [.instanceMethod yX6_wrong, .selects RX6 yX6_wrong yX6_wrong, .fieldLink RX6 132 "SkiShotsModel" "fault" "I", .fieldLink RX6 155 "SkiShotsModel" "which" "I", .methodLink RX6 166 yX6_take, .instanceMethod yX6_take, .selects RX6 yX6_take yX6_take, .fieldLink RX6 138 "SkiShotsModel" "next" "I", .methodLink RX6 158 yX6_isDigit, .instanceMethod yX6_isDigit, .selects RX6 yX6_isDigit yX6_isDigit, .fieldLink RX6 135 "SkiShotsModel" "size" "I", .constant RX6 161 (99999), .methodLink RX6 147 yX6_isSmall]
theorem wl_o14_in : ∀ w ∈ wl_o14, w ∈ lw_tbl := wl_pl [883, 15, 703, 732, 856, 858, 9, 730, 868, 870, 12, 729, 872, 860] (by decide +kernel)
def wl_o15 : List Cond := [.instanceMethod yX6_isSmall, .selects RX6 yX6_isSmall yX6_isSmall, .methodLink RX6 151 yX6_wordAt, .instanceMethod yX6_wordAt, .selects RX6 yX6_wordAt yX6_wordAt, .methodLink RX6 175 yX6_word, .instanceMethod yX6_word, .selects RX6 yX6_word yX6_word, .methodLink RX6 184 yX6_starts, .instanceMethod yX6_starts, .selects RX6 yX6_starts yX6_starts, .methodLink RX6 172 yX6_number, .instanceMethod yX6_number, .selects RX6 yX6_number yX6_number]
theorem wl_o15_in : ∀ w ∈ wl_o15, w ∈ lw_tbl := wl_pl [862, 10, 864, 866, 11, 877, 879, 14, 897, 899, 19, 889, 891, 17] (by decide +kernel)
def wl_o16 : List Cond := [.methodLink RX6 181 yX6_shots, .instanceMethod yX6_shots, .selects RX6 yX6_shots yX6_shots, .methodLink RL 30 yX6_formats, .instanceMethod yX6_formats, .selects RX6 yX6_formats yX6_formats, .methodLink RL 31 yX5_fault, .instanceMethod yX5_fault, .selects RX5 yX5_fault yX5_fault, .methodLink RL 34 yX6_fault, .instanceMethod yX6_fault, .selects RX6 yX6_fault yX6_fault, .fieldLink RX5 70 "SkiShots" "today" "I", .methodLink RL 35 yX5_pass]
theorem wl_o16_in : ∀ w ∈ wl_o16, w ∈ lw_tbl := wl_pl [893, 895, 18, 852, 853, 854, 323, 324, 325, 901, 902, 903, 71, 327] (by decide +kernel)
def wl_o17 : List Cond := [.instanceMethod yX5_pass, .selects RX5 yX5_pass yX5_pass, .fieldLink RX6 194 "SkiShotsModel" "today" "I", .methodLink RL 38 yX6_pass, .instanceMethod yX6_pass, .selects RX6 yX6_pass yX6_pass, .methodLink RX5 73 yX5_isNation, .static yX5_isNation, .fieldLink RX5 77 "SkiShots" "racerCount" "I", .methodLink RL 39 yX5_racer, .instanceMethod yX5_racer, .selects RX5 yX5_racer yX5_racer, .fieldLink RX6 197 "SkiShotsModel" "racers" "I", .methodLink RL 42 yX6_racer]
theorem wl_o17_in : ∀ w ∈ wl_o17, w ∈ lw_tbl := wl_pl [328, 329, 693, 905, 906, 907, 335, 336, 73, 331, 332, 333, 705, 909] (by decide +kernel)
def wl_o18 : List Cond := [.instanceMethod yX6_racer, .selects RX6 yX6_racer yX6_racer, .fieldLink RX5 80 "SkiShots" "raceCount" "I", .methodLink RX5 83 yX5_raceAt, .instanceMethod yX5_raceAt, .selects RX5 yX5_raceAt yX5_raceAt, .fieldLink RX5 87 "SkiShots$Format" "startSort" "I", .instantiable RX3 7, .initialized RX3, .methodLink RX5 90 yX3_init, .instanceMethod yX3_init, .methodLink RX3 3 objectInit, .fieldLink RX3 9 "SkiShots$Race" "format" "LSkiShots$Format;", .fieldLink RX3 15 "SkiShots$Race" "by" "LSkiShots$Race;"]
theorem wl_o18_in : ∀ w ∈ wl_o18, w ∈ lw_tbl := wl_pl [910, 911, 75, 342, 344, 1, 264, 346, 44, 347, 348, 350, 353, 355] (by decide +kernel)
def wl_o19 : List Cond := [.fieldLink RX3 19 "SkiShots$Race" "byNumber" "I", .classLink RX3 23 RX0, .fieldLink RX3 25 "SkiShots$Race" "entries" "[LSkiShots$Entry;", .methodLink RL 43 yX5_race, .instanceMethod yX5_race, .selects RX5 yX5_race yX5_race, .fieldLink RX6 200 "SkiShotsModel" "races" "I", .methodLink RX6 203 yX6_isRace, .instanceMethod yX6_isRace, .selects RX6 yX6_isRace yX6_isRace, .methodLink RL 46 yX6_race, .instanceMethod yX6_race, .selects RX6 yX6_race yX6_race, .methodLink RX5 93 yX5_isRacer]
theorem wl_o19_in : ∀ w ∈ wl_o19, w ∈ lw_tbl := wl_pl [356, 351, 358, 338, 339, 340, 707, 917, 919, 20, 913, 914, 915, 383] (by decide +kernel)
def wl_o20 : List Cond := [.instanceMethod yX5_isRacer, .selects RX5 yX5_isRacer yX5_isRacer, .fieldLink RX5 96 "SkiShots$Race" "told" "I", .methodLink RX5 99 yX3_entryOf, .instanceMethod yX3_entryOf, .selects RX3 yX3_entryOf yX3_entryOf, .fieldLink RX3 29 "SkiShots$Race" "entryCount" "I", .fieldLink RX3 35 "SkiShots$Entry" "racer" "I", .methodLink RX5 103 yX3_add, .instanceMethod yX3_add, .selects RX3 yX3_add yX3_add, .instantiable RX0 10, .initialized RX0, .methodLink RX3 32 yX0_init]
theorem wl_o20_in : ∀ w ∈ wl_o20, w ∈ lw_tbl := wl_pl [385, 2, 362, 387, 388, 389, 360, 401, 391, 392, 393, 395, 45, 396] (by decide +kernel)
def wl_o21 : List Cond := [.instanceMethod yX0_init, .methodLink RX0 3 objectInit, .fieldLink RX0 9 "SkiShots$Entry" "racer" "I", .fieldLink RX5 106 "SkiShots$Race" "entryCount" "I", .methodLink RL 47 yX5_enter, .instanceMethod yX5_enter, .selects RX5 yX5_enter yX5_enter, .methodLink RX6 206 yX6_isRacer, .instanceMethod yX6_isRacer, .selects RX6 yX6_isRacer yX6_isRacer, .methodLink RL 50 yX6_enter, .instanceMethod yX6_enter, .selects RX6 yX6_enter yX6_enter, .fieldLink RX5 109 "SkiShots" "eventCount" "I"]
theorem wl_o21_in : ∀ w ∈ wl_o21, w ∈ lw_tbl := wl_pl [397, 399, 400, 361, 379, 380, 381, 925, 927, 21, 921, 922, 923, 76] (by decide +kernel)
def wl_o22 : List Cond := [.fieldLink RX5 112 "SkiShots$Race" "format" "LSkiShots$Format;", .methodLink RX5 116 yX2_hasEvent, .instanceMethod yX2_hasEvent, .selects RX2 yX2_hasEvent yX2_hasEvent, .fieldLink RX2 15 "SkiShots$Format" "laps" "I", .fieldLink RX2 18 "SkiShots$Format" "shootings" "I", .methodLink RX5 120 yX5_isValue, .static yX5_isValue, .constant RX5 227 (200000), .classLink RX5 123 RX1, .instantiable RX1 5, .initialized RX1, .fieldLink RX5 125 "SkiShots$Entry" "latest" "LSkiShots$Event;", .methodLink RX5 131 yX1_init]
theorem wl_o22_in : ∀ w ∈ wl_o22, w ∈ lw_tbl := wl_pl [354, 446, 447, 448, 248, 252, 450, 451, 453, 454, 455, 46, 404, 456] (by decide +kernel)
def wl_o23 : List Cond := [.instanceMethod yX1_init, .methodLink RX1 1 objectInit, .fieldLink RX1 7 "SkiShots$Event" "day" "I", .fieldLink RX1 13 "SkiShots$Event" "sort" "I", .fieldLink RX1 16 "SkiShots$Event" "k" "I", .fieldLink RX1 19 "SkiShots$Event" "v" "I", .fieldLink RX1 22 "SkiShots$Event" "before" "LSkiShots$Event;", .methodLink RL 51 yX5_tell, .instanceMethod yX5_tell, .selects RX5 yX5_tell yX5_tell, .methodLink RX6 210 yX6_isIn, .instanceMethod yX6_isIn, .selects RX6 yX6_isIn yX6_isIn, .methodLink RX6 213 yX6_can]
theorem wl_o23_in : ∀ w ∈ wl_o23, w ∈ lw_tbl := wl_pl [457, 459, 460, 462, 464, 466, 468, 442, 443, 444, 933, 935, 22, 937] (by decide +kernel)
def wl_o24 : List Cond := [.instanceMethod yX6_can, .selects RX6 yX6_can yX6_can, .constant RX6 209 (200000), .fieldLink RX6 217 "SkiShotsModel" "told" "I", .methodLink RL 54 yX6_tell, .instanceMethod yX6_tell, .selects RX6 yX6_tell yX6_tell, .methodLink RX6 220 yX6_fails, .instanceMethod yX6_fails, .selects RX6 yX6_fails yX6_fails, .methodLink RL 60 yX6_look, .instanceMethod yX6_look, .selects RX6 yX6_look yX6_look, .fieldLink RX5 161 "SkiShots$Race" "entries" "[LSkiShots$Entry;"]
theorem wl_o24_in : ∀ w ∈ wl_o24, w ∈ lw_tbl := wl_pl [939, 23, 941, 721, 929, 930, 931, 946, 948, 24, 942, 943, 944, 359] (by decide +kernel)
def wl_o25 : List Cond := [.fieldLink RX5 165 "SkiShots$Entry" "racer" "I", .methodLink RL 61 yX5_entry, .instanceMethod yX5_entry, .selects RX5 yX5_entry yX5_entry, .methodLink RL 64 yX6_entry, .instanceMethod yX6_entry, .selects RX6 yX6_entry yX6_entry, .methodLink RX5 168 yX5_isDay, .instanceMethod yX5_isDay, .selects RX5 yX5_isDay yX5_isDay, .methodLink RX5 171 yX5_workOut, .instanceMethod yX5_workOut, .selects RX5 yX5_workOut yX5_workOut, .methodLink RX5 228 yX3_workOut]
theorem wl_o25_in : ∀ w ∈ wl_o25, w ∈ lw_tbl := wl_pl [402, 481, 482, 483, 950, 951, 952, 489, 491, 3, 493, 495, 4, 497] (by decide +kernel)
def wl_o26 : List Cond := [.instanceMethod yX3_workOut, .selects RX3 yX3_workOut yX3_workOut, .methodLink RX3 41 yX3_startOf, .instanceMethod yX3_startOf, .selects RX3 yX3_startOf yX3_startOf, .fieldLink RX3 56 "SkiShots$Format" "startSort" "I", .fieldLink RX3 61 "SkiShots$Format" "startSeconds" "I", .methodLink RX3 64 yX3_chaseStart, .instanceMethod yX3_chaseStart, .selects RX3 yX3_chaseStart yX3_chaseStart, .methodLink RX3 67 yX3_entryOf, .methodLink RX3 49 yX0_hasTime, .instanceMethod yX0_hasTime, .selects RX0 yX0_hasTime yX0_hasTime]
theorem wl_o26_in : ∀ w ∈ wl_o26, w ∈ lw_tbl := wl_pl [498, 499, 501, 502, 503, 262, 265, 505, 506, 507, 509, 510, 511, 512] (by decide +kernel)
def wl_o27 : List Cond := [.fieldLink RX0 39 "SkiShots$Entry" "low" "I", .fieldLink RX3 53 "SkiShots$Entry" "low" "I", .fieldLink RX3 38 "SkiShots$Race" "leastLow" "I", .methodLink RX3 71 Lib.Math.min.name, .methodLink RX3 45 yX0_workOut, .instanceMethod yX0_workOut, .selects RX0 yX0_workOut yX0_workOut, .fieldLink RX0 56 "SkiShots$Entry" "leastPenalty" "I", .fieldLink RX0 59 "SkiShots$Entry" "greatestPenalty" "I", .fieldLink RX0 78 "SkiShots$Entry" "high" "I", .fieldLink RX0 62 "SkiShots$Format" "shootings" "I", .fieldLink RX0 46 "SkiShots$Entry" "struck" "Z", .fieldLink RX0 71 "SkiShots$Format" "laps" "I", .methodLink RX0 42 yX0_known]
theorem wl_o27_in : ∀ w ∈ wl_o27, w ∈ lw_tbl := wl_pl [407, 408, 363, 514, 515, 516, 517, 419, 420, 410, 253, 413, 250, 519] (by decide +kernel)
def wl_o28 : List Cond := [.instanceMethod yX0_known, .selects RX0 yX0_known yX0_known, .fieldLink RX0 19 "SkiShots$Event" "day" "I", .fieldLink RX0 33 "SkiShots$Event" "before" "LSkiShots$Event;", .fieldLink RX0 24 "SkiShots$Event" "sort" "I", .fieldLink RX0 27 "SkiShots$Event" "k" "I", .fieldLink RX0 30 "SkiShots$Event" "v" "I", .fieldLink RX0 15 "SkiShots$Entry" "latest" "LSkiShots$Event;", .methodLink RX0 74 yX0_sinceStart, .instanceMethod yX0_sinceStart, .selects RX0 yX0_sinceStart yX0_sinceStart, .fieldLink RX0 36 "SkiShots$Entry" "start" "I", .methodLink RX0 67 yX0_addShooting, .instanceMethod yX0_addShooting]
theorem wl_o28_in : ∀ w ∈ wl_o28, w ∈ lw_tbl := wl_pl [520, 521, 461, 469, 463, 465, 467, 403, 536, 537, 538, 405, 523, 524] (by decide +kernel)
def wl_o29 : List Cond := [.selects RX0 yX0_addShooting yX0_addShooting, .fieldLink RX0 89 "SkiShots$Format" "missSeconds" "I", .fieldLink RX0 50 "SkiShots$Entry" "fewestMisses" "I", .fieldLink RX0 53 "SkiShots$Entry" "mostMisses" "I", .methodLink RX0 92 Lib.Math.max.name, .static Lib.Math.max.name, .methodLink RX0 81 yJ6_bitCount_0f7a4, .static yJ6_bitCount_0f7a4, .initialized RJ6, .constant RJ6 265 (1431655765), .constant RJ6 266 (858993459), .constant RJ6 267 (252645135), .fieldLink RX0 86 "SkiShots$Format" "loops" "Z", .fieldLink RX5 175 "SkiShots$Entry" "start" "I"]
theorem wl_o29_in : ∀ w ∈ wl_o29, w ∈ lw_tbl := wl_pl [525, 260, 415, 417, 533, 534, 527, 528, 52, 530, 531, 532, 258, 406] (by decide +kernel)
def wl_o30 : List Cond := [.fieldLink RX5 178 "SkiShots$Entry" "low" "I", .fieldLink RX5 181 "SkiShots$Entry" "high" "I", .methodLink RX5 184 yX3_firstPlace, .instanceMethod yX3_firstPlace, .selects RX3 yX3_firstPlace yX3_firstPlace, .fieldLink RX3 77 "SkiShots$Entry" "high" "I", .methodLink RX5 188 yX3_lastPlace, .instanceMethod yX3_lastPlace, .selects RX3 yX3_lastPlace yX3_lastPlace, .fieldLink RX5 191 "SkiShots$Entry" "struck" "Z", .fieldLink RX5 195 "SkiShots$Entry" "fewestMisses" "I", .fieldLink RX5 198 "SkiShots$Entry" "mostMisses" "I", .methodLink RL 65 yX5_time, .instanceMethod yX5_time]
theorem wl_o30_in : ∀ w ∈ wl_o30, w ∈ lw_tbl := wl_pl [409, 412, 540, 541, 542, 411, 544, 545, 546, 414, 416, 418, 485, 486] (by decide +kernel)
def wl_o31 : List Cond := [.selects RX5 yX5_time yX5_time, .methodLink RX6 241 yX6_isDay, .instanceMethod yX6_isDay, .selects RX6 yX6_isDay yX6_isDay, .methodLink RX6 244 yX6_workAll, .instanceMethod yX6_workAll, .selects RX6 yX6_workAll yX6_workAll, .methodLink RX6 237 yX6_work, .instanceMethod yX6_work, .selects RX6 yX6_work yX6_work, .methodLink RX6 230 yX6_known, .instanceMethod yX6_known, .selects RX6 yX6_known yX6_known, .methodLink RX6 234 yX6_hits]
theorem wl_o31_in : ∀ w ∈ wl_o31, w ∈ lw_tbl := wl_pl [487, 958, 960, 25, 962, 964, 26, 966, 968, 27, 978, 980, 30, 982] (by decide +kernel)
def wl_o32 : List Cond := [.static yX6_hits, .methodLink RX6 227 yX6_startOf, .instanceMethod yX6_startOf, .selects RX6 yX6_startOf yX6_startOf, .methodLink RX6 224 yX6_least, .instanceMethod yX6_least, .selects RX6 yX6_least yX6_least, .methodLink RX6 248 yX6_placed, .instanceMethod yX6_placed, .selects RX6 yX6_placed yX6_placed, .methodLink RL 69 yX6_time, .instanceMethod yX6_time, .selects RX6 yX6_time yX6_time, .methodLink RX5 201 yX0_known]
theorem wl_o32_in : ∀ w ∈ wl_o32, w ∈ lw_tbl := wl_pl [983, 970, 972, 28, 974, 976, 29, 985, 987, 31, 954, 955, 956, 552] (by decide +kernel)
def wl_o33 : List Cond := [.methodLink RX5 205 yX0_sinceStart, .methodLink RL 70 yX5_split, .instanceMethod yX5_split, .selects RX5 yX5_split yX5_split, .methodLink RL 73 yX6_split, .instanceMethod yX6_split, .selects RX6 yX6_split yX6_split, .methodLink RX5 209 yX0_hasTime, .methodLink RX5 212 yX3_aheadInOrder, .instanceMethod yX3_aheadInOrder, .selects RX3 yX3_aheadInOrder yX3_aheadInOrder, .methodLink RL 74 yX5_order, .instanceMethod yX5_order, .selects RX5 yX5_order yX5_order]
theorem wl_o33_in : ∀ w ∈ wl_o33, w ∈ lw_tbl := wl_pl [553, 548, 549, 550, 989, 990, 991, 558, 559, 560, 561, 554, 555, 556] (by decide +kernel)
def wl_o34 : List Cond := [.methodLink RL 78 yX6_order, .instanceMethod yX6_order, .selects RX6 yX6_order yX6_order, .methodLink RX5 215 yX5_addUpCup, .instanceMethod yX5_addUpCup, .selects RX5 yX5_addUpCup yX5_addUpCup, .methodLink RX5 230 yX5_addToCup, .instanceMethod yX5_addToCup, .selects RX5 yX5_addToCup yX5_addToCup, .methodLink RX5 234 Lib.Math.max.name, .methodLink RL 79 yX5_points, .instanceMethod yX5_points, .selects RX5 yX5_points yX5_points, .methodLink RX6 252 yX6_cup]
theorem wl_o34_in : ∀ w ∈ wl_o34, w ∈ lw_tbl := wl_pl [993, 994, 995, 567, 569, 5, 571, 573, 6, 575, 563, 564, 565, 1001] (by decide +kernel)
def wl_o35 : List Cond := [.instanceMethod yX6_cup, .selects RX6 yX6_cup yX6_cup, .methodLink RL 82 yX6_points, .instanceMethod yX6_points, .selects RX6 yX6_points yX6_points, .methodLink RX5 218 yX5_standingInCup, .instanceMethod yX5_standingInCup, .selects RX5 yX5_standingInCup yX5_standingInCup, .methodLink RL 83 yX5_standing, .instanceMethod yX5_standing, .selects RX5 yX5_standing yX5_standing, .methodLink RX6 256 yX6_stands, .instanceMethod yX6_stands, .selects RX6 yX6_stands yX6_stands]
theorem wl_o35_in : ∀ w ∈ wl_o35, w ∈ lw_tbl := wl_pl [1003, 32, 997, 998, 999, 580, 582, 7, 576, 577, 578, 1009, 1011, 33] (by decide +kernel)
def wl_o36 : List Cond := [.methodLink RL 86 yX6_standing, .instanceMethod yX6_standing, .selects RX6 yX6_standing yX6_standing, .methodLink RX5 221 Lib.Math.min.name, .methodLink RL 87 yX5_starters, .instanceMethod yX5_starters, .selects RX5 yX5_starters yX5_starters, .methodLink RL 90 yX6_starters, .instanceMethod yX6_starters, .selects RX6 yX6_starters yX6_starters, .methodLink RL 91 yX5_count, .instanceMethod yX5_count, .selects RX5 yX5_count yX5_count, .methodLink RL 94 yX6_count]
theorem wl_o36_in : ∀ w ∈ wl_o36, w ∈ lw_tbl := wl_pl [1005, 1006, 1007, 588, 584, 585, 586, 1013, 1014, 1015, 589, 590, 591, 1017] (by decide +kernel)
def wl_o37 : List Cond := [.instanceMethod yX6_count, .selects RX6 yX6_count yX6_count, .codeWith yL_look cL_look 5 (some .int) [(0, 10, 13, 13), (0, 10, 17, 15)], .methodLink RL 7 yX5_look, .instanceMethod yX5_look, .selects RX5 yX5_look yX5_look, .classLink RX5 134 "java/lang/IndexOutOfBoundsException", .initialized "java/lang/IndexOutOfBoundsException", .fieldLink RX5 141 "SkiShots$Format" "name" "I", .fieldLink RX5 144 "SkiShots$Format" "laps" "I", .fieldLink RX5 147 "SkiShots$Format" "shootings" "I", .fieldLink RX5 150 "SkiShots$Format" "spares" "I", .fieldLink RX5 153 "SkiShots$Race" "byNumber" "I", .classLink RX5 156 "java/util/NoSuchElementException"]
theorem wl_o37_in : ∀ w ∈ wl_o37, w ∈ lw_tbl := by decide +kernel
def wl_o38 : List Cond := [.initialized "java/util/NoSuchElementException", .classLink RL 13 "java/lang/IndexOutOfBoundsException", .classLink RL 15 "java/util/NoSuchElementException", .methodLink RL 55 yL_look, .static yL_look, .initialized RL]
theorem wl_o38_in : ∀ w ∈ wl_o38, w ∈ lw_tbl := wl_pl [51, 596, 597, 593, 594, 34] (by decide +kernel)
theorem wl_xt_in : ∀ w ∈ (vx_atS RX5 138 "java/lang/IndexOutOfBoundsException" ["java/lang/RuntimeException", "java/lang/Exception"]).filter goodWord, w ∈ lw_tbl := by decide +kernel
theorem wl_xu_in : ∀ w ∈ (cq_at RX5 160 "java/util/NoSuchElementException" "java/lang/RuntimeException" 13 cNS ["java/lang/Exception"]).filter goodWord, w ∈ lw_tbl := by decide +kernel
