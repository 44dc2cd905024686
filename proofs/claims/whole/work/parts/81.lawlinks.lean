/-! the law: its methods, what they link, where they catch -/
abbrev kL_source : zK := (RL, cL_source, 4, ⟨9, 25, 2790, 197⟩, (some .int), "source", [(0, 9, 12, 13), (0, 9, 15, 15)])
abbrev kL_put : zK := (RL, cL_put, 6, ⟨8, 2, 12, 135⟩, (some .int), "put", [(0, 12, 15, 21), (0, 12, 19, 15)])
abbrev kL_map : zK := (RL, cL_map, 6, ⟨9, 25, 2790, 199⟩, (some .int), "map", [(0, 12, 15, 21), (0, 12, 19, 13), (0, 12, 23, 15)])
abbrev kL_filter : zK := (RL, cL_filter, 6, ⟨9, 25, 2790, 199⟩, (some .int), "filter", [(0, 12, 15, 21), (0, 12, 19, 15)])
abbrev kL_union : zK := (RL, cL_union, 5, ⟨9, 26, 2790, 201⟩, (some .int), "union", [(0, 10, 13, 21), (0, 10, 17, 15)])
abbrev kL_group : zK := (RL, cL_group, 6, ⟨9, 26, 2790, 199⟩, (some .int), "group", [(0, 12, 15, 21), (0, 12, 19, 13), (0, 12, 23, 15)])
abbrev kL_join : zK := (RL, cL_join, 6, ⟨9, 27, 2790, 201⟩, (some .int), "join", [(0, 12, 15, 21), (0, 12, 19, 13), (0, 12, 23, 15)])
abbrev kL_partitions : zK := (RL, cL_partitions, 4, ⟨8, 1, 6, 176⟩, (some .int), "partitions", [(0, 9, 12, 21)])
abbrev kL_rowsIn : zK := (RL, cL_rowsIn, 5, ⟨8, 2, 12, 178⟩, (some .int), "rowsIn", [(0, 10, 13, 21)])
abbrev kL_rows : zK := (RL, cL_rows, 4, ⟨8, 1, 6, 176⟩, (some .int), "rows", [(0, 9, 12, 21)])
abbrev kL_keyAt : zK := (RL, cL_keyAt, 6, ⟨9, 3, 18, 179⟩, (some .int), "keyAt", [(0, 12, 15, 21)])
abbrev kL_valueAt : zK := (RL, cL_valueAt, 6, ⟨9, 3, 18, 179⟩, (some .int), "valueAt", [(0, 12, 15, 21)])
abbrev kL_isBroad : zK := (RL, cL_isBroad, 4, ⟨8, 2, 12, 176⟩, (some .int), "isBroad", [(0, 16, 19, 21), (0, 16, 22, 15)])
abbrev kL_digest : zK := (RL, cL_digest, 4, ⟨8, 1, 6, 176⟩, (some .int), "digest", [(0, 9, 12, 21)])
abbrev kL_digestInPlace : zK := (RL, cL_digestInPlace, 4, ⟨8, 1, 6, 176⟩, (some .int), "digestInPlace", [(0, 9, 12, 21)])
abbrev kL_setWorkers : zK := (RL, cL_setWorkers, 4, ⟨7, 1, 6, 112⟩, (some .int), "setWorkers", [(0, 9, 12, 13)])
abbrev kL_setSlowness : zK := (RL, cL_setSlowness, 5, ⟨7, 2, 12, 113⟩, (some .int), "setSlowness", [(0, 10, 13, 21), (0, 10, 17, 13)])
abbrev kL_setMemory : zK := (RL, cL_setMemory, 4, ⟨8, 1, 6, 132⟩, (some .int), "setMemory", [(0, 9, 12, 13)])
abbrev kL_setLimit : zK := (RL, cL_setLimit, 4, ⟨8, 1, 6, 132⟩, (some .int), "setLimit", [(0, 9, 12, 13)])
abbrev kL_setRoom : zK := (RL, cL_setRoom, 4, ⟨8, 1, 6, 131⟩, (some .int), "setRoom", [(0, 9, 12, 13)])
abbrev kL_mark : zK := (RL, cL_mark, 5, ⟨8, 1, 6, 134⟩, (some .int), "mark", [(0, 17, 20, 21)])
abbrev kL_isCached : zK := (RL, cL_isCached, 4, ⟨8, 1, 6, 132⟩, (some .int), "isCached", [(0, 16, 19, 21)])
abbrev kL_stages : zK := (RL, cL_stages, 4, ⟨9, 1, 6, 205⟩, (some .int), "stages", [(0, 9, 12, 21)])
abbrev kL_outputOf : zK := (RL, cL_outputOf, 5, ⟨9, 2, 12, 206⟩, (some .int), "outputOf", [(0, 10, 13, 21)])
abbrev kL_run : zK := (RL, cL_run, 4, ⟨9, 1, 6, 207⟩, (some .int), "run", [(0, 9, 12, 21)])
abbrev kL_nodeOf : zK := (RL, cL_nodeOf, 4, ⟨8, 1, 6, 132⟩, (some .int), "nodeOf", [(0, 9, 12, 21)])
abbrev kL_partitionOf : zK := (RL, cL_partitionOf, 4, ⟨8, 1, 6, 132⟩, (some .int), "partitionOf", [(0, 9, 12, 21)])
abbrev kL_workerOf : zK := (RL, cL_workerOf, 4, ⟨8, 1, 6, 132⟩, (some .int), "workerOf", [(0, 9, 12, 21)])
abbrev kL_startOf : zK := (RL, cL_startOf, 4, ⟨8, 1, 6, 132⟩, (some .int), "startOf", [(0, 9, 12, 21)])
abbrev kL_endOf : zK := (RL, cL_endOf, 4, ⟨8, 1, 6, 132⟩, (some .int), "endOf", [(0, 9, 12, 21)])
abbrev kL_isCopy : zK := (RL, cL_isCopy, 4, ⟨8, 1, 6, 132⟩, (some .int), "isCopy", [(0, 16, 19, 21)])
abbrev kL_law : zK := (RL, cL_law, 9, ⟨12, 601024, 7293034, 460⟩, (some .boolean), "law", [])
set_option maxRecDepth 100000 in
theorem ch_L_117 : zLh RL 117 yL_source kL_source 3 := ⟨(zW_in (zTp2 (i := 219) rfl) rfl), (zW_in (zTp2 (i := 220) rfl) rfl), (zW_in (zTp1 (i := 0) rfl) rfl), (zW_in (zTp2 (i := 221) rfl) rfl), by decide, by decide, by decide +kernel⟩
set_option maxRecDepth 100000 in
theorem ch_L_127 : zLh RL 127 yL_put kL_put 5 := ⟨(zW_in (zTp3 (i := 169) rfl) rfl), (zW_in (zTp3 (i := 170) rfl) rfl), (zW_in (zTp1 (i := 0) rfl) rfl), (zW_in (zTp3 (i := 171) rfl) rfl), by decide, by decide, by decide +kernel⟩
set_option maxRecDepth 100000 in
theorem ch_L_131 : zLh RL 131 yL_map kL_map 5 := ⟨(zW_in (zTp3 (i := 221) rfl) rfl), (zW_in (zTp3 (i := 222) rfl) rfl), (zW_in (zTp1 (i := 0) rfl) rfl), (zW_in (zTp3 (i := 223) rfl) rfl), by decide, by decide, by decide +kernel⟩
set_option maxRecDepth 100000 in
theorem ch_L_134 : zLh RL 134 yL_filter kL_filter 5 := ⟨(zW_in (zTp3 (i := 235) rfl) rfl), (zW_in (zTp3 (i := 236) rfl) rfl), (zW_in (zTp1 (i := 0) rfl) rfl), (zW_in (zTp3 (i := 237) rfl) rfl), by decide, by decide, by decide +kernel⟩
set_option maxRecDepth 100000 in
theorem ch_L_137 : zLh RL 137 yL_union kL_union 4 := ⟨(zW_in (zTp4 (i := 4) rfl) rfl), (zW_in (zTp4 (i := 5) rfl) rfl), (zW_in (zTp1 (i := 0) rfl) rfl), (zW_in (zTp4 (i := 6) rfl) rfl), by decide, by decide, by decide +kernel⟩
set_option maxRecDepth 100000 in
theorem ch_L_141 : zLh RL 141 yL_group kL_group 5 := ⟨(zW_in (zTp4 (i := 14) rfl) rfl), (zW_in (zTp4 (i := 15) rfl) rfl), (zW_in (zTp1 (i := 0) rfl) rfl), (zW_in (zTp4 (i := 16) rfl) rfl), by decide, by decide, by decide +kernel⟩
set_option maxRecDepth 100000 in
theorem ch_L_144 : zLh RL 144 yL_join kL_join 5 := ⟨(zW_in (zTp4 (i := 24) rfl) rfl), (zW_in (zTp4 (i := 25) rfl) rfl), (zW_in (zTp1 (i := 0) rfl) rfl), (zW_in (zTp4 (i := 26) rfl) rfl), by decide, by decide, by decide +kernel⟩
set_option maxRecDepth 100000 in
theorem ch_L_151 : zLh RL 151 yL_partitions kL_partitions 3 := ⟨(zW_in (zTp4 (i := 35) rfl) rfl), (zW_in (zTp4 (i := 36) rfl) rfl), (zW_in (zTp1 (i := 0) rfl) rfl), (zW_in (zTp4 (i := 37) rfl) rfl), by decide, by decide, by decide +kernel⟩
set_option maxRecDepth 100000 in
theorem ch_L_154 : zLh RL 154 yL_rowsIn kL_rowsIn 4 := ⟨(zW_in (zTp4 (i := 177) rfl) rfl), (zW_in (zTp4 (i := 178) rfl) rfl), (zW_in (zTp1 (i := 0) rfl) rfl), (zW_in (zTp4 (i := 179) rfl) rfl), by decide, by decide, by decide +kernel⟩
set_option maxRecDepth 100000 in
theorem ch_L_157 : zLh RL 157 yL_rows kL_rows 3 := ⟨(zW_in (zTp4 (i := 194) rfl) rfl), (zW_in (zTp4 (i := 195) rfl) rfl), (zW_in (zTp1 (i := 0) rfl) rfl), (zW_in (zTp4 (i := 196) rfl) rfl), by decide, by decide, by decide +kernel⟩
set_option maxRecDepth 100000 in
theorem ch_L_160 : zLh RL 160 yL_keyAt kL_keyAt 5 := ⟨(zW_in (zTp4 (i := 201) rfl) rfl), (zW_in (zTp4 (i := 202) rfl) rfl), (zW_in (zTp1 (i := 0) rfl) rfl), (zW_in (zTp4 (i := 203) rfl) rfl), by decide, by decide, by decide +kernel⟩
set_option maxRecDepth 100000 in
theorem ch_L_163 : zLh RL 163 yL_valueAt kL_valueAt 5 := ⟨(zW_in (zTp4 (i := 214) rfl) rfl), (zW_in (zTp4 (i := 215) rfl) rfl), (zW_in (zTp1 (i := 0) rfl) rfl), (zW_in (zTp4 (i := 216) rfl) rfl), by decide, by decide, by decide +kernel⟩
set_option maxRecDepth 100000 in
theorem ch_L_166 : zLh RL 166 yL_isBroad kL_isBroad 3 := ⟨(zW_in (zTp4 (i := 222) rfl) rfl), (zW_in (zTp4 (i := 223) rfl) rfl), (zW_in (zTp1 (i := 0) rfl) rfl), (zW_in (zTp4 (i := 224) rfl) rfl), by decide, by decide, by decide +kernel⟩
set_option maxRecDepth 100000 in
theorem ch_L_169 : zLh RL 169 yL_digest kL_digest 3 := ⟨(zW_in (zTp4 (i := 235) rfl) rfl), (zW_in (zTp4 (i := 236) rfl) rfl), (zW_in (zTp1 (i := 0) rfl) rfl), (zW_in (zTp4 (i := 237) rfl) rfl), by decide, by decide, by decide +kernel⟩
set_option maxRecDepth 100000 in
theorem ch_L_172 : zLh RL 172 yL_digestInPlace kL_digestInPlace 3 := ⟨(zW_in (zTp5 (i := 6) rfl) rfl), (zW_in (zTp5 (i := 7) rfl) rfl), (zW_in (zTp1 (i := 0) rfl) rfl), (zW_in (zTp5 (i := 8) rfl) rfl), by decide, by decide, by decide +kernel⟩
set_option maxRecDepth 100000 in
theorem ch_L_175 : zLh RL 175 yL_setWorkers kL_setWorkers 3 := ⟨(zW_in (zTp5 (i := 13) rfl) rfl), (zW_in (zTp5 (i := 14) rfl) rfl), (zW_in (zTp1 (i := 0) rfl) rfl), (zW_in (zTp5 (i := 15) rfl) rfl), by decide, by decide, by decide +kernel⟩
set_option maxRecDepth 100000 in
theorem ch_L_178 : zLh RL 178 yL_setSlowness kL_setSlowness 4 := ⟨(zW_in (zTp5 (i := 21) rfl) rfl), (zW_in (zTp5 (i := 22) rfl) rfl), (zW_in (zTp1 (i := 0) rfl) rfl), (zW_in (zTp5 (i := 23) rfl) rfl), by decide, by decide, by decide +kernel⟩
set_option maxRecDepth 100000 in
theorem ch_L_181 : zLh RL 181 yL_setMemory kL_setMemory 3 := ⟨(zW_in (zTp5 (i := 32) rfl) rfl), (zW_in (zTp5 (i := 33) rfl) rfl), (zW_in (zTp1 (i := 0) rfl) rfl), (zW_in (zTp5 (i := 34) rfl) rfl), by decide, by decide, by decide +kernel⟩
set_option maxRecDepth 100000 in
theorem ch_L_184 : zLh RL 184 yL_setLimit kL_setLimit 3 := ⟨(zW_in (zTp5 (i := 43) rfl) rfl), (zW_in (zTp5 (i := 44) rfl) rfl), (zW_in (zTp1 (i := 0) rfl) rfl), (zW_in (zTp5 (i := 45) rfl) rfl), by decide, by decide, by decide +kernel⟩
set_option maxRecDepth 100000 in
theorem ch_L_187 : zLh RL 187 yL_setRoom kL_setRoom 3 := ⟨(zW_in (zTp5 (i := 54) rfl) rfl), (zW_in (zTp5 (i := 55) rfl) rfl), (zW_in (zTp1 (i := 0) rfl) rfl), (zW_in (zTp5 (i := 56) rfl) rfl), by decide, by decide, by decide +kernel⟩
set_option maxRecDepth 100000 in
theorem ch_L_190 : zLh RL 190 yL_mark kL_mark 4 := ⟨(zW_in (zTp5 (i := 72) rfl) rfl), (zW_in (zTp5 (i := 73) rfl) rfl), (zW_in (zTp1 (i := 0) rfl) rfl), (zW_in (zTp5 (i := 74) rfl) rfl), by decide, by decide, by decide +kernel⟩
set_option maxRecDepth 100000 in
theorem ch_L_194 : zLh RL 194 yL_isCached kL_isCached 3 := ⟨(zW_in (zTp5 (i := 79) rfl) rfl), (zW_in (zTp5 (i := 80) rfl) rfl), (zW_in (zTp1 (i := 0) rfl) rfl), (zW_in (zTp5 (i := 81) rfl) rfl), by decide, by decide, by decide +kernel⟩
set_option maxRecDepth 100000 in
theorem ch_L_197 : zLh RL 197 yL_stages kL_stages 3 := ⟨(zW_in (zTp5 (i := 91) rfl) rfl), (zW_in (zTp5 (i := 92) rfl) rfl), (zW_in (zTp1 (i := 0) rfl) rfl), (zW_in (zTp5 (i := 93) rfl) rfl), by decide, by decide, by decide +kernel⟩
set_option maxRecDepth 100000 in
theorem ch_L_200 : zLh RL 200 yL_outputOf kL_outputOf 4 := ⟨(zW_in (zTp5 (i := 143) rfl) rfl), (zW_in (zTp5 (i := 144) rfl) rfl), (zW_in (zTp1 (i := 0) rfl) rfl), (zW_in (zTp5 (i := 145) rfl) rfl), by decide, by decide, by decide +kernel⟩
set_option maxRecDepth 100000 in
theorem ch_L_203 : zLh RL 203 yL_run kL_run 3 := ⟨(zW_in (zTp5 (i := 155) rfl) rfl), (zW_in (zTp5 (i := 156) rfl) rfl), (zW_in (zTp1 (i := 0) rfl) rfl), (zW_in (zTp5 (i := 157) rfl) rfl), by decide, by decide, by decide +kernel⟩
set_option maxRecDepth 100000 in
theorem ch_L_218 : zLh RL 218 yL_nodeOf kL_nodeOf 3 := ⟨(zW_in (zTp6 (i := 4) rfl) rfl), (zW_in (zTp6 (i := 5) rfl) rfl), (zW_in (zTp1 (i := 0) rfl) rfl), (zW_in (zTp6 (i := 6) rfl) rfl), by decide, by decide, by decide +kernel⟩
set_option maxRecDepth 100000 in
theorem ch_L_221 : zLh RL 221 yL_partitionOf kL_partitionOf 3 := ⟨(zW_in (zTp6 (i := 16) rfl) rfl), (zW_in (zTp6 (i := 17) rfl) rfl), (zW_in (zTp1 (i := 0) rfl) rfl), (zW_in (zTp6 (i := 18) rfl) rfl), by decide, by decide, by decide +kernel⟩
set_option maxRecDepth 100000 in
theorem ch_L_224 : zLh RL 224 yL_workerOf kL_workerOf 3 := ⟨(zW_in (zTp6 (i := 23) rfl) rfl), (zW_in (zTp6 (i := 24) rfl) rfl), (zW_in (zTp1 (i := 0) rfl) rfl), (zW_in (zTp6 (i := 25) rfl) rfl), by decide, by decide, by decide +kernel⟩
set_option maxRecDepth 100000 in
theorem ch_L_227 : zLh RL 227 yL_startOf kL_startOf 3 := ⟨(zW_in (zTp6 (i := 30) rfl) rfl), (zW_in (zTp6 (i := 31) rfl) rfl), (zW_in (zTp1 (i := 0) rfl) rfl), (zW_in (zTp6 (i := 32) rfl) rfl), by decide, by decide, by decide +kernel⟩
set_option maxRecDepth 100000 in
theorem ch_L_230 : zLh RL 230 yL_endOf kL_endOf 3 := ⟨(zW_in (zTp6 (i := 37) rfl) rfl), (zW_in (zTp6 (i := 38) rfl) rfl), (zW_in (zTp1 (i := 0) rfl) rfl), (zW_in (zTp6 (i := 39) rfl) rfl), by decide, by decide, by decide +kernel⟩
set_option maxRecDepth 100000 in
theorem ch_L_233 : zLh RL 233 yL_isCopy kL_isCopy 3 := ⟨(zW_in (zTp6 (i := 44) rfl) rfl), (zW_in (zTp6 (i := 45) rfl) rfl), (zW_in (zTp1 (i := 0) rfl) rfl), (zW_in (zTp6 (i := 46) rfl) rfl), by decide, by decide, by decide +kernel⟩
set_option maxRecDepth 100000 in
theorem wl_462 : (Cond.classLink "TaskgraphicLaw" (13 : Nat) "java/lang/IllegalArgumentException") ∈ zW := (zW_in (zTp2 (i := 222) rfl) rfl)
set_option maxRecDepth 100000 in
theorem wl_463 : (Cond.classLink "TaskgraphicLaw" (15 : Nat) "java/lang/IllegalStateException") ∈ zW := (zW_in (zTp2 (i := 223) rfl) rfl)
set_option maxRecDepth 100000 in
theorem wl_652 : (Cond.classLink "TaskgraphicLaw" (21 : Nat) "java/lang/IndexOutOfBoundsException") ∈ zW := (zW_in (zTp3 (i := 172) rfl) rfl)
set_option maxRecDepth 100000 in
theorem wl_663 : (Cond.castable "java/lang/IndexOutOfBoundsException" "java/lang/IndexOutOfBoundsException") ∈ zN := (List.mem_filter.mpr ⟨zTp3 (i := 183) rfl, rfl⟩)
set_option maxRecDepth 100000 in
theorem wl_473 : (Cond.castable "java/lang/IllegalArgumentException" "java/lang/IllegalArgumentException") ∈ zN := (List.mem_filter.mpr ⟨zTp2 (i := 233) rfl, rfl⟩)
set_option maxRecDepth 100000 in
theorem wl_545 : (Cond.castable "java/lang/IllegalStateException" "java/lang/IllegalStateException") ∈ zN := (List.mem_filter.mpr ⟨zTp3 (i := 65) rfl, rfl⟩)
theorem hL_source_1 : zCatch kL_source 4 zEA 12 := ⟨[], ⟨0, 9, 12, 13⟩, [⟨0, 9, 15, 15⟩], rfl, (fun _ h => nomatch h), by decide, by decide, rfl, _, wl_462, wl_473⟩
theorem hL_source_2 : zCatch kL_source 4 zES 15 := ⟨[⟨0, 9, 12, 13⟩], ⟨0, 9, 15, 15⟩, [], rfl, (fun z hz => Or.inr (by rw [List.mem_singleton.mp hz]; exact ⟨by decide, _, wl_462, by decide +kernel⟩)), by decide, by decide, rfl, _, wl_463, wl_545⟩
theorem hL_put_1 : zCatch kL_put 7 zEI 15 := ⟨[], ⟨0, 12, 15, 21⟩, [⟨0, 12, 19, 15⟩], rfl, (fun _ h => nomatch h), by decide, by decide, rfl, _, wl_652, wl_663⟩
theorem hL_put_2 : zCatch kL_put 7 zES 19 := ⟨[⟨0, 12, 15, 21⟩], ⟨0, 12, 19, 15⟩, [], rfl, (fun z hz => Or.inr (by rw [List.mem_singleton.mp hz]; exact ⟨by decide, _, wl_652, by decide +kernel⟩)), by decide, by decide, rfl, _, wl_463, wl_545⟩
theorem hL_map_1 : zCatch kL_map 7 zEI 15 := ⟨[], ⟨0, 12, 15, 21⟩, [⟨0, 12, 19, 13⟩, ⟨0, 12, 23, 15⟩], rfl, (fun _ h => nomatch h), by decide, by decide, rfl, _, wl_652, wl_663⟩
theorem hL_map_2 : zCatch kL_map 7 zEA 19 := ⟨[⟨0, 12, 15, 21⟩], ⟨0, 12, 19, 13⟩, [⟨0, 12, 23, 15⟩], rfl, (fun z hz => Or.inr (by rw [List.mem_singleton.mp hz]; exact ⟨by decide, _, wl_652, by decide +kernel⟩)), by decide, by decide, rfl, _, wl_462, wl_473⟩
theorem hL_map_3 : zCatch kL_map 7 zES 23 := ⟨[⟨0, 12, 15, 21⟩, ⟨0, 12, 19, 13⟩], ⟨0, 12, 23, 15⟩, [], rfl, (fun z hz => Or.inr (by rcases List.mem_cons.mp hz with h | h; rw [h]; exact ⟨by decide, _, wl_652, by decide +kernel⟩; rw [List.mem_singleton.mp h]; exact ⟨by decide, _, wl_462, by decide +kernel⟩)), by decide, by decide, rfl, _, wl_463, wl_545⟩
theorem hL_filter_1 : zCatch kL_filter 7 zEI 15 := ⟨[], ⟨0, 12, 15, 21⟩, [⟨0, 12, 19, 15⟩], rfl, (fun _ h => nomatch h), by decide, by decide, rfl, _, wl_652, wl_663⟩
theorem hL_filter_2 : zCatch kL_filter 7 zES 19 := ⟨[⟨0, 12, 15, 21⟩], ⟨0, 12, 19, 15⟩, [], rfl, (fun z hz => Or.inr (by rw [List.mem_singleton.mp hz]; exact ⟨by decide, _, wl_652, by decide +kernel⟩)), by decide, by decide, rfl, _, wl_463, wl_545⟩
theorem hL_union_1 : zCatch kL_union 5 zEI 13 := ⟨[], ⟨0, 10, 13, 21⟩, [⟨0, 10, 17, 15⟩], rfl, (fun _ h => nomatch h), by decide, by decide, rfl, _, wl_652, wl_663⟩
theorem hL_union_2 : zCatch kL_union 5 zES 17 := ⟨[⟨0, 10, 13, 21⟩], ⟨0, 10, 17, 15⟩, [], rfl, (fun z hz => Or.inr (by rw [List.mem_singleton.mp hz]; exact ⟨by decide, _, wl_652, by decide +kernel⟩)), by decide, by decide, rfl, _, wl_463, wl_545⟩
theorem hL_group_1 : zCatch kL_group 7 zEI 15 := ⟨[], ⟨0, 12, 15, 21⟩, [⟨0, 12, 19, 13⟩, ⟨0, 12, 23, 15⟩], rfl, (fun _ h => nomatch h), by decide, by decide, rfl, _, wl_652, wl_663⟩
theorem hL_group_2 : zCatch kL_group 7 zEA 19 := ⟨[⟨0, 12, 15, 21⟩], ⟨0, 12, 19, 13⟩, [⟨0, 12, 23, 15⟩], rfl, (fun z hz => Or.inr (by rw [List.mem_singleton.mp hz]; exact ⟨by decide, _, wl_652, by decide +kernel⟩)), by decide, by decide, rfl, _, wl_462, wl_473⟩
theorem hL_group_3 : zCatch kL_group 7 zES 23 := ⟨[⟨0, 12, 15, 21⟩, ⟨0, 12, 19, 13⟩], ⟨0, 12, 23, 15⟩, [], rfl, (fun z hz => Or.inr (by rcases List.mem_cons.mp hz with h | h; rw [h]; exact ⟨by decide, _, wl_652, by decide +kernel⟩; rw [List.mem_singleton.mp h]; exact ⟨by decide, _, wl_462, by decide +kernel⟩)), by decide, by decide, rfl, _, wl_463, wl_545⟩
theorem hL_join_1 : zCatch kL_join 7 zEI 15 := ⟨[], ⟨0, 12, 15, 21⟩, [⟨0, 12, 19, 13⟩, ⟨0, 12, 23, 15⟩], rfl, (fun _ h => nomatch h), by decide, by decide, rfl, _, wl_652, wl_663⟩
theorem hL_join_2 : zCatch kL_join 7 zEA 19 := ⟨[⟨0, 12, 15, 21⟩], ⟨0, 12, 19, 13⟩, [⟨0, 12, 23, 15⟩], rfl, (fun z hz => Or.inr (by rw [List.mem_singleton.mp hz]; exact ⟨by decide, _, wl_652, by decide +kernel⟩)), by decide, by decide, rfl, _, wl_462, wl_473⟩
theorem hL_join_3 : zCatch kL_join 7 zES 23 := ⟨[⟨0, 12, 15, 21⟩, ⟨0, 12, 19, 13⟩], ⟨0, 12, 23, 15⟩, [], rfl, (fun z hz => Or.inr (by rcases List.mem_cons.mp hz with h | h; rw [h]; exact ⟨by decide, _, wl_652, by decide +kernel⟩; rw [List.mem_singleton.mp h]; exact ⟨by decide, _, wl_462, by decide +kernel⟩)), by decide, by decide, rfl, _, wl_463, wl_545⟩
theorem hL_partitions_1 : zCatch kL_partitions 4 zEI 12 := ⟨[], ⟨0, 9, 12, 21⟩, [], rfl, (fun _ h => nomatch h), by decide, by decide, rfl, _, wl_652, wl_663⟩
theorem hL_rowsIn_1 : zCatch kL_rowsIn 5 zEI 13 := ⟨[], ⟨0, 10, 13, 21⟩, [], rfl, (fun _ h => nomatch h), by decide, by decide, rfl, _, wl_652, wl_663⟩
theorem hL_rows_1 : zCatch kL_rows 4 zEI 12 := ⟨[], ⟨0, 9, 12, 21⟩, [], rfl, (fun _ h => nomatch h), by decide, by decide, rfl, _, wl_652, wl_663⟩
theorem hL_keyAt_1 : zCatch kL_keyAt 7 zEI 15 := ⟨[], ⟨0, 12, 15, 21⟩, [], rfl, (fun _ h => nomatch h), by decide, by decide, rfl, _, wl_652, wl_663⟩
theorem hL_valueAt_1 : zCatch kL_valueAt 7 zEI 15 := ⟨[], ⟨0, 12, 15, 21⟩, [], rfl, (fun _ h => nomatch h), by decide, by decide, rfl, _, wl_652, wl_663⟩
theorem hL_isBroad_1 : zCatch kL_isBroad 4 zEI 19 := ⟨[], ⟨0, 16, 19, 21⟩, [⟨0, 16, 22, 15⟩], rfl, (fun _ h => nomatch h), by decide, by decide, rfl, _, wl_652, wl_663⟩
theorem hL_isBroad_2 : zCatch kL_isBroad 4 zES 22 := ⟨[⟨0, 16, 19, 21⟩], ⟨0, 16, 22, 15⟩, [], rfl, (fun z hz => Or.inr (by rw [List.mem_singleton.mp hz]; exact ⟨by decide, _, wl_652, by decide +kernel⟩)), by decide, by decide, rfl, _, wl_463, wl_545⟩
theorem hL_digest_1 : zCatch kL_digest 4 zEI 12 := ⟨[], ⟨0, 9, 12, 21⟩, [], rfl, (fun _ h => nomatch h), by decide, by decide, rfl, _, wl_652, wl_663⟩
theorem hL_digestInPlace_1 : zCatch kL_digestInPlace 4 zEI 12 := ⟨[], ⟨0, 9, 12, 21⟩, [], rfl, (fun _ h => nomatch h), by decide, by decide, rfl, _, wl_652, wl_663⟩
theorem hL_setWorkers_1 : zCatch kL_setWorkers 4 zEA 12 := ⟨[], ⟨0, 9, 12, 13⟩, [], rfl, (fun _ h => nomatch h), by decide, by decide, rfl, _, wl_462, wl_473⟩
theorem hL_setSlowness_1 : zCatch kL_setSlowness 5 zEI 13 := ⟨[], ⟨0, 10, 13, 21⟩, [⟨0, 10, 17, 13⟩], rfl, (fun _ h => nomatch h), by decide, by decide, rfl, _, wl_652, wl_663⟩
theorem hL_setSlowness_2 : zCatch kL_setSlowness 5 zEA 17 := ⟨[⟨0, 10, 13, 21⟩], ⟨0, 10, 17, 13⟩, [], rfl, (fun z hz => Or.inr (by rw [List.mem_singleton.mp hz]; exact ⟨by decide, _, wl_652, by decide +kernel⟩)), by decide, by decide, rfl, _, wl_462, wl_473⟩
theorem hL_setMemory_1 : zCatch kL_setMemory 4 zEA 12 := ⟨[], ⟨0, 9, 12, 13⟩, [], rfl, (fun _ h => nomatch h), by decide, by decide, rfl, _, wl_462, wl_473⟩
theorem hL_setLimit_1 : zCatch kL_setLimit 4 zEA 12 := ⟨[], ⟨0, 9, 12, 13⟩, [], rfl, (fun _ h => nomatch h), by decide, by decide, rfl, _, wl_462, wl_473⟩
theorem hL_setRoom_1 : zCatch kL_setRoom 4 zEA 12 := ⟨[], ⟨0, 9, 12, 13⟩, [], rfl, (fun _ h => nomatch h), by decide, by decide, rfl, _, wl_462, wl_473⟩
theorem hL_mark_1 : zCatch kL_mark 5 zEI 20 := ⟨[], ⟨0, 17, 20, 21⟩, [], rfl, (fun _ h => nomatch h), by decide, by decide, rfl, _, wl_652, wl_663⟩
theorem hL_isCached_1 : zCatch kL_isCached 4 zEI 19 := ⟨[], ⟨0, 16, 19, 21⟩, [], rfl, (fun _ h => nomatch h), by decide, by decide, rfl, _, wl_652, wl_663⟩
theorem hL_stages_1 : zCatch kL_stages 4 zEI 12 := ⟨[], ⟨0, 9, 12, 21⟩, [], rfl, (fun _ h => nomatch h), by decide, by decide, rfl, _, wl_652, wl_663⟩
theorem hL_outputOf_1 : zCatch kL_outputOf 5 zEI 13 := ⟨[], ⟨0, 10, 13, 21⟩, [], rfl, (fun _ h => nomatch h), by decide, by decide, rfl, _, wl_652, wl_663⟩
theorem hL_run_1 : zCatch kL_run 4 zEI 12 := ⟨[], ⟨0, 9, 12, 21⟩, [], rfl, (fun _ h => nomatch h), by decide, by decide, rfl, _, wl_652, wl_663⟩
theorem hL_nodeOf_1 : zCatch kL_nodeOf 4 zEI 12 := ⟨[], ⟨0, 9, 12, 21⟩, [], rfl, (fun _ h => nomatch h), by decide, by decide, rfl, _, wl_652, wl_663⟩
theorem hL_partitionOf_1 : zCatch kL_partitionOf 4 zEI 12 := ⟨[], ⟨0, 9, 12, 21⟩, [], rfl, (fun _ h => nomatch h), by decide, by decide, rfl, _, wl_652, wl_663⟩
theorem hL_workerOf_1 : zCatch kL_workerOf 4 zEI 12 := ⟨[], ⟨0, 9, 12, 21⟩, [], rfl, (fun _ h => nomatch h), by decide, by decide, rfl, _, wl_652, wl_663⟩
theorem hL_startOf_1 : zCatch kL_startOf 4 zEI 12 := ⟨[], ⟨0, 9, 12, 21⟩, [], rfl, (fun _ h => nomatch h), by decide, by decide, rfl, _, wl_652, wl_663⟩
theorem hL_endOf_1 : zCatch kL_endOf 4 zEI 12 := ⟨[], ⟨0, 9, 12, 21⟩, [], rfl, (fun _ h => nomatch h), by decide, by decide, rfl, _, wl_652, wl_663⟩
theorem hL_isCopy_1 : zCatch kL_isCopy 4 zEI 19 := ⟨[], ⟨0, 16, 19, 21⟩, [], rfl, (fun _ h => nomatch h), by decide, by decide, rfl, _, wl_652, wl_663⟩
theorem zup0 {f : Nat → Int64} {v : Int64} : vp_updL f (0 : Int32).toNatClampNeg v 0 = v := by
  rw [show (0 : Int32).toNatClampNeg = 0 by decide]
  exact if_pos rfl
theorem zin01 : vp_in (0 : Int32) 1 := by
  show ¬ ((0 : Int32) < 0 ∨ 1 ≤ (0 : Int32).toNatClampNeg)
  decide
def zbl (w : Int32) : Int64 := if w = 0 then 0 else 1
/-- what a call of the law's methods answers, what lies in its array, and what is so then -/
def zD1 (G : zG) (σ σ' : zH) (b hi o : Nat) (g : Int32 → Int64) (P : zUv → Int32 → Prop) (c : Nat) (u : zUv) (v : Option Value) : Prop :=
  v = some (.int (nI c)) ∧ (c = 0 → ∃ u' w, P u' w ∧ zTu G σ' b hi u' ∧ ∃ f, σ' o = some (zJ G 1 f) ∧ f 0 = g w) ∧ (c ≠ 0 → zTu G σ' b hi u ∧ ∃ f, σ' o = some (zJ G 1 f)) ∧ ∀ x, (x < b ∨ (b + 74 ≤ x ∧ x < hi)) → x ≠ o → σ' x = σ x
theorem zTu.fr {G : zG} {σ σ' : zH} {b hi : Nat} : ∀ {u : zUv}, zTu G σ b hi u → (∀ x, (b ≤ x ∧ x < b + 74) ∨ hi ≤ x → σ' x = σ x) → zTu G σ' b hi u
  | (_, _, _, _, _, _, _, _, _, _, _), h, hf => zTG.fr h hf
