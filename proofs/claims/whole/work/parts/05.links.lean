abbrev kJ15_checkIndex_7cf53 : zK := (RJ15, cJ15_checkIndex_7cf53, 2, ⟨1, 0, 0, 22⟩, (some .int), "checkIndex", [])
abbrev kJ3_checkIndex_8e157 : zK := (RJ3, cJ3_checkIndex_8e157, 3, ⟨0, 0, 0, 0⟩, (some .int), "checkIndex", [])
abbrev kJ6_bitCount_0f7a4 : zK := (RJ6, cJ6_bitCount_0f7a4, 1, ⟨0, 0, 0, 0⟩, (some .int), "bitCount", [])
abbrev kJ7_copyOf_1904c : zK := (RJ7, cJ7_copyOf_1904c, 2, ⟨2, 1, 15, 44⟩, (some (.array (.object "java/lang/Object"))), "copyOf", [])
abbrev kJ7_copyOf_6403c : zK := (RJ7, cJ7_copyOf_6403c, 4, ⟨1, 1, 15, 21⟩, (some (.array (.object "java/lang/Object"))), "copyOf", [])
abbrev kJ8_hugeLength_7cf53 : zK := (RJ8, cJ8_hugeLength_7cf53, 3, ⟨0, 0, 0, 0⟩, (some .int), "hugeLength", [])
abbrev kJ8_newLength_cabcc : zK := (RJ8, cJ8_newLength_cabcc, 4, ⟨1, 0, 0, 21⟩, (some .int), "newLength", [])
abbrev kJ9_floorMod_7cf53 : zK := (RJ9, cJ9_floorMod_7cf53, 3, ⟨0, 0, 0, 0⟩, (some .int), "floorMod", [])
abbrev kJ9_max_7cf53 : zK := (RJ9, cJ9_max_7cf53, 2, ⟨0, 0, 0, 0⟩, (some .int), "max", [])
abbrev kJ9_min_7cf53 : zK := (RJ9, cJ9_min_7cf53, 2, ⟨0, 0, 0, 0⟩, (some .int), "min", [])
abbrev kJx4a65c_add_72be8 : zK := (RJx4a65c, cJx4a65c_add_72be8, 4, ⟨5, 1, 15, 108⟩, none, "add", [])
abbrev kJx4a65c_add_9ea2d : zK := (RJx4a65c, cJx4a65c_add_9ea2d, 2, ⟨6, 1, 15, 131⟩, (some .boolean), "add", [])
abbrev kJx4a65c_elementData_915e3 : zK := (RJx4a65c, cJx4a65c_elementData_915e3, 2, ⟨0, 0, 0, 0⟩, (some (.object "java/lang/Object")), "elementData", [])
abbrev kJx4a65c_get_915e3 : zK := (RJx4a65c, cJx4a65c_get_915e3, 2, ⟨2, 0, 0, 43⟩, (some (.object "java/lang/Object")), "get", [])
abbrev kJx4a65c_grow_92f84 : zK := (RJx4a65c, cJx4a65c_grow_92f84, 4, ⟨3, 1, 15, 65⟩, (some (.array (.object "java/lang/Object"))), "grow", [])
abbrev kJx4a65c_grow_d5877 : zK := (RJx4a65c, cJx4a65c_grow_d5877, 1, ⟨4, 1, 15, 88⟩, (some (.array (.object "java/lang/Object"))), "grow", [])
abbrev kJx4a65c_init_da8c8 : zK := (RJx4a65c, cJx4a65c_init_da8c8, 1, ⟨3, 0, 0, 60⟩, none, "<init>", [])
abbrev kJx4a65c_size_8abf5 : zK := (RJx4a65c, cJx4a65c_size_8abf5, 1, ⟨0, 0, 0, 0⟩, (some .int), "size", [])
abbrev kJxa1e45_init_da8c8 : zK := (RJxa1e45, cJxa1e45_init_da8c8, 1, ⟨1, 0, 0, 20⟩, none, "<init>", [])
abbrev kJxc12de_init_da8c8 : zK := (RJxc12de, cJxc12de_init_da8c8, 1, ⟨2, 0, 0, 40⟩, none, "<init>", [])
-- L_digest: with handlers
-- L_digestInPlace: with handlers
-- L_endOf: with handlers
-- L_filter: with handlers
-- L_group: with handlers
-- L_isBroad: with handlers
-- L_isCached: with handlers
-- L_isCopy: with handlers
-- L_join: with handlers
-- L_keyAt: with handlers
-- L_map: with handlers
-- L_mark: with handlers
-- L_nodeOf: with handlers
-- L_outputOf: with handlers
-- L_partitionOf: with handlers
-- L_partitions: with handlers
-- L_put: with handlers
-- L_rows: with handlers
-- L_rowsIn: with handlers
-- L_run: with handlers
-- L_setLimit: with handlers
-- L_setMemory: with handlers
-- L_setRoom: with handlers
-- L_setSlowness: with handlers
-- L_setWorkers: with handlers
-- L_source: with handlers
-- L_stages: with handlers
-- L_startOf: with handlers
-- L_union: with handlers
-- L_valueAt: with handlers
-- L_workerOf: with handlers
abbrev kX0_append : zK := (RX0, cX0_append, 3, ⟨1, 0, 0, 22⟩, none, "append", [])
abbrev kX0_empty : zK := (RX0, cX0_empty, 1, ⟨0, 0, 0, 0⟩, none, "empty", [])
abbrev kX0_enter : zK := (RX0, cX0_enter, 3, ⟨3, 0, 0, 67⟩, none, "enter", [])
abbrev kX0_holds : zK := (RX0, cX0_holds, 2, ⟨1, 0, 0, 21⟩, (some .boolean), "holds", [])
abbrev kX0_init : zK := (RX0, cX0_init, 1, ⟨2, 4, 602, 42⟩, none, "<init>", [])
abbrev kX0_makeLatest : zK := (RX0, cX0_makeLatest, 4, ⟨2, 0, 0, 44⟩, none, "makeLatest", [])
abbrev kX0_makeRoomFor : zK := (RX0, cX0_makeRoomFor, 4, ⟨2, 0, 0, 44⟩, (some .int), "makeRoomFor", [])
abbrev kX0_remove : zK := (RX0, cX0_remove, 3, ⟨1, 0, 0, 22⟩, none, "remove", [])
abbrev kX10_begin : zK := (RX10, cX10_begin, 3, ⟨0, 0, 0, 0⟩, none, "begin", [])
abbrev kX10_copy : zK := (RX10, cX10_copy, 3, ⟨1, 0, 0, 22⟩, none, "copy", [])
abbrev kX10_earliestEnd : zK := (RX10, cX10_earliestEnd, 5, ⟨1, 0, 0, 21⟩, (some .int), "earliestEnd", [])
abbrev kX10_ended : zK := (RX10, cX10_ended, 4, ⟨1, 0, 0, 21⟩, (some .int), "ended", [])
abbrev kX10_init : zK := (RX10, cX10_init, 1, ⟨2, 6, 903, 42⟩, none, "<init>", [])
abbrev kX10_latestWithoutCopy : zK := (RX10, cX10_latestWithoutCopy, 5, ⟨1, 0, 0, 21⟩, (some .int), "latestWithoutCopy", [])
abbrev kX10_take : zK := (RX10, cX10_take, 3, ⟨1, 0, 0, 22⟩, none, "take", [])
abbrev kX11_attempts : zK := (RX11, cX11_attempts, 1, ⟨0, 0, 0, 0⟩, (some .int), "attempts", [])
abbrev kX11_changeOf : zK := (RX11, cX11_changeOf, 4, ⟨4, 22, 2742, 88⟩, (some (.object "Taskgraphic$Node")), "changeOf", [])
abbrev kX11_checkAnotherNode : zK := (RX11, cX11_checkAnotherNode, 1, ⟨6, 1, 6, 90⟩, none, "checkAnotherNode", [])
abbrev kX11_checkAttempt : zK := (RX11, cX11_checkAttempt, 2, ⟨6, 1, 6, 90⟩, none, "checkAttempt", [])
abbrev kX11_checkNode : zK := (RX11, cX11_checkNode, 2, ⟨6, 1, 6, 90⟩, none, "checkNode", [])
abbrev kX11_checkPartition : zK := (RX11, cX11_checkPartition, 2, ⟨6, 1, 6, 90⟩, none, "checkPartition", [])
abbrev kX11_checkPlace : zK := (RX11, cX11_checkPlace, 3, ⟨7, 2, 12, 111⟩, none, "checkPlace", [])
abbrev kX11_checkSetting : zK := (RX11, cX11_checkSetting, 1, ⟨6, 1, 6, 90⟩, none, "checkSetting", [])
abbrev kX11_checkToldPartitions : zK := (RX11, cX11_checkToldPartitions, 1, ⟨6, 1, 6, 90⟩, none, "checkToldPartitions", [])
abbrev kX11_digest : zK := (RX11, cX11_digest, 2, ⟨7, 1, 6, 155⟩, (some .int), "digest", [])
abbrev kX11_digestInPlace : zK := (RX11, cX11_digestInPlace, 2, ⟨7, 1, 6, 155⟩, (some .int), "digestInPlace", [])
abbrev kX11_endOf : zK := (RX11, cX11_endOf, 2, ⟨7, 1, 6, 111⟩, (some .int), "endOf", [])
abbrev kX11_filter : zK := (RX11, cX11_filter, 5, ⟨8, 25, 2790, 175⟩, (some .int), "filter", [])
abbrev kX11_group : zK := (RX11, cX11_group, 5, ⟨8, 26, 2790, 175⟩, (some .int), "group", [])
abbrev kX11_has : zK := (RX11, cX11_has, 2, ⟨0, 0, 0, 0⟩, (some .boolean), "has", [])
abbrev kX11_init : zK := (RX11, cX11_init, 1, ⟨5, 73, 8822, 108⟩, none, "<init>", [])
abbrev kX11_isBroad : zK := (RX11, cX11_isBroad, 2, ⟨7, 2, 12, 155⟩, (some .boolean), "isBroad", [])
abbrev kX11_isCached : zK := (RX11, cX11_isCached, 2, ⟨7, 1, 6, 111⟩, (some .boolean), "isCached", [])
abbrev kX11_isCopy : zK := (RX11, cX11_isCopy, 2, ⟨7, 1, 6, 111⟩, (some .boolean), "isCopy", [])
abbrev kX11_join : zK := (RX11, cX11_join, 7, ⟨8, 27, 2790, 175⟩, (some .int), "join", [])
abbrev kX11_keyAt : zK := (RX11, cX11_keyAt, 5, ⟨8, 3, 18, 155⟩, (some .int), "keyAt", [])
abbrev kX11_loadStage : zK := (RX11, cX11_loadStage, 6, ⟨5, 0, 0, 107⟩, none, "loadStage", [])
abbrev kX11_map : zK := (RX11, cX11_map, 5, ⟨8, 25, 2790, 175⟩, (some .int), "map", [])
abbrev kX11_mark : zK := (RX11, cX11_mark, 4, ⟨7, 1, 6, 111⟩, (some .boolean), "mark", [])
abbrev kX11_modulo : zK := (RX11, cX11_modulo, 2, ⟨1, 0, 0, 22⟩, (some .int), "modulo", [])
abbrev kX11_nodeOf : zK := (RX11, cX11_nodeOf, 2, ⟨7, 1, 6, 111⟩, (some .int), "nodeOf", [])
abbrev kX11_nodes : zK := (RX11, cX11_nodes, 1, ⟨2, 0, 0, 40⟩, (some .int), "nodes", [])
abbrev kX11_outputOf : zK := (RX11, cX11_outputOf, 3, ⟨8, 2, 12, 184⟩, (some .int), "outputOf", [])
abbrev kX11_partitionOf : zK := (RX11, cX11_partitionOf, 2, ⟨7, 1, 6, 111⟩, (some .int), "partitionOf", [])
abbrev kX11_partitions : zK := (RX11, cX11_partitions, 2, ⟨7, 1, 6, 155⟩, (some .int), "partitions", [])
abbrev kX11_put : zK := (RX11, cX11_put, 5, ⟨7, 2, 12, 111⟩, (some .int), "put", [])
abbrev kX11_renewCache : zK := (RX11, cX11_renewCache, 2, ⟨5, 0, 0, 107⟩, none, "renewCache", [])
abbrev kX11_rows : zK := (RX11, cX11_rows, 2, ⟨7, 1, 6, 155⟩, (some .int), "rows", [])
abbrev kX11_rowsIn : zK := (RX11, cX11_rowsIn, 4, ⟨7, 2, 12, 155⟩, (some .int), "rowsIn", [])
abbrev kX11_run : zK := (RX11, cX11_run, 4, ⟨8, 1, 6, 184⟩, (some .int), "run", [])
abbrev kX11_setLimit : zK := (RX11, cX11_setLimit, 3, ⟨7, 1, 6, 110⟩, (some .int), "setLimit", [])
abbrev kX11_setMemory : zK := (RX11, cX11_setMemory, 3, ⟨7, 1, 6, 110⟩, (some .int), "setMemory", [])
abbrev kX11_setRoom : zK := (RX11, cX11_setRoom, 2, ⟨7, 1, 6, 110⟩, (some .int), "setRoom", [])
abbrev kX11_setSlowness : zK := (RX11, cX11_setSlowness, 4, ⟨6, 2, 12, 90⟩, (some .int), "setSlowness", [])
abbrev kX11_setWorkers : zK := (RX11, cX11_setWorkers, 3, ⟨6, 1, 6, 90⟩, (some .int), "setWorkers", [])
abbrev kX11_share : zK := (RX11, cX11_share, 2, ⟨2, 0, 0, 43⟩, (some .float), "share", [])
abbrev kX11_source : zK := (RX11, cX11_source, 3, ⟨8, 25, 2790, 175⟩, (some .int), "source", [])
abbrev kX11_spilled : zK := (RX11, cX11_spilled, 1, ⟨0, 0, 0, 0⟩, (some .int), "spilled", [])
abbrev kX11_stages : zK := (RX11, cX11_stages, 2, ⟨8, 1, 6, 184⟩, (some .int), "stages", [])
abbrev kX11_startOf : zK := (RX11, cX11_startOf, 2, ⟨7, 1, 6, 111⟩, (some .int), "startOf", [])
abbrev kX11_ticks : zK := (RX11, cX11_ticks, 1, ⟨0, 0, 0, 0⟩, (some .int), "ticks", [])
abbrev kX11_union : zK := (RX11, cX11_union, 7, ⟨8, 26, 2790, 175⟩, (some .int), "union", [])
abbrev kX11_valueAt : zK := (RX11, cX11_valueAt, 5, ⟨8, 3, 18, 155⟩, (some .int), "valueAt", [])
abbrev kX11_with : zK := (RX11, cX11_with, 2, ⟨0, 0, 0, 0⟩, (some .int), "with", [])
abbrev kX11_workerOf : zK := (RX11, cX11_workerOf, 2, ⟨7, 1, 6, 111⟩, (some .int), "workerOf", [])
abbrev kX12_adds : zK := (RX12, cX12_adds, 5, ⟨0, 0, 0, 0⟩, none, "adds", [])
abbrev kX12_all : zK := (RX12, cX12_all, 2, ⟨1, 0, 0, 22⟩, (some .int), "all", [])
abbrev kX12_at : zK := (RX12, cX12_at, 3, ⟨0, 0, 0, 0⟩, (some .int), "at", [])
abbrev kX12_attempts : zK := (RX12, cX12_attempts, 1, ⟨1, 0, 0, 21⟩, (some .int), "attempts", [])
abbrev kX12_cached : zK := (RX12, cX12_cached, 3, ⟨2, 0, 0, 43⟩, (some .int), "cached", [])
abbrev kX12_copies : zK := (RX12, cX12_copies, 9, ⟨1, 0, 0, 25⟩, (some .boolean), "copies", [])
abbrev kX12_digest : zK := (RX12, cX12_digest, 2, ⟨6, 0, 0, 140⟩, (some .int), "digest", [])
abbrev kX12_digestInPlace : zK := (RX12, cX12_digestInPlace, 2, ⟨6, 0, 0, 140⟩, (some .int), "digestInPlace", [])
abbrev kX12_digests : zK := (RX12, cX12_digests, 5, ⟨2, 0, 0, 43⟩, (some .int), "digests", [])
abbrev kX12_empties : zK := (RX12, cX12_empties, 2, ⟨0, 0, 0, 0⟩, none, "empties", [])
abbrev kX12_endOf : zK := (RX12, cX12_endOf, 2, ⟨2, 0, 0, 43⟩, (some .int), "endOf", [])
abbrev kX12_fails : zK := (RX12, cX12_fails, 2, ⟨0, 0, 0, 0⟩, (some .boolean), "fails", [])
abbrev kX12_filter : zK := (RX12, cX12_filter, 4, ⟨1, 0, 0, 25⟩, (some .int), "filter", [])
abbrev kX12_finds : zK := (RX12, cX12_finds, 5, ⟨5, 0, 0, 119⟩, (some .int), "finds", [])
abbrev kX12_group : zK := (RX12, cX12_group, 5, ⟨1, 0, 0, 25⟩, (some .int), "group", [])
abbrev kX12_grouped : zK := (RX12, cX12_grouped, 9, ⟨2, 0, 0, 43⟩, (some .int), "grouped", [])
abbrev kX12_holdsBroad : zK := (RX12, cX12_holdsBroad, 6, ⟨3, 0, 0, 69⟩, none, "holdsBroad", [])
abbrev kX12_holdsMapped : zK := (RX12, cX12_holdsMapped, 10, ⟨1, 0, 0, 24⟩, none, "holdsMapped", [])
abbrev kX12_holdsShared : zK := (RX12, cX12_holdsShared, 8, ⟨3, 0, 0, 71⟩, none, "holdsShared", [])
abbrev kX12_holdsSource : zK := (RX12, cX12_holdsSource, 5, ⟨1, 0, 0, 24⟩, none, "holdsSource", [])
abbrev kX12_holdsUnion : zK := (RX12, cX12_holdsUnion, 6, ⟨2, 0, 0, 43⟩, none, "holdsUnion", [])
abbrev kX12_init : zK := (RX12, cX12_init, 2, ⟨1, 33, 20000, 20⟩, none, "<init>", [])
abbrev kX12_is : zK := (RX12, cX12_is, 2, ⟨0, 0, 0, 0⟩, (some .boolean), "is", [])
abbrev kX12_isBroad : zK := (RX12, cX12_isBroad, 2, ⟨5, 0, 0, 119⟩, (some .boolean), "isBroad", [])
abbrev kX12_isBroadly : zK := (RX12, cX12_isBroadly, 2, ⟨2, 0, 0, 43⟩, (some .boolean), "isBroadly", [])
abbrev kX12_isCached : zK := (RX12, cX12_isCached, 2, ⟨1, 0, 0, 21⟩, (some .boolean), "isCached", [])
abbrev kX12_isCopy : zK := (RX12, cX12_isCopy, 2, ⟨1, 0, 0, 21⟩, (some .boolean), "isCopy", [])
abbrev kX12_isNoNode : zK := (RX12, cX12_isNoNode, 2, ⟨5, 0, 0, 119⟩, (some .boolean), "isNoNode", [])
abbrev kX12_isPart : zK := (RX12, cX12_isPart, 3, ⟨5, 0, 0, 119⟩, (some .boolean), "isPart", [])
abbrev kX12_join : zK := (RX12, cX12_join, 6, ⟨1, 0, 0, 25⟩, (some .int), "join", [])
abbrev kX12_joins : zK := (RX12, cX12_joins, 7, ⟨2, 0, 0, 43⟩, (some .int), "joins", [])
abbrev kX12_keeps : zK := (RX12, cX12_keeps, 2, ⟨4, 0, 0, 89⟩, none, "keeps", [])
abbrev kX12_keyAt : zK := (RX12, cX12_keyAt, 4, ⟨7, 0, 0, 166⟩, (some .int), "keyAt", [])
abbrev kX12_knows : zK := (RX12, cX12_knows, 2, ⟨4, 0, 0, 98⟩, none, "knows", [])
abbrev kX12_latest : zK := (RX12, cX12_latest, 5, ⟨0, 0, 0, 0⟩, (some .int), "latest", [])
abbrev kX12_leaves : zK := (RX12, cX12_leaves, 5, ⟨3, 0, 0, 65⟩, (some .int), "leaves", [])
abbrev kX12_makes : zK := (RX12, cX12_makes, 6, ⟨0, 0, 0, 0⟩, (some .int), "makes", [])
abbrev kX12_map : zK := (RX12, cX12_map, 5, ⟨1, 0, 0, 25⟩, (some .int), "map", [])
abbrev kX12_mark : zK := (RX12, cX12_mark, 4, ⟨1, 0, 0, 21⟩, (some .boolean), "mark", [])
abbrev kX12_needs : zK := (RX12, cX12_needs, 2, ⟨0, 0, 0, 0⟩, none, "needs", [])
abbrev kX12_next : zK := (RX12, cX12_next, 9, ⟨2, 0, 0, 43⟩, (some .long), "next", [])
abbrev kX12_nodeOf : zK := (RX12, cX12_nodeOf, 2, ⟨2, 0, 0, 43⟩, (some .int), "nodeOf", [])
abbrev kX12_nodes : zK := (RX12, cX12_nodes, 1, ⟨1, 0, 0, 21⟩, (some .int), "nodes", [])
abbrev kX12_ofAttempt : zK := (RX12, cX12_ofAttempt, 3, ⟨1, 0, 0, 21⟩, (some .int), "ofAttempt", [])
abbrev kX12_ofRow : zK := (RX12, cX12_ofRow, 6, ⟨6, 0, 0, 141⟩, (some .int), "ofRow", [])
abbrev kX12_outputOf : zK := (RX12, cX12_outputOf, 6, ⟨6, 0, 0, 143⟩, (some .int), "outputOf", [])
abbrev kX12_partitionOf : zK := (RX12, cX12_partitionOf, 2, ⟨2, 0, 0, 43⟩, (some .int), "partitionOf", [])
abbrev kX12_partitions : zK := (RX12, cX12_partitions, 2, ⟨6, 0, 0, 140⟩, (some .int), "partitions", [])
abbrev kX12_put : zK := (RX12, cX12_put, 4, ⟨1, 0, 0, 21⟩, (some .int), "put", [])
abbrev kX12_reads : zK := (RX12, cX12_reads, 8, ⟨3, 0, 0, 68⟩, (some .int), "reads", [])
abbrev kX12_rows : zK := (RX12, cX12_rows, 2, ⟨6, 0, 0, 140⟩, (some .int), "rows", [])
abbrev kX12_rowsIn : zK := (RX12, cX12_rowsIn, 3, ⟨6, 0, 0, 141⟩, (some .int), "rowsIn", [])
abbrev kX12_rowsOf : zK := (RX12, cX12_rowsOf, 3, ⟨1, 0, 0, 22⟩, (some .int), "rowsOf", [])
abbrev kX12_run : zK := (RX12, cX12_run, 3, ⟨6, 0, 0, 143⟩, (some .int), "run", [])
abbrev kX12_setLimit : zK := (RX12, cX12_setLimit, 3, ⟨1, 0, 0, 21⟩, (some .int), "setLimit", [])
abbrev kX12_setMemory : zK := (RX12, cX12_setMemory, 3, ⟨1, 0, 0, 21⟩, (some .int), "setMemory", [])
abbrev kX12_setRoom : zK := (RX12, cX12_setRoom, 2, ⟨5, 0, 0, 119⟩, (some .int), "setRoom", [])
abbrev kX12_setSlowness : zK := (RX12, cX12_setSlowness, 4, ⟨1, 0, 0, 21⟩, (some .int), "setSlowness", [])
abbrev kX12_setWorkers : zK := (RX12, cX12_setWorkers, 3, ⟨1, 0, 0, 21⟩, (some .int), "setWorkers", [])
abbrev kX12_share : zK := (RX12, cX12_share, 3, ⟨0, 0, 0, 0⟩, (some .int), "share", [])
abbrev kX12_share_ : zK := (RX12, cX12_share_, 3, ⟨0, 0, 0, 0⟩, (some .float), "share", [])
abbrev kX12_shared : zK := (RX12, cX12_shared, 6, ⟨2, 0, 0, 43⟩, (some .int), "shared", [])
abbrev kX12_source : zK := (RX12, cX12_source, 2, ⟨1, 0, 0, 25⟩, (some .int), "source", [])
abbrev kX12_spilled : zK := (RX12, cX12_spilled, 1, ⟨1, 0, 0, 21⟩, (some .int), "spilled", [])
abbrev kX12_stage : zK := (RX12, cX12_stage, 12, ⟨4, 0, 0, 95⟩, (some .int), "stage", [])
abbrev kX12_stages : zK := (RX12, cX12_stages, 2, ⟨6, 0, 0, 143⟩, (some .int), "stages", [])
abbrev kX12_startOf : zK := (RX12, cX12_startOf, 2, ⟨2, 0, 0, 43⟩, (some .int), "startOf", [])
abbrev kX12_takes : zK := (RX12, cX12_takes, 6, ⟨0, 0, 0, 0⟩, none, "takes", [])
abbrev kX12_tells : zK := (RX12, cX12_tells, 2, ⟨0, 0, 0, 0⟩, (some .int), "tells", [])
abbrev kX12_thrown : zK := (RX12, cX12_thrown, 1, ⟨0, 0, 0, 0⟩, (some .int), "thrown", [])
abbrev kX12_ticks : zK := (RX12, cX12_ticks, 1, ⟨1, 0, 0, 21⟩, (some .int), "ticks", [])
abbrev kX12_union : zK := (RX12, cX12_union, 6, ⟨1, 0, 0, 25⟩, (some .int), "union", [])
abbrev kX12_valueAt : zK := (RX12, cX12_valueAt, 4, ⟨7, 0, 0, 166⟩, (some .int), "valueAt", [])
abbrev kX12_workerOf : zK := (RX12, cX12_workerOf, 2, ⟨2, 0, 0, 43⟩, (some .int), "workerOf", [])
abbrev kX1_init : zK := (RX1, cX1_init, 3, ⟨2, 4, 602, 42⟩, none, "<init>", [])
abbrev kX1_look : zK := (RX1, cX1_look, 6, ⟨3, 0, 0, 75⟩, (some .boolean), "look", [])
abbrev kX1_takeNext : zK := (RX1, cX1_takeNext, 6, ⟨2, 0, 0, 49⟩, none, "takeNext", [])
abbrev kX1_takesCopy : zK := (RX1, cX1_takesCopy, 7, ⟨2, 0, 0, 49⟩, (some .boolean), "takesCopy", [])
abbrev kX1_workOff : zK := (RX1, cX1_workOff, 5, ⟨4, 0, 0, 100⟩, (some .int), "workOff", [])
abbrev kX2_add : zK := (RX2, cX2_add, 4, ⟨7, 1, 15, 152⟩, (some .int), "add", [])
abbrev kX2_at : zK := (RX2, cX2_at, 2, ⟨3, 0, 0, 64⟩, (some (.object "Taskgraphic$Node")), "at", [])
abbrev kX2_init : zK := (RX2, cX2_init, 1, ⟨4, 23, 2745, 88⟩, none, "<init>", [])
abbrev kX2_size : zK := (RX2, cX2_size, 1, ⟨1, 0, 0, 20⟩, (some .int), "size", [])
abbrev kX3_addMatches : zK := (RX3, cX3_addMatches, 6, ⟨2, 0, 0, 44⟩, none, "addMatches", [])
abbrev kX3_append : zK := (RX3, cX3_append, 5, ⟨2, 0, 0, 44⟩, none, "append", [])
abbrev kX3_change : zK := (RX3, cX3_change, 8, ⟨3, 0, 0, 65⟩, none, "change", [])
abbrev kX3_deal : zK := (RX3, cX3_deal, 6, ⟨2, 0, 0, 44⟩, none, "deal", [])
abbrev kX3_dealByKey : zK := (RX3, cX3_dealByKey, 6, ⟨2, 0, 0, 44⟩, none, "dealByKey", [])
abbrev kX3_fill : zK := (RX3, cX3_fill, 6, ⟨5, 0, 0, 107⟩, none, "fill", [])
abbrev kX3_forgetAll : zK := (RX3, cX3_forgetAll, 1, ⟨0, 0, 0, 0⟩, none, "forgetAll", [])
abbrev kX3_forgetAllOf : zK := (RX3, cX3_forgetAllOf, 3, ⟨4, 0, 0, 85⟩, none, "forgetAllOf", [])
abbrev kX3_freshRows : zK := (RX3, cX3_freshRows, 4, ⟨6, 0, 0, 132⟩, (some (.object "Taskgraphic$Rows")), "freshRows", [])
abbrev kX3_groupByKey : zK := (RX3, cX3_groupByKey, 8, ⟨2, 0, 0, 46⟩, none, "groupByKey", [])
abbrev kX3_init : zK := (RX3, cX3_init, 3, ⟨3, 7, 909, 63⟩, none, "<init>", [])
abbrev kX3_joinByKey : zK := (RX3, cX3_joinByKey, 7, ⟨3, 0, 0, 69⟩, none, "joinByKey", [])
abbrev kX3_joinInOrder : zK := (RX3, cX3_joinInOrder, 6, ⟨3, 0, 0, 69⟩, none, "joinInOrder", [])
abbrev kX3_joinsBroadly : zK := (RX3, cX3_joinsBroadly, 3, ⟨5, 0, 0, 107⟩, (some .boolean), "joinsBroadly", [])
abbrev kX3_of : zK := (RX3, cX3_of, 3, ⟨4, 0, 0, 85⟩, (some (.object "Taskgraphic$Rows")), "of", [])
abbrev kX3_sift : zK := (RX3, cX3_sift, 7, ⟨2, 0, 0, 44⟩, none, "sift", [])
abbrev kX3_sortByKey : zK := (RX3, cX3_sortByKey, 4, ⟨2, 0, 0, 46⟩, none, "sortByKey", [])
abbrev kX3_unite : zK := (RX3, cX3_unite, 4, ⟨3, 0, 0, 68⟩, none, "unite", [])
abbrev kX4_at : zK := (RX4, cX4_at, 2, ⟨0, 0, 0, 0⟩, (some .int), "at", [])
abbrev kX4_init : zK := (RX4, cX4_init, 2, ⟨1, 1, 300, 21⟩, none, "<init>", [])
abbrev kX4_set : zK := (RX4, cX4_set, 3, ⟨0, 0, 0, 0⟩, none, "set", [])
abbrev kX6_add : zK := (RX6, cX6_add, 8, ⟨1, 0, 0, 22⟩, (some .int), "add", [])
abbrev kX6_begin : zK := (RX6, cX6_begin, 2, ⟨0, 0, 0, 0⟩, none, "begin", [])
abbrev kX6_init : zK := (RX6, cX6_init, 1, ⟨2, 12, 1806, 42⟩, none, "<init>", [])
abbrev kX6_ticksOfAttempts : zK := (RX6, cX6_ticksOfAttempts, 3, ⟨1, 0, 0, 21⟩, (some .int), "ticksOfAttempts", [])
abbrev kX7_firstOfGroup : zK := (RX7, cX7_firstOfGroup, 2, ⟨0, 0, 0, 0⟩, (some .int), "firstOfGroup", [])
abbrev kX7_init : zK := (RX7, cX7_init, 6, ⟨3, 21, 2727, 63⟩, none, "<init>", [])
abbrev kX7_newKey : zK := (RX7, cX7_newKey, 3, ⟨2, 0, 0, 43⟩, (some .int), "newKey", [])
abbrev kX7_newValue : zK := (RX7, cX7_newValue, 3, ⟨0, 0, 0, 0⟩, (some .int), "newValue", [])
abbrev kX7_nextOfGroup : zK := (RX7, cX7_nextOfGroup, 3, ⟨1, 0, 0, 21⟩, (some .int), "nextOfGroup", [])
abbrev kX8_countOfStages : zK := (RX8, cX8_countOfStages, 1, ⟨1, 0, 0, 20⟩, (some .int), "countOfStages", [])
abbrev kX8_draw : zK := (RX8, cX8_draw, 5, ⟨7, 0, 0, 160⟩, none, "draw", [])
abbrev kX8_init : zK := (RX8, cX8_init, 4, ⟨2, 2, 301, 42⟩, none, "<init>", [])
abbrev kX8_needWhole : zK := (RX8, cX8_needWhole, 2, ⟨2, 0, 0, 42⟩, none, "needWhole", [])
abbrev kX8_outputOfStage : zK := (RX8, cX8_outputOfStage, 4, ⟨1, 0, 0, 21⟩, (some .int), "outputOfStage", [])
abbrev kX8_readsOf : zK := (RX8, cX8_readsOf, 3, ⟨1, 0, 0, 21⟩, (some .int), "readsOf", [])
abbrev kX8_readsOfShares : zK := (RX8, cX8_readsOfShares, 4, ⟨5, 0, 0, 107⟩, (some .int), "readsOfShares", [])
abbrev kX8_readsOfTask : zK := (RX8, cX8_readsOfTask, 11, ⟨6, 0, 0, 130⟩, (some .int), "readsOfTask", [])
abbrev kX8_sizeOfShare : zK := (RX8, cX8_sizeOfShare, 5, ⟨2, 0, 0, 43⟩, (some .int), "sizeOfShare", [])
abbrev kX9_add : zK := (RX9, cX9_add, 3, ⟨1, 0, 0, 22⟩, none, "add", [])
abbrev kX9_begin : zK := (RX9, cX9_begin, 2, ⟨1, 0, 0, 21⟩, (some .int), "begin", [])
abbrev kX9_clear : zK := (RX9, cX9_clear, 1, ⟨0, 0, 0, 0⟩, none, "clear", [])
abbrev kX9_end : zK := (RX9, cX9_end, 2, ⟨1, 0, 0, 21⟩, (some .int), "end", [])
abbrev kX9_endPartition : zK := (RX9, cX9_endPartition, 1, ⟨1, 0, 0, 22⟩, none, "endPartition", [])
abbrev kX9_hasKey : zK := (RX9, cX9_hasKey, 3, ⟨1, 0, 0, 21⟩, (some .boolean), "hasKey", [])
abbrev kX9_init : zK := (RX9, cX9_init, 2, ⟨2, 6, 903, 42⟩, none, "<init>", [])
abbrev kX9_insert : zK := (RX9, cX9_insert, 5, ⟨1, 0, 0, 22⟩, none, "insert", [])
abbrev kX9_key : zK := (RX9, cX9_key, 2, ⟨1, 0, 0, 21⟩, (some .int), "key", [])
abbrev kX9_parts : zK := (RX9, cX9_parts, 1, ⟨0, 0, 0, 0⟩, (some .int), "parts", [])
abbrev kX9_placeBehind : zK := (RX9, cX9_placeBehind, 6, ⟨1, 0, 0, 21⟩, (some .int), "placeBehind", [])
abbrev kX9_setValue : zK := (RX9, cX9_setValue, 3, ⟨1, 0, 0, 22⟩, none, "setValue", [])
abbrev kX9_size : zK := (RX9, cX9_size, 1, ⟨0, 0, 0, 0⟩, (some .int), "size", [])
abbrev kX9_sizeOf : zK := (RX9, cX9_sizeOf, 2, ⟨2, 0, 0, 42⟩, (some .int), "sizeOf", [])
abbrev kX9_squares : zK := (RX9, cX9_squares, 4, ⟨1, 0, 0, 21⟩, (some .int), "squares", [])
abbrev kX9_value : zK := (RX9, cX9_value, 2, ⟨1, 0, 0, 21⟩, (some .int), "value", [])
theorem cv_J15_105 : zLs RJ15 105 yJ3_checkIndex_8e157 kJ3_checkIndex_8e157 3 := ⟨(Or.inl w_577), w_578, w_25, w_579, by decide, by decide, by decide +kernel⟩
theorem lc_J6_265 : Cond.constant RJ6 265 (1431655765) ∈ zW := w_1100
theorem lc_J6_266 : Cond.constant RJ6 266 (858993459) ∈ zW := w_1101
theorem lc_J6_267 : Cond.constant RJ6 267 (252645135) ∈ zW := w_1102
theorem cv_J7_300 : zLs RJ7 300 yJ7_copyOf_6403c kJ7_copyOf_6403c 3 := ⟨(Or.inl w_635), w_636, w_27, w_637, by decide, by decide, by decide +kernel⟩
theorem cv_J7_304 : zLs RJ7 304 yJ9_min_7cf53 kJ9_min_7cf53 2 := ⟨(Or.inl w_641), w_642, w_11, w_643, by decide, by decide, by decide +kernel⟩
theorem lc_J8_200 : Cond.constant RJ8 200 (2147483639) ∈ zW := w_607
theorem cv_J8_194 : zLs RJ8 194 yJ9_max_7cf53 kJ9_max_7cf53 2 := ⟨(Or.inl w_606), w_93, w_11, w_94, by decide, by decide, by decide +kernel⟩
theorem cv_J8_201 : zLs RJ8 201 yJ8_hugeLength_7cf53 kJ8_hugeLength_7cf53 2 := ⟨(Or.inl w_608), w_609, w_26, w_610, by decide, by decide, by decide +kernel⟩
theorem cv_Jx4a65c_129 : zLv RJx4a65c 129 yJx4a65c_grow_d5877 kJx4a65c_grow_d5877 0 := ⟨w_595, w_597, (zW_l (i := 3) rfl rfl), w_5, w_598, by decide, by decide, by decide +kernel⟩
theorem fp_Jx4a65c_48 : zFp RJx4a65c 48 0 2 (tyJx4a65c 2) := ⟨RJx4a65c, TJx4a65c, 3, tyJx4a65c, rfl, by decide, (Or.inl w_60), zws_Jx4a65c, tyJx4a65c_ok, nmJx4a65c, rfl, rfl⟩
theorem fl_Jx4a65c_9 : zFl RJx4a65c 9 0 1 := ⟨RJx4a65c, TJx4a65c, 3, rfl, by decide, (Or.inl w_59), zws_Jx4a65c⟩
theorem fl_Jx4a65c_48 : zFl RJx4a65c 48 0 2 := ⟨RJx4a65c, TJx4a65c, 3, rfl, by decide, (Or.inl w_60), zws_Jx4a65c⟩
theorem cv_Jx4a65c_131 : zLv RJx4a65c 131 yJx4a65c_add_72be8 kJx4a65c_add_72be8 3 := ⟨w_591, w_593, (zW_l (i := 2) rfl rfl), w_5, w_594, by decide, by decide, by decide +kernel⟩
theorem cv_Jx4a65c_118 : zLs RJx4a65c 118 yJ15_checkIndex_7cf53 kJ15_checkIndex_7cf53 2 := ⟨(Or.inl w_574), w_575, w_24, w_576, by decide, by decide, by decide +kernel⟩
theorem cv_Jx4a65c_123 : zLv RJx4a65c 123 yJx4a65c_elementData_915e3 kJx4a65c_elementData_915e3 1 := ⟨w_580, w_581, w_582, w_5, w_583, by decide, by decide, by decide +kernel⟩
theorem cv_Jx4a65c_73 : zLs RJx4a65c 73 yJ8_newLength_cabcc kJ8_newLength_cabcc 3 := ⟨(Or.inl w_603), w_604, w_26, w_605, by decide, by decide, by decide +kernel⟩
theorem cv_Jx4a65c_66 : zLs RJx4a65c 66 yJ7_copyOf_1904c kJ7_copyOf_1904c 2 := ⟨(Or.inl w_611), w_612, w_27, w_613, by decide, by decide, by decide +kernel⟩
theorem fp_Jx4a65c_9 : zFp RJx4a65c 9 0 1 (tyJx4a65c 1) := ⟨RJx4a65c, TJx4a65c, 3, tyJx4a65c, rfl, by decide, (Or.inl w_59), zws_Jx4a65c, tyJx4a65c_ok, nmJx4a65c, rfl, rfl⟩
theorem cv_Jx4a65c_79 : zLs RJx4a65c 79 yJ9_max_7cf53 kJ9_max_7cf53 2 := ⟨(Or.inl w_647), w_93, w_11, w_94, by decide, by decide, by decide +kernel⟩
theorem cv_Jx4a65c_69 : zLv RJx4a65c 69 yJx4a65c_grow_92f84 kJx4a65c_grow_92f84 1 := ⟨w_599, w_601, (zW_l (i := 4) rfl rfl), w_5, w_602, by decide, by decide, by decide +kernel⟩
theorem cv_Jx4a65c_1 : zLi RJx4a65c 1 yJxc12de_init_da8c8 kJxc12de_init_da8c8 0 := ⟨(Or.inl w_50), w_51, w_4, w_52, rfl, rfl, by decide, by decide, by decide +kernel⟩
theorem cv_Jxa1e45_1 : Cond.methodLink RJxa1e45 1 objectInit ∈ zW := w_56
theorem cv_Jxc12de_1 : zLi RJxc12de 1 yJxa1e45_init_da8c8 kJxa1e45_init_da8c8 0 := ⟨(Or.inl w_53), w_54, w_3, w_55, rfl, rfl, by decide, by decide, by decide +kernel⟩
theorem cv_L_58 : zLv RL 58 yX11_digest kX11_digest 1 := ⟨w_958, w_959, w_960, w_1, w_961, by decide, by decide, by decide +kernel⟩
theorem cv_L_61 : zLv RL 61 yX11_digestInPlace kX11_digestInPlace 1 := ⟨w_969, w_970, w_971, w_1, w_972, by decide, by decide, by decide +kernel⟩
theorem cv_L_107 : zLv RL 107 yX11_endOf kX11_endOf 1 := ⟨w_1240, w_1241, w_1242, w_1, w_1243, by decide, by decide, by decide +kernel⟩
theorem cv_L_26 : zLv RL 26 yX11_filter kX11_filter 3 := ⟨w_718, w_719, w_720, w_1, w_721, by decide, by decide, by decide +kernel⟩
theorem cv_L_33 : zLv RL 33 yX11_group kX11_group 3 := ⟨w_737, w_738, w_739, w_1, w_740, by decide, by decide, by decide +kernel⟩
theorem cv_L_54 : zLv RL 54 yX11_isBroad kX11_isBroad 1 := ⟨w_945, w_946, w_947, w_1, w_948, by decide, by decide, by decide +kernel⟩
theorem cv_L_83 : zLv RL 83 yX11_isCached kX11_isCached 1 := ⟨w_1042, w_1043, w_1044, w_1, w_1045, by decide, by decide, by decide +kernel⟩
theorem cv_L_110 : zLv RL 110 yX11_isCopy kX11_isCopy 1 := ⟨w_1247, w_1248, w_1249, w_1, w_1250, by decide, by decide, by decide +kernel⟩
theorem cv_L_36 : zLv RL 36 yX11_join kX11_join 3 := ⟨w_747, w_748, w_749, w_1, w_750, by decide, by decide, by decide +kernel⟩
theorem cv_L_48 : zLv RL 48 yX11_keyAt kX11_keyAt 3 := ⟨w_924, w_925, w_926, w_1, w_927, by decide, by decide, by decide +kernel⟩
theorem nw_L_8 : zNw RL 8 11 [.null, .null, .null, .null, .null, .null, .null, .null, .int 0] := ⟨RX11, TX11, 9, tyX11, rfl, w_31, w_32, w_1, zws_X11, tyX11_ok, (by decide +kernel), rfl⟩
theorem cv_L_113 : zLi RL 113 yX11_init kX11_init 0 := ⟨(Or.inl w_33), w_34, w_1, w_35, rfl, rfl, by decide, by decide, by decide +kernel⟩
theorem nw_L_114 : zNw RL 114 12 [.int 0, .null, .null, .null, .null, .null, .null, .null, .null, .null, .null, .null, .null, .int 0, .null, .null, .null, .null, .int 0, .int 0, .int 0, .null, .int 0, .null, .null, .null, .int 0, .null, .null, .null, .int 0, .int 0, .int 0, .int 0, .null, .null, .null, .null, .null, .null, .null, .null, .null, .null, .int 0] := ⟨RX12, TX12, 45, tyX12, rfl, w_1251, w_1252, w_18, zws_X12, tyX12_ok, (by decide +kernel), rfl⟩
theorem cv_L_116 : zLi RL 116 yX12_init kX12_init 0 := ⟨(Or.inl w_1253), w_1254, w_18, w_1255, rfl, rfl, by decide, by decide, by decide +kernel⟩
theorem cv_L_122 : zLv RL 122 yX12_source kX12_source 1 := ⟨w_1398, w_1399, w_1400, w_18, w_1401, by decide, by decide, by decide +kernel⟩
theorem cv_L_123 : zLv RL 123 yX12_thrown kX12_thrown 0 := ⟨w_1394, w_1395, w_1396, w_18, w_1397, by decide, by decide, by decide +kernel⟩
theorem cv_L_130 : zLv RL 130 yX12_put kX12_put 3 := ⟨w_1410, w_1411, w_1412, w_18, w_1413, by decide, by decide, by decide +kernel⟩
theorem cv_L_133 : zLv RL 133 yX12_map kX12_map 3 := ⟨w_1422, w_1423, w_1424, w_18, w_1425, by decide, by decide, by decide +kernel⟩
theorem cv_L_136 : zLv RL 136 yX12_filter kX12_filter 3 := ⟨w_1426, w_1427, w_1428, w_18, w_1429, by decide, by decide, by decide +kernel⟩
theorem cv_L_140 : zLv RL 140 yX12_union kX12_union 2 := ⟨w_1430, w_1431, w_1432, w_18, w_1433, by decide, by decide, by decide +kernel⟩
theorem cv_L_143 : zLv RL 143 yX12_group kX12_group 3 := ⟨w_1434, w_1435, w_1436, w_18, w_1437, by decide, by decide, by decide +kernel⟩
theorem cv_L_146 : zLv RL 146 yX12_join kX12_join 3 := ⟨w_1438, w_1439, w_1440, w_18, w_1441, by decide, by decide, by decide +kernel⟩
theorem cv_L_147 : zLv RL 147 yX11_nodes kX11_nodes 0 := ⟨w_423, w_424, w_425, w_1, w_426, by decide, by decide, by decide +kernel⟩
theorem cv_L_150 : zLv RL 150 yX12_nodes kX12_nodes 0 := ⟨w_1442, w_1443, w_1444, w_18, w_1445, by decide, by decide, by decide +kernel⟩
theorem cv_L_153 : zLv RL 153 yX12_partitions kX12_partitions 1 := ⟨w_1450, w_1451, w_1452, w_18, w_1453, by decide, by decide, by decide +kernel⟩
theorem cv_L_156 : zLv RL 156 yX12_rowsIn kX12_rowsIn 2 := ⟨w_1515, w_1516, w_1517, w_18, w_1518, by decide, by decide, by decide +kernel⟩
theorem cv_L_159 : zLv RL 159 yX12_rows kX12_rows 1 := ⟨w_1527, w_1528, w_1529, w_18, w_1530, by decide, by decide, by decide +kernel⟩
theorem cv_L_162 : zLv RL 162 yX12_keyAt kX12_keyAt 3 := ⟨w_1531, w_1532, w_1533, w_18, w_1534, by decide, by decide, by decide +kernel⟩
theorem cv_L_165 : zLv RL 165 yX12_valueAt kX12_valueAt 3 := ⟨w_1539, w_1540, w_1541, w_18, w_1542, by decide, by decide, by decide +kernel⟩
theorem cv_L_168 : zLv RL 168 yX12_isBroad kX12_isBroad 1 := ⟨w_1543, w_1544, w_1545, w_18, w_1546, by decide, by decide, by decide +kernel⟩
theorem cv_L_171 : zLv RL 171 yX12_digest kX12_digest 1 := ⟨w_1547, w_1548, w_1549, w_18, w_1550, by decide, by decide, by decide +kernel⟩
theorem cv_L_174 : zLv RL 174 yX12_digestInPlace kX12_digestInPlace 1 := ⟨w_1555, w_1556, w_1557, w_18, w_1558, by decide, by decide, by decide +kernel⟩
theorem cv_L_177 : zLv RL 177 yX12_setWorkers kX12_setWorkers 1 := ⟨w_1559, w_1560, w_1561, w_18, w_1562, by decide, by decide, by decide +kernel⟩
theorem cv_L_180 : zLv RL 180 yX12_setSlowness kX12_setSlowness 2 := ⟨w_1563, w_1564, w_1565, w_18, w_1566, by decide, by decide, by decide +kernel⟩
theorem cv_L_183 : zLv RL 183 yX12_setMemory kX12_setMemory 1 := ⟨w_1567, w_1568, w_1569, w_18, w_1570, by decide, by decide, by decide +kernel⟩
theorem cv_L_186 : zLv RL 186 yX12_setLimit kX12_setLimit 1 := ⟨w_1571, w_1572, w_1573, w_18, w_1574, by decide, by decide, by decide +kernel⟩
theorem cv_L_189 : zLv RL 189 yX12_setRoom kX12_setRoom 1 := ⟨w_1575, w_1576, w_1577, w_18, w_1578, by decide, by decide, by decide +kernel⟩
theorem cv_L_193 : zLv RL 193 yX12_mark kX12_mark 2 := ⟨w_1587, w_1588, w_1589, w_18, w_1590, by decide, by decide, by decide +kernel⟩
theorem cv_L_196 : zLv RL 196 yX12_isCached kX12_isCached 1 := ⟨w_1591, w_1592, w_1593, w_18, w_1594, by decide, by decide, by decide +kernel⟩
theorem cv_L_199 : zLv RL 199 yX12_stages kX12_stages 1 := ⟨w_1595, w_1596, w_1597, w_18, w_1598, by decide, by decide, by decide +kernel⟩
theorem cv_L_202 : zLv RL 202 yX12_outputOf kX12_outputOf 2 := ⟨w_1615, w_1616, w_1617, w_18, w_1618, by decide, by decide, by decide +kernel⟩
theorem cv_L_205 : zLv RL 205 yX12_run kX12_run 1 := ⟨w_1619, w_1620, w_1621, w_18, w_1622, by decide, by decide, by decide +kernel⟩
theorem cv_L_206 : zLv RL 206 yX11_ticks kX11_ticks 0 := ⟨w_435, w_436, w_437, w_1, w_438, by decide, by decide, by decide +kernel⟩
theorem cv_L_209 : zLv RL 209 yX12_ticks kX12_ticks 0 := ⟨w_1643, w_1644, w_1645, w_18, w_1646, by decide, by decide, by decide +kernel⟩
theorem cv_L_210 : zLv RL 210 yX11_spilled kX11_spilled 0 := ⟨w_439, w_440, w_441, w_1, w_442, by decide, by decide, by decide +kernel⟩
theorem cv_L_213 : zLv RL 213 yX12_spilled kX12_spilled 0 := ⟨w_1647, w_1648, w_1649, w_18, w_1650, by decide, by decide, by decide +kernel⟩
theorem cv_L_214 : zLv RL 214 yX11_attempts kX11_attempts 0 := ⟨w_443, w_444, w_445, w_1, w_446, by decide, by decide, by decide +kernel⟩
theorem cv_L_217 : zLv RL 217 yX12_attempts kX12_attempts 0 := ⟨w_1651, w_1652, w_1653, w_18, w_1654, by decide, by decide, by decide +kernel⟩
theorem cv_L_220 : zLv RL 220 yX12_nodeOf kX12_nodeOf 1 := ⟨w_1655, w_1656, w_1657, w_18, w_1658, by decide, by decide, by decide +kernel⟩
theorem cv_L_223 : zLv RL 223 yX12_partitionOf kX12_partitionOf 1 := ⟨w_1663, w_1664, w_1665, w_18, w_1666, by decide, by decide, by decide +kernel⟩
theorem cv_L_226 : zLv RL 226 yX12_workerOf kX12_workerOf 1 := ⟨w_1667, w_1668, w_1669, w_18, w_1670, by decide, by decide, by decide +kernel⟩
theorem cv_L_229 : zLv RL 229 yX12_startOf kX12_startOf 1 := ⟨w_1671, w_1672, w_1673, w_18, w_1674, by decide, by decide, by decide +kernel⟩
theorem cv_L_232 : zLv RL 232 yX12_endOf kX12_endOf 1 := ⟨w_1675, w_1676, w_1677, w_18, w_1678, by decide, by decide, by decide +kernel⟩
theorem cv_L_235 : zLv RL 235 yX12_isCopy kX12_isCopy 1 := ⟨w_1679, w_1680, w_1681, w_18, w_1682, by decide, by decide, by decide +kernel⟩
theorem cv_L_236 : zLv RL 236 yX11_share kX11_share 0 := ⟨w_447, w_448, w_449, w_1, w_450, by decide, by decide, by decide +kernel⟩
theorem cv_L_240 : zLv RL 240 yX12_share_ kX12_share_ 0 := ⟨w_1683, w_1684, w_1685, w_18, w_1686, by decide, by decide, by decide +kernel⟩
theorem cv_L_23 : zLv RL 23 yX11_map kX11_map 3 := ⟨w_704, w_705, w_706, w_1, w_707, by decide, by decide, by decide +kernel⟩
theorem cv_L_79 : zLv RL 79 yX11_mark kX11_mark 2 := ⟨w_1035, w_1036, w_1037, w_1, w_1038, by decide, by decide, by decide +kernel⟩
theorem cv_L_95 : zLv RL 95 yX11_nodeOf kX11_nodeOf 1 := ⟨w_1207, w_1208, w_1209, w_1, w_1210, by decide, by decide, by decide +kernel⟩
theorem cv_L_89 : zLv RL 89 yX11_outputOf kX11_outputOf 2 := ⟨w_1106, w_1107, w_1108, w_1, w_1109, by decide, by decide, by decide +kernel⟩
theorem cv_L_98 : zLv RL 98 yX11_partitionOf kX11_partitionOf 1 := ⟨w_1219, w_1220, w_1221, w_1, w_1222, by decide, by decide, by decide +kernel⟩
theorem cv_L_39 : zLv RL 39 yX11_partitions kX11_partitions 1 := ⟨w_758, w_759, w_760, w_1, w_761, by decide, by decide, by decide +kernel⟩
theorem cv_L_17 : zLv RL 17 yX11_put kX11_put 3 := ⟨w_653, w_654, w_655, w_1, w_656, by decide, by decide, by decide +kernel⟩
theorem cv_L_45 : zLv RL 45 yX11_rows kX11_rows 1 := ⟨w_917, w_918, w_919, w_1, w_920, by decide, by decide, by decide +kernel⟩
theorem cv_L_42 : zLv RL 42 yX11_rowsIn kX11_rowsIn 2 := ⟨w_900, w_901, w_902, w_1, w_903, by decide, by decide, by decide +kernel⟩
theorem cv_L_92 : zLv RL 92 yX11_run kX11_run 1 := ⟨w_1118, w_1119, w_1120, w_1, w_1121, by decide, by decide, by decide +kernel⟩
theorem cv_L_73 : zLv RL 73 yX11_setLimit kX11_setLimit 1 := ⟨w_1006, w_1007, w_1008, w_1, w_1009, by decide, by decide, by decide +kernel⟩
theorem cv_L_70 : zLv RL 70 yX11_setMemory kX11_setMemory 1 := ⟨w_995, w_996, w_997, w_1, w_998, by decide, by decide, by decide +kernel⟩
theorem cv_L_76 : zLv RL 76 yX11_setRoom kX11_setRoom 1 := ⟨w_1017, w_1018, w_1019, w_1, w_1020, by decide, by decide, by decide +kernel⟩
theorem cv_L_67 : zLv RL 67 yX11_setSlowness kX11_setSlowness 2 := ⟨w_984, w_985, w_986, w_1, w_987, by decide, by decide, by decide +kernel⟩
theorem cv_L_64 : zLv RL 64 yX11_setWorkers kX11_setWorkers 1 := ⟨w_976, w_977, w_978, w_1, w_979, by decide, by decide, by decide +kernel⟩
theorem cv_L_7 : zLv RL 7 yX11_source kX11_source 1 := ⟨w_464, w_465, w_466, w_1, w_467, by decide, by decide, by decide +kernel⟩
theorem cv_L_86 : zLv RL 86 yX11_stages kX11_stages 1 := ⟨w_1054, w_1055, w_1056, w_1, w_1057, by decide, by decide, by decide +kernel⟩
theorem cv_L_104 : zLv RL 104 yX11_startOf kX11_startOf 1 := ⟨w_1233, w_1234, w_1235, w_1, w_1236, by decide, by decide, by decide +kernel⟩
theorem cv_L_29 : zLv RL 29 yX11_union kX11_union 2 := ⟨w_727, w_728, w_729, w_1, w_730, by decide, by decide, by decide +kernel⟩
theorem cv_L_51 : zLv RL 51 yX11_valueAt kX11_valueAt 3 := ⟨w_937, w_938, w_939, w_1, w_940, by decide, by decide, by decide +kernel⟩
theorem cv_L_101 : zLv RL 101 yX11_workerOf kX11_workerOf 1 := ⟨w_1226, w_1227, w_1228, w_1, w_1229, by decide, by decide, by decide +kernel⟩
theorem fl_X0_14 : zFl RX0 14 1 0 := ⟨RX0, TX0, 6, rfl, by decide, (Or.inl w_228), zws_X0⟩
theorem fl_X0_31 : zFl RX0 31 1 2 := ⟨RX0, TX0, 6, rfl, by decide, (Or.inl w_230), zws_X0⟩
theorem cv_X0_54 : zLv RX0 54 yX4_set kX4_set 2 := ⟨w_1031, w_377, w_378, w_10, w_379, by decide, by decide, by decide +kernel⟩
theorem fl_X0_20 : zFl RX0 20 1 1 := ⟨RX0, TX0, 6, rfl, by decide, (Or.inl w_229), zws_X0⟩
theorem fl_X0_23 : zFl RX0 23 1 3 := ⟨RX0, TX0, 6, rfl, by decide, (Or.inl w_231), zws_X0⟩
theorem cv_X0_57 : zLs RX0 57 yX11_with kX11_with 2 := ⟨(Or.inr ⟨"Taskgraphic", w_1030⟩), w_585, w_1, w_586, by decide, by decide, by decide +kernel⟩
theorem fp_X0_23 : zFp RX0 23 1 3 (tyX0 3) := ⟨RX0, TX0, 6, tyX0, rfl, by decide, (Or.inl w_231), zws_X0, tyX0_ok, nmX0, rfl, rfl⟩
theorem fl_X0_34 : zFl RX0 34 1 4 := ⟨RX0, TX0, 6, rfl, by decide, (Or.inl w_232), zws_X0⟩
theorem fp_X0_34 : zFp RX0 34 1 4 (tyX0 4) := ⟨RX0, TX0, 6, tyX0, rfl, by decide, (Or.inl w_232), zws_X0, tyX0_ok, nmX0, rfl, rfl⟩
theorem fp_X0_31 : zFp RX0 31 1 2 (tyX0 2) := ⟨RX0, TX0, 6, tyX0, rfl, by decide, (Or.inl w_230), zws_X0, tyX0_ok, nmX0, rfl, rfl⟩
theorem fl_X0_48 : zFl RX0 48 1 5 := ⟨RX0, TX0, 6, rfl, by decide, (Or.inl w_233), zws_X0⟩
theorem cv_X0_51 : zLv RX0 51 yX0_makeRoomFor kX0_makeRoomFor 1 := ⟨w_1203, w_1022, w_1023, w_13, w_1024, by decide, by decide, by decide +kernel⟩
theorem cv_X0_44 : zLv RX0 44 yX0_append kX0_append 2 := ⟨w_1195, w_1197, (zW_l (i := 28) rfl rfl), w_13, w_1198, by decide, by decide, by decide +kernel⟩
theorem cv_X0_27 : zLs RX0 27 yX11_has kX11_has 2 := ⟨(Or.inr ⟨"Taskgraphic", w_1050⟩), w_694, w_1, w_695, by decide, by decide, by decide +kernel⟩
theorem cv_X0_3 : Cond.methodLink RX0 3 objectInit ∈ zW := w_225
theorem nw_X0_9 : zNw RX0 9 5 [.null] := ⟨RX4, TX4, 1, tyX4, rfl, w_226, w_87, w_10, zws_X4, tyX4_ok, (by decide +kernel), rfl⟩
theorem cv_X0_11 : zLi RX0 11 yX4_init kX4_init 1 := ⟨(Or.inl w_227), w_89, w_10, w_90, rfl, rfl, by decide, by decide, by decide +kernel⟩
theorem ff_X0_14 : zFf RX0 14 1 0 (tyX0 0) := ⟨RX0, TX0, 6, tyX0, rfl, by decide, w_228, zws_X0, tyX0_ok, nmX0, rfl, rfl, rfl⟩
theorem ff_X0_20 : zFf RX0 20 1 1 (tyX0 1) := ⟨RX0, TX0, 6, tyX0, rfl, by decide, w_229, zws_X0, tyX0_ok, nmX0, rfl, rfl, rfl⟩
theorem cv_X0_37 : zLv RX0 37 yX4_at kX4_at 1 := ⟨w_1029, w_456, w_457, w_10, w_458, by decide, by decide, by decide +kernel⟩
theorem cv_X0_41 : zLv RX0 41 yX0_remove kX0_remove 1 := ⟨w_1025, w_1027, (zW_l (i := 19) rfl rfl), w_13, w_1028, by decide, by decide, by decide +kernel⟩
theorem fp_X10_26 : zFp RX10 26 10 3 (tyX10 3) := ⟨RX10, TX10, 7, tyX10, rfl, by decide, (Or.inl w_296), zws_X10, tyX10_ok, nmX10, rfl, rfl⟩
theorem fp_X10_30 : zFp RX10 30 10 4 (tyX10 4) := ⟨RX10, TX10, 7, tyX10, rfl, by decide, (Or.inl w_298), zws_X10, tyX10_ok, nmX10, rfl, rfl⟩
theorem fp_X10_33 : zFp RX10 33 10 5 (tyX10 5) := ⟨RX10, TX10, 7, tyX10, rfl, by decide, (Or.inl w_300), zws_X10, tyX10_ok, nmX10, rfl, rfl⟩
theorem fp_X10_36 : zFp RX10 36 10 6 (tyX10 6) := ⟨RX10, TX10, 7, tyX10, rfl, by decide, (Or.inl w_302), zws_X10, tyX10_ok, nmX10, rfl, rfl⟩
theorem fl_X10_36 : zFl RX10 36 10 6 := ⟨RX10, TX10, 7, rfl, by decide, (Or.inl w_302), zws_X10⟩
theorem cv_X10_43 : zLs RX10 43 yX11_with kX11_with 2 := ⟨(Or.inr ⟨"Taskgraphic", w_1182⟩), w_585, w_1, w_586, by decide, by decide, by decide +kernel⟩
theorem fl_X10_20 : zFl RX10 20 10 1 := ⟨RX10, TX10, 7, rfl, by decide, (Or.inl w_292), zws_X10⟩
theorem cv_X10_39 : zLv RX10 39 yX4_set kX4_set 2 := ⟨w_1168, w_377, w_378, w_10, w_379, by decide, by decide, by decide +kernel⟩
theorem fl_X10_33 : zFl RX10 33 10 5 := ⟨RX10, TX10, 7, rfl, by decide, (Or.inl w_300), zws_X10⟩
theorem cv_X10_47 : zLv RX10 47 yX4_at kX4_at 1 := ⟨w_1149, w_456, w_457, w_10, w_458, by decide, by decide, by decide +kernel⟩
theorem cv_X10_3 : Cond.methodLink RX10 3 objectInit ∈ zW := w_286
theorem nw_X10_9 : zNw RX10 9 5 [.null] := ⟨RX4, TX4, 1, tyX4, rfl, w_287, w_87, w_10, zws_X4, tyX4_ok, (by decide +kernel), rfl⟩
theorem cv_X10_11 : zLi RX10 11 yX4_init kX4_init 1 := ⟨(Or.inl w_288), w_89, w_10, w_90, rfl, rfl, by decide, by decide, by decide +kernel⟩
theorem ff_X10_14 : zFf RX10 14 10 0 (tyX10 0) := ⟨RX10, TX10, 7, tyX10, rfl, by decide, w_289, zws_X10, tyX10_ok, nmX10, rfl, rfl, rfl⟩
theorem ff_X10_20 : zFf RX10 20 10 1 (tyX10 1) := ⟨RX10, TX10, 7, tyX10, rfl, by decide, w_292, zws_X10, tyX10_ok, nmX10, rfl, rfl, rfl⟩
theorem ff_X10_23 : zFf RX10 23 10 2 (tyX10 2) := ⟨RX10, TX10, 7, tyX10, rfl, by decide, w_294, zws_X10, tyX10_ok, nmX10, rfl, rfl, rfl⟩
theorem fl_X10_30 : zFl RX10 30 10 4 := ⟨RX10, TX10, 7, rfl, by decide, (Or.inl w_298), zws_X10⟩
theorem cv_X10_51 : zLs RX10 51 yX11_has kX11_has 2 := ⟨(Or.inr ⟨"Taskgraphic", w_1177⟩), w_694, w_1, w_695, by decide, by decide, by decide +kernel⟩
theorem fl_X10_23 : zFl RX10 23 10 2 := ⟨RX10, TX10, 7, rfl, by decide, (Or.inl w_294), zws_X10⟩
theorem fl_X11_58 : zFl RX11 58 11 7 := ⟨RX11, TX11, 9, rfl, by decide, (Or.inl w_402), zws_X11⟩
theorem fl_X11_304 : zFl RX11 304 6 6 := ⟨RX6, TX6, 10, rfl, by decide, (Or.inl w_341), zws_X6⟩
theorem fl_X11_16 : zFl RX11 16 11 0 := ⟨RX11, TX11, 9, rfl, by decide, (Or.inl w_395), zws_X11⟩
theorem cv_X11_99 : zLv RX11 99 yX2_at kX2_at 1 := ⟨w_677, w_567, w_568, w_2, w_569, by decide, by decide, by decide +kernel⟩
theorem nw_X11_78 : zNw RX11 78 7 [.null, .int 0, .int 0, .int 0, .int 0, .null, .null, .null, .int 0, .int 0, .int 0, .int 0, .int 0, .int 0, .int 0] := ⟨RX7, TX7, 15, tyX7, rfl, w_559, w_72, w_6, zws_X7, tyX7_ok, (by decide +kernel), rfl⟩
theorem fl_X11_159 : zFl RX11 159 7 3 := ⟨RX7, TX7, 15, rfl, by decide, (Or.inl w_132), zws_X7⟩
theorem fl_X11_162 : zFl RX11 162 7 4 := ⟨RX7, TX7, 15, rfl, by decide, (Or.inl w_134), zws_X7⟩
theorem cv_X11_86 : zLi RX11 86 yX7_init kX7_init 5 := ⟨(Or.inl w_561), w_76, w_6, w_77, rfl, rfl, by decide, by decide, by decide +kernel⟩
theorem cv_X11_186 : zLv RX11 186 yX2_size kX2_size 0 := ⟨w_427, w_428, w_429, w_2, w_430, by decide, by decide, by decide +kernel⟩
theorem cv_X11_191 : zLv RX11 191 yX9_parts kX9_parts 0 := ⟨w_896, w_810, w_811, w_9, w_812, by decide, by decide, by decide +kernel⟩
theorem cv_X11_194 : zLs RX11 194 yX11_checkPartition kX11_checkPartition 2 := ⟨(Or.inl w_904), w_905, w_1, w_906, by decide, by decide, by decide +kernel⟩
theorem cv_X11_198 : zLv RX11 198 yX9_sizeOf kX9_sizeOf 1 := ⟨w_908, w_909, w_910, w_9, w_911, by decide, by decide, by decide +kernel⟩
theorem cv_X11_96 : zLv RX11 96 yX11_checkNode kX11_checkNode 1 := ⟨w_657, w_659, (zW_l (i := 5) rfl rfl), w_1, w_660, by decide, by decide, by decide +kernel⟩
theorem fl_X11_25 : zFl RX11 25 11 1 := ⟨RX11, TX11, 9, rfl, by decide, (Or.inl w_396), zws_X11⟩
theorem cv_X11_187 : zLv RX11 187 yX3_freshRows kX3_freshRows 1 := ⟨w_762, w_763, w_764, w_12, w_765, by decide, by decide, by decide +kernel⟩
theorem cv_X11_221 : zLv RX11 221 yX9_squares kX9_squares 0 := ⟨w_962, w_963, w_964, w_9, w_965, by decide, by decide, by decide +kernel⟩
theorem fl_X11_29 : zFl RX11 29 11 2 := ⟨RX11, TX11, 9, rfl, by decide, (Or.inl w_397), zws_X11⟩
theorem cv_X11_307 : zLv RX11 307 yX11_checkAttempt kX11_checkAttempt 1 := ⟨w_1211, w_1213, (zW_l (i := 29) rfl rfl), w_1, w_1214, by decide, by decide, by decide +kernel⟩
theorem fl_X11_320 : zFl RX11 320 6 4 := ⟨RX6, TX6, 10, rfl, by decide, (Or.inr ⟨"Taskgraphic", w_337⟩), zws_X6⟩
theorem cv_X11_239 : zLv RX11 239 yX4_at kX4_at 1 := ⟨w_990, w_456, w_457, w_10, w_458, by decide, by decide, by decide +kernel⟩
theorem cv_X11_75 : zLv RX11 75 yX11_checkAnotherNode kX11_checkAnotherNode 0 := ⟨w_539, w_541, (zW_l (i := 1) rfl rfl), w_1, w_542, by decide, by decide, by decide +kernel⟩
theorem fs_X11_150 : Cond.fieldLink RX11 150 RX5 (zKn 2) "LTaskgraphic$Kind;" ∈ zW ∨ ∃ host, Cond.fieldLinkNest RX11 150 RX5 (zKn 2) "LTaskgraphic$Kind;" host ∈ zN := Or.inl w_722
theorem cv_X11_140 : zLv RX11 140 yX11_changeOf kX11_changeOf 2 := ⟨w_711, w_713, (zW_l (i := 6) rfl rfl), w_1, w_714, by decide, by decide, by decide +kernel⟩
theorem fp_X11_153 : zFp RX11 153 7 11 (tyX7 11) := ⟨RX7, TX7, 15, tyX7, rfl, by decide, (Or.inl w_149), zws_X7, tyX7_ok, nmX7, rfl, rfl⟩
theorem fp_X11_156 : zFp RX11 156 7 12 (tyX7 12) := ⟨RX7, TX7, 15, tyX7, rfl, by decide, (Or.inl w_151), zws_X7, tyX7_ok, nmX7, rfl, rfl⟩
theorem cv_X11_92 : zLv RX11 92 yX2_add kX2_add 1 := ⟨w_562, w_563, w_564, w_2, w_565, by decide, by decide, by decide +kernel⟩
theorem cv_X11_71 : zLs RX11 71 yX11_checkToldPartitions kX11_checkToldPartitions 1 := ⟨(Or.inl w_468), w_469, w_1, w_470, by decide, by decide, by decide +kernel⟩
theorem fs_X11_172 : Cond.fieldLink RX11 172 RX5 (zKn 4) "LTaskgraphic$Kind;" ∈ zW ∨ ∃ host, Cond.fieldLinkNest RX11 172 RX5 (zKn 4) "LTaskgraphic$Kind;" host ∈ zN := Or.inl w_742
theorem fp_X11_144 : zFp RX11 144 7 9 (tyX7 9) := ⟨RX7, TX7, 15, tyX7, rfl, by decide, (Or.inl w_146), zws_X7, tyX7_ok, nmX7, rfl, rfl⟩
theorem fp_X11_89 : zFp RX11 89 7 8 (tyX7 8) := ⟨RX7, TX7, 15, tyX7, rfl, by decide, (Or.inl w_142), zws_X7, tyX7_ok, nmX7, rfl, rfl⟩
theorem cv_X11_3 : Cond.methodLink RX11 3 objectInit ∈ zW := w_36
theorem fp_X11_9 : zFp RX11 9 11 8 (tyX11 8) := ⟨RX11, TX11, 9, tyX11, rfl, by decide, (Or.inl w_403), zws_X11, tyX11_ok, nmX11, rfl, rfl⟩
theorem nw_X11_13 : zNw RX11 13 3 [.null, .null, .int 0] := ⟨RX2, TX2, 3, tyX2, rfl, w_39, w_40, w_2, zws_X2, tyX2_ok, (by decide +kernel), rfl⟩
theorem cv_X11_15 : zLi RX11 15 yX2_init kX2_init 0 := ⟨(Or.inr ⟨"Taskgraphic", w_41⟩), w_42, w_2, w_43, rfl, rfl, by decide, by decide, by decide +kernel⟩
theorem ff_X11_16 : zFf RX11 16 11 0 (tyX11 0) := ⟨RX11, TX11, 9, tyX11, rfl, by decide, w_395, zws_X11, tyX11_ok, nmX11, rfl, rfl, rfl⟩
theorem nw_X11_20 : zNw RX11 20 4 [.null, .int 0, .null, .int 0] := ⟨RX3, TX3, 4, tyX3, rfl, w_199, w_200, w_12, zws_X3, tyX3_ok, (by decide +kernel), rfl⟩
theorem cv_X11_22 : zLi RX11 22 yX3_init kX3_init 2 := ⟨(Or.inl w_201), w_202, w_12, w_203, rfl, rfl, by decide, by decide, by decide +kernel⟩
theorem ff_X11_25 : zFf RX11 25 11 1 (tyX11 1) := ⟨RX11, TX11, 9, tyX11, rfl, by decide, w_396, zws_X11, tyX11_ok, nmX11, rfl, rfl, rfl⟩
theorem ff_X11_29 : zFf RX11 29 11 2 (tyX11 2) := ⟨RX11, TX11, 9, tyX11, rfl, by decide, w_397, zws_X11, tyX11_ok, nmX11, rfl, rfl, rfl⟩
theorem nw_X11_32 : zNw RX11 32 1 [.null, .null, .int 0, .int 0, .int 0, .int 0] := ⟨RX0, TX0, 6, tyX0, rfl, w_220, w_221, w_13, zws_X0, tyX0_ok, (by decide +kernel), rfl⟩
theorem cv_X11_34 : zLi RX11 34 yX0_init kX0_init 0 := ⟨(Or.inr ⟨"Taskgraphic", w_222⟩), w_223, w_13, w_224, rfl, rfl, by decide, by decide, by decide +kernel⟩
theorem ff_X11_35 : zFf RX11 35 11 3 (tyX11 3) := ⟨RX11, TX11, 9, tyX11, rfl, by decide, w_398, zws_X11, tyX11_ok, nmX11, rfl, rfl, rfl⟩
theorem nw_X11_39 : zNw RX11 39 8 [.null, .null, .null, .null, .int 0, .int 0, .int 0] := ⟨RX8, TX8, 7, tyX8, rfl, w_248, w_249, w_14, zws_X8, tyX8_ok, (by decide +kernel), rfl⟩
theorem fl_X11_35 : zFl RX11 35 11 3 := ⟨RX11, TX11, 9, rfl, by decide, (Or.inl w_398), zws_X11⟩
theorem cv_X11_41 : zLi RX11 41 yX8_init kX8_init 3 := ⟨(Or.inl w_250), w_251, w_14, w_252, rfl, rfl, by decide, by decide, by decide +kernel⟩
theorem ff_X11_44 : zFf RX11 44 11 4 (tyX11 4) := ⟨RX11, TX11, 9, tyX11, rfl, by decide, w_399, zws_X11, tyX11_ok, nmX11, rfl, rfl, rfl⟩
theorem nw_X11_48 : zNw RX11 48 10 [.null, .null, .null, .int 0, .int 0, .int 0, .int 0] := ⟨RX10, TX10, 7, tyX10, rfl, w_281, w_282, w_15, zws_X10, tyX10_ok, (by decide +kernel), rfl⟩
theorem cv_X11_50 : zLi RX11 50 yX10_init kX10_init 0 := ⟨(Or.inr ⟨"Taskgraphic", w_283⟩), w_284, w_15, w_285, rfl, rfl, by decide, by decide, by decide +kernel⟩
theorem ff_X11_51 : zFf RX11 51 11 5 (tyX11 5) := ⟨RX11, TX11, 9, tyX11, rfl, by decide, w_400, zws_X11, tyX11_ok, nmX11, rfl, rfl, rfl⟩
theorem nw_X11_55 : zNw RX11 55 6 [.null, .null, .null, .null, .null, .null, .int 0, .int 0, .int 0, .int 0] := ⟨RX6, TX6, 10, tyX6, rfl, w_318, w_319, w_16, zws_X6, tyX6_ok, (by decide +kernel), rfl⟩
theorem cv_X11_57 : zLi RX11 57 yX6_init kX6_init 0 := ⟨(Or.inr ⟨"Taskgraphic", w_320⟩), w_321, w_16, w_322, rfl, rfl, by decide, by decide, by decide +kernel⟩
theorem ff_X11_58 : zFf RX11 58 11 7 (tyX11 7) := ⟨RX11, TX11, 9, tyX11, rfl, by decide, w_402, zws_X11, tyX11_ok, nmX11, rfl, rfl, rfl⟩
theorem nw_X11_62 : zNw RX11 62 2 [.null, .null, .null, .int 0] := ⟨RX1, TX1, 4, tyX1, rfl, w_368, w_369, w_17, zws_X1, tyX1_ok, (by decide +kernel), rfl⟩
theorem cv_X11_64 : zLi RX11 64 yX1_init kX1_init 1 := ⟨(Or.inl w_370), w_371, w_17, w_372, rfl, rfl, by decide, by decide, by decide +kernel⟩
theorem ff_X11_67 : zFf RX11 67 11 6 (tyX11 6) := ⟨RX11, TX11, 9, tyX11, rfl, by decide, w_401, zws_X11, tyX11_ok, nmX11, rfl, rfl, rfl⟩
theorem fl_X11_103 : zFl RX11 103 7 0 := ⟨RX7, TX7, 15, rfl, by decide, (Or.inl w_120), zws_X7⟩
theorem fs_X11_183 : Cond.fieldLink RX11 183 RX5 (zKn 5) "LTaskgraphic$Kind;" ∈ zW ∨ ∃ host, Cond.fieldLinkNest RX11 183 RX5 (zKn 5) "LTaskgraphic$Kind;" host ∈ zN := Or.inl w_753
theorem cv_X11_217 : zLv RX11 217 yX3_joinsBroadly kX3_joinsBroadly 1 := ⟨w_950, w_951, w_952, w_12, w_953, by decide, by decide, by decide +kernel⟩
theorem cv_X11_265 : zLv RX11 265 yX0_holds kX0_holds 1 := ⟨w_1046, w_1047, w_1048, w_13, w_1049, by decide, by decide, by decide +kernel⟩
theorem fl_X11_323 : zFl RX11 323 6 5 := ⟨RX6, TX6, 10, rfl, by decide, (Or.inr ⟨"Taskgraphic", w_339⟩), zws_X6⟩
theorem cv_X11_177 : zLs RX11 177 yJ9_max_7cf53 kJ9_max_7cf53 2 := ⟨(Or.inl w_752), w_93, w_11, w_94, by decide, by decide, by decide +kernel⟩
theorem cv_X11_202 : zLs RX11 202 yX11_checkPlace kX11_checkPlace 3 := ⟨(Or.inl w_928), w_929, w_1, w_930, by decide, by decide, by decide +kernel⟩
theorem cv_X11_206 : zLv RX11 206 yX9_begin kX9_begin 1 := ⟨w_932, w_814, w_815, w_9, w_816, by decide, by decide, by decide +kernel⟩
theorem cv_X11_209 : zLv RX11 209 yX9_key kX9_key 1 := ⟨w_933, w_791, w_792, w_9, w_793, by decide, by decide, by decide +kernel⟩
theorem cv_X11_346 : zLv RX11 346 yX3_of kX3_of 1 := ⟨w_1131, w_767, w_768, w_12, w_769, by decide, by decide, by decide +kernel⟩
theorem fl_X11_51 : zFl RX11 51 11 5 := ⟨RX11, TX11, 9, rfl, by decide, (Or.inl w_400), zws_X11⟩
theorem cv_X11_349 : zLv RX11 349 yX10_begin kX10_begin 2 := ⟨w_1132, w_1133, w_1134, w_15, w_1135, by decide, by decide, by decide +kernel⟩
theorem fl_X11_44 : zFl RX11 44 11 4 := ⟨RX11, TX11, 9, rfl, by decide, (Or.inl w_399), zws_X11⟩
theorem cv_X11_351 : zLv RX11 351 yX8_readsOf kX8_readsOf 2 := ⟨w_1136, w_1137, w_1138, w_14, w_1139, by decide, by decide, by decide +kernel⟩
theorem fl_X11_9 : zFl RX11 9 11 8 := ⟨RX11, TX11, 9, rfl, by decide, (Or.inl w_403), zws_X11⟩
theorem fl_X11_354 : zFl RX11 354 10 0 := ⟨RX10, TX10, 7, rfl, by decide, (Or.inr ⟨"Taskgraphic", w_291⟩), zws_X10⟩
theorem cv_X11_243 : zLv RX11 243 yX4_set kX4_set 2 := ⟨w_991, w_377, w_378, w_10, w_379, by decide, by decide, by decide +kernel⟩
theorem fl_X11_301 : zFl RX11 301 6 8 := ⟨RX6, TX6, 10, rfl, by decide, (Or.inl w_344), zws_X6⟩
theorem fp_X11_301 : zFp RX11 301 6 8 (tyX6 8) := ⟨RX6, TX6, 10, tyX6, rfl, by decide, (Or.inl w_344), zws_X6, tyX6_ok, nmX6, rfl, rfl⟩
theorem fs_X11_137 : Cond.fieldLink RX11 137 RX5 (zKn 1) "LTaskgraphic$Kind;" ∈ zW ∨ ∃ host, Cond.fieldLinkNest RX11 137 RX5 (zKn 1) "LTaskgraphic$Kind;" host ∈ zN := Or.inl w_709
theorem fp_X11_147 : zFp RX11 147 7 10 (tyX7 10) := ⟨RX7, TX7, 15, tyX7, rfl, by decide, (Or.inl w_148), zws_X7, tyX7_ok, nmX7, rfl, rfl⟩
theorem fl_X11_261 : zFl RX11 261 7 13 := ⟨RX7, TX7, 15, rfl, by decide, (Or.inl w_153), zws_X7⟩
theorem fp_X11_261 : zFp RX11 261 7 13 (tyX7 13) := ⟨RX7, TX7, 15, tyX7, rfl, by decide, (Or.inl w_153), zws_X7, tyX7_ok, nmX7, rfl, rfl⟩
theorem cv_X11_369 : zLs RX11 369 yJ9_floorMod_7cf53 kJ9_floorMod_7cf53 2 := ⟨(Or.inl w_787), w_788, w_11, w_789, by decide, by decide, by decide +kernel⟩
theorem fl_X11_310 : zFl RX11 310 6 0 := ⟨RX6, TX6, 10, rfl, by decide, (Or.inr ⟨"Taskgraphic", w_327⟩), zws_X6⟩
theorem cv_X11_268 : zLv RX11 268 yX8_draw kX8_draw 1 := ⟨w_1058, w_1059, w_1060, w_14, w_1061, by decide, by decide, by decide +kernel⟩
theorem cv_X11_271 : zLv RX11 271 yX8_countOfStages kX8_countOfStages 0 := ⟨w_1093, w_1094, w_1095, w_14, w_1096, by decide, by decide, by decide +kernel⟩
theorem cv_X11_276 : zLv RX11 276 yX8_outputOfStage kX8_outputOfStage 1 := ⟨w_1111, w_1112, w_1113, w_14, w_1114, by decide, by decide, by decide +kernel⟩
theorem fl_X11_312 : zFl RX11 312 6 1 := ⟨RX6, TX6, 10, rfl, by decide, (Or.inr ⟨"Taskgraphic", w_329⟩), zws_X6⟩
theorem fs_X11_80 : Cond.fieldLink RX11 80 RX5 (zKn 0) "LTaskgraphic$Kind;" ∈ zW ∨ ∃ host, Cond.fieldLinkNest RX11 80 RX5 (zKn 0) "LTaskgraphic$Kind;" host ∈ zN := Or.inl w_560
theorem fl_X11_106 : zFl RX11 106 7 5 := ⟨RX7, TX7, 15, rfl, by decide, (Or.inl w_136), zws_X7⟩
theorem cv_X11_110 : zLv RX11 110 yX9_size kX9_size 0 := ⟨w_678, w_679, w_680, w_9, w_681, by decide, by decide, by decide +kernel⟩
theorem cv_X11_123 : zLv RX11 123 yX9_add kX9_add 2 := ⟨w_683, w_684, w_685, w_9, w_686, by decide, by decide, by decide +kernel⟩
theorem cv_X11_126 : zLv RX11 126 yX3_forgetAllOf kX3_forgetAllOf 1 := ⟨w_688, w_689, w_690, w_12, w_691, by decide, by decide, by decide +kernel⟩
theorem cv_X11_129 : zLv RX11 129 yX0_empty kX0_empty 0 := ⟨w_697, w_698, w_699, w_13, w_700, by decide, by decide, by decide +kernel⟩
theorem fl_X11_357 : zFl RX11 357 8 6 := ⟨RX8, TX8, 7, rfl, by decide, (Or.inl w_265), zws_X8⟩
theorem cv_X11_284 : zLs RX11 284 yX11_has kX11_has 2 := ⟨(Or.inl w_1126), w_694, w_1, w_695, by decide, by decide, by decide +kernel⟩
theorem cv_X11_360 : zLv RX11 360 yX0_makeLatest kX0_makeLatest 1 := ⟨w_1191, w_1192, w_1193, w_13, w_1194, by decide, by decide, by decide +kernel⟩
theorem fl_X11_363 : zFl RX11 363 8 5 := ⟨RX8, TX8, 7, rfl, by decide, (Or.inl w_263), zws_X8⟩
theorem cv_X11_366 : zLv RX11 366 yX0_enter kX0_enter 2 := ⟨w_1199, w_1200, w_1201, w_13, w_1202, by decide, by decide, by decide +kernel⟩
theorem fl_X11_67 : zFl RX11 67 11 6 := ⟨RX11, TX11, 9, rfl, by decide, (Or.inl w_401), zws_X11⟩
theorem fl_X11_226 : zFl RX11 226 2 3 := ⟨RX1, TX1, 4, rfl, by decide, (Or.inl w_385), zws_X1⟩
theorem cv_X11_279 : zLv RX11 279 yX6_begin kX6_begin 1 := ⟨w_1122, w_1123, w_1124, w_16, w_1125, by decide, by decide, by decide +kernel⟩
theorem fl_X11_281 : zFl RX11 281 8 4 := ⟨RX8, TX8, 7, rfl, by decide, (Or.inl w_261), zws_X8⟩
theorem cv_X11_288 : zLv RX11 288 yX11_loadStage kX11_loadStage 1 := ⟨w_1127, w_1129, (zW_l (i := 23) rfl rfl), w_1, w_1130, by decide, by decide, by decide +kernel⟩
theorem cv_X11_291 : zLv RX11 291 yX1_workOff kX1_workOff 2 := ⟨w_1141, w_1142, w_1143, w_17, w_1144, by decide, by decide, by decide +kernel⟩
theorem fp_X11_295 : zFp RX11 295 6 7 (tyX6 7) := ⟨RX6, TX6, 10, tyX6, rfl, by decide, (Or.inl w_342), zws_X6, tyX6_ok, nmX6, rfl, rfl⟩
theorem cv_X11_298 : zLv RX11 298 yX11_renewCache kX11_renewCache 0 := ⟨w_1187, w_1189, (zW_l (i := 27) rfl rfl), w_1, w_1190, by decide, by decide, by decide +kernel⟩
theorem cv_X11_246 : zLs RX11 246 yX11_checkSetting kX11_checkSetting 1 := ⟨(Or.inl w_999), w_1000, w_1, w_1001, by decide, by decide, by decide +kernel⟩
theorem fl_X11_249 : zFl RX11 249 3 2 := ⟨RX2, TX2, 3, rfl, by decide, (Or.inl w_191), zws_X2⟩
theorem fp_X11_249 : zFp RX11 249 3 2 (tyX2 2) := ⟨RX2, TX2, 3, tyX2, rfl, by decide, (Or.inl w_191), zws_X2, tyX2_ok, nmX2, rfl, rfl⟩
theorem cv_X11_252 : zLv RX11 252 yX3_forgetAll kX3_forgetAll 0 := ⟨w_1010, w_1011, w_1012, w_12, w_1013, by decide, by decide, by decide +kernel⟩
theorem fp_X11_255 : zFp RX11 255 1 5 (tyX0 5) := ⟨RX0, TX0, 6, tyX0, rfl, by decide, (Or.inl w_234), zws_X0, tyX0_ok, nmX0, rfl, rfl⟩
theorem cv_X11_258 : zLv RX11 258 yX0_makeRoomFor kX0_makeRoomFor 1 := ⟨w_1021, w_1022, w_1023, w_13, w_1024, by decide, by decide, by decide +kernel⟩
theorem fl_X11_235 : zFl RX11 235 2 1 := ⟨RX1, TX1, 4, rfl, by decide, (Or.inr ⟨"Taskgraphic", w_382⟩), zws_X1⟩
theorem fp_X11_226 : zFp RX11 226 2 3 (tyX1 3) := ⟨RX1, TX1, 4, tyX1, rfl, by decide, (Or.inl w_385), zws_X1, tyX1_ok, nmX1, rfl, rfl⟩
theorem fl_X11_295 : zFl RX11 295 6 7 := ⟨RX6, TX6, 10, rfl, by decide, (Or.inl w_342), zws_X6⟩
theorem fl_X11_326 : zFl RX11 326 6 9 := ⟨RX6, TX6, 10, rfl, by decide, (Or.inl w_346), zws_X6⟩
theorem cv_X11_329 : zLv RX11 329 yX6_ticksOfAttempts kX6_ticksOfAttempts 0 := ⟨w_451, w_452, w_453, w_16, w_454, by decide, by decide, by decide +kernel⟩
theorem fl_X11_317 : zFl RX11 317 6 3 := ⟨RX6, TX6, 10, rfl, by decide, (Or.inr ⟨"Taskgraphic", w_334⟩), zws_X6⟩
theorem fs_X11_167 : Cond.fieldLink RX11 167 RX5 (zKn 3) "LTaskgraphic$Kind;" ∈ zW ∨ ∃ host, Cond.fieldLinkNest RX11 167 RX5 (zKn 3) "LTaskgraphic$Kind;" host ∈ zN := Or.inl w_732
theorem cv_X11_212 : zLv RX11 212 yX9_value kX9_value 1 := ⟨w_941, w_796, w_797, w_9, w_798, by decide, by decide, by decide +kernel⟩
theorem fl_X11_314 : zFl RX11 314 6 2 := ⟨RX6, TX6, 10, rfl, by decide, (Or.inr ⟨"Taskgraphic", w_332⟩), zws_X6⟩
theorem fl_X12_52 : zFl RX12 52 12 16 := ⟨RX12, TX12, 45, rfl, by decide, (Or.inl w_1273), zws_X12⟩
theorem fl_X12_55 : zFl RX12 55 12 17 := ⟨RX12, TX12, 45, rfl, by decide, (Or.inl w_1274), zws_X12⟩
theorem fl_X12_46 : zFl RX12 46 12 14 := ⟨RX12, TX12, 45, rfl, by decide, (Or.inl w_1271), zws_X12⟩
theorem cv_X12_148 : zLv RX12 148 yX12_at kX12_at 2 := ⟨w_1474, w_1476, (zW_l (i := 40) rfl rfl), w_18, w_1477, by decide, by decide, by decide +kernel⟩
theorem fl_X12_49 : zFl RX12 49 12 15 := ⟨RX12, TX12, 45, rfl, by decide, (Or.inl w_1272), zws_X12⟩
theorem fl_X12_238 : zFl RX12 238 12 33 := ⟨RX12, TX12, 45, rfl, by decide, (Or.inl w_1290), zws_X12⟩
theorem cv_X12_144 : zLv RX12 144 yX12_tells kX12_tells 1 := ⟨w_1446, w_1448, (zW_l (i := 34) rfl rfl), w_18, w_1449, by decide, by decide, by decide +kernel⟩
theorem fl_X12_123 : zFl RX12 123 12 0 := ⟨RX12, TX12, 45, rfl, by decide, (Or.inl w_1257), zws_X12⟩
theorem fl_X12_75 : zFl RX12 75 12 24 := ⟨RX12, TX12, 45, rfl, by decide, (Or.inl w_1281), zws_X12⟩
theorem cv_X12_152 : zLv RX12 152 yX12_all kX12_all 1 := ⟨w_1485, w_1487, (zW_l (i := 42) rfl rfl), w_18, w_1488, by decide, by decide, by decide +kernel⟩
theorem fl_X12_111 : zFl RX12 111 12 41 := ⟨RX12, TX12, 45, rfl, by decide, (Or.inl w_1298), zws_X12⟩
theorem cv_X12_241 : zLv RX12 241 yX12_latest kX12_latest 2 := ⟨w_1635, w_1637, (zW_l (i := 62) rfl rfl), w_18, w_1638, by decide, by decide, by decide +kernel⟩
theorem fl_X12_108 : zFl RX12 108 12 40 := ⟨RX12, TX12, 45, rfl, by decide, (Or.inl w_1297), zws_X12⟩
theorem fl_X12_68 : zFl RX12 68 12 21 := ⟨RX12, TX12, 45, rfl, by decide, (Or.inl w_1278), zws_X12⟩
theorem fl_X12_90 : zFl RX12 90 12 34 := ⟨RX12, TX12, 45, rfl, by decide, (Or.inl w_1291), zws_X12⟩
theorem fl_X12_93 : zFl RX12 93 12 35 := ⟨RX12, TX12, 45, rfl, by decide, (Or.inl w_1292), zws_X12⟩
theorem fl_X12_96 : zFl RX12 96 12 36 := ⟨RX12, TX12, 45, rfl, by decide, (Or.inl w_1293), zws_X12⟩
theorem cv_X12_244 : zLv RX12 244 yX12_takes kX12_takes 5 := ⟨w_1627, w_1629, (zW_l (i := 60) rfl rfl), w_18, w_1630, by decide, by decide, by decide +kernel⟩
theorem fl_X12_117 : zFl RX12 117 12 43 := ⟨RX12, TX12, 45, rfl, by decide, (Or.inl w_1300), zws_X12⟩
theorem cv_X12_199 : zLv RX12 199 yX12_isNoNode kX12_isNoNode 1 := ⟨w_1454, w_1456, (zW_l (i := 35) rfl rfl), w_18, w_1457, by decide, by decide, by decide +kernel⟩
theorem cv_X12_213 : zLv RX12 213 yX12_digests kX12_digests 1 := ⟨w_1551, w_1553, (zW_l (i := 52) rfl rfl), w_18, w_1554, by decide, by decide, by decide +kernel⟩
theorem fp_X12_126 : zFp RX12 126 12 13 (tyX12 13) := ⟨RX12, TX12, 45, tyX12, rfl, by decide, (Or.inl w_1270), zws_X12, tyX12_ok, nmX12, rfl, rfl⟩
theorem fl_X12_102 : zFl RX12 102 12 38 := ⟨RX12, TX12, 45, rfl, by decide, (Or.inl w_1295), zws_X12⟩
theorem cv_X12_270 : zLv RX12 270 yX12_ofAttempt kX12_ofAttempt 2 := ⟨w_1659, w_1661, (zW_l (i := 64) rfl rfl), w_18, w_1662, by decide, by decide, by decide +kernel⟩
theorem fp_X12_120 : zFp RX12 120 12 44 (tyX12 44) := ⟨RX12, TX12, 45, tyX12, rfl, by decide, (Or.inl w_1301), zws_X12, tyX12_ok, nmX12, rfl, rfl⟩
theorem cv_X12_138 : zLv RX12 138 yX12_is kX12_is 1 := ⟨w_1414, w_1416, (zW_l (i := 32) rfl rfl), w_18, w_1417, by decide, by decide, by decide +kernel⟩
theorem cv_X12_130 : zLv RX12 130 yX12_fails kX12_fails 1 := ⟨w_1402, w_1404, (zW_l (i := 30) rfl rfl), w_18, w_1405, by decide, by decide, by decide +kernel⟩
theorem fl_X12_22 : zFl RX12 22 12 5 := ⟨RX12, TX12, 45, rfl, by decide, (Or.inl w_1262), zws_X12⟩
theorem fl_X12_25 : zFl RX12 25 12 6 := ⟨RX12, TX12, 45, rfl, by decide, (Or.inl w_1263), zws_X12⟩
theorem fl_X12_31 : zFl RX12 31 12 8 := ⟨RX12, TX12, 45, rfl, by decide, (Or.inl w_1265), zws_X12⟩
theorem fl_X12_34 : zFl RX12 34 12 9 := ⟨RX12, TX12, 45, rfl, by decide, (Or.inl w_1266), zws_X12⟩
theorem cv_X12_134 : zLv RX12 134 yX12_makes kX12_makes 5 := ⟨w_1406, w_1408, (zW_l (i := 31) rfl rfl), w_18, w_1409, by decide, by decide, by decide +kernel⟩
theorem cv_X12_196 : zLv RX12 196 yX12_knows kX12_knows 0 := ⟨w_1458, w_1460, (zW_l (i := 36) rfl rfl), w_18, w_1461, by decide, by decide, by decide +kernel⟩
theorem fl_X12_81 : zFl RX12 81 12 27 := ⟨RX12, TX12, 45, rfl, by decide, (Or.inl w_1284), zws_X12⟩
theorem fl_X12_84 : zFl RX12 84 12 28 := ⟨RX12, TX12, 45, rfl, by decide, (Or.inl w_1285), zws_X12⟩
theorem fl_X12_87 : zFl RX12 87 12 29 := ⟨RX12, TX12, 45, rfl, by decide, (Or.inl w_1286), zws_X12⟩
theorem cv_X12_232 : zLv RX12 232 yX12_reads kX12_reads 2 := ⟨w_1603, w_1605, (zW_l (i := 56) rfl rfl), w_18, w_1606, by decide, by decide, by decide +kernel⟩
theorem fl_X12_19 : zFl RX12 19 12 4 := ⟨RX12, TX12, 45, rfl, by decide, (Or.inl w_1261), zws_X12⟩
theorem fl_X12_28 : zFl RX12 28 12 7 := ⟨RX12, TX12, 45, rfl, by decide, (Or.inl w_1264), zws_X12⟩
theorem fl_X12_13 : zFl RX12 13 12 2 := ⟨RX12, TX12, 45, rfl, by decide, (Or.inl w_1259), zws_X12⟩
theorem cv_X12_173 : zLv RX12 173 yX12_joins kX12_joins 3 := ⟨w_1497, w_1499, (zW_l (i := 45) rfl rfl), w_18, w_1500, by decide, by decide, by decide +kernel⟩
theorem fl_X12_7 : zFl RX12 7 12 1 := ⟨RX12, TX12, 45, rfl, by decide, (Or.inl w_1258), zws_X12⟩
theorem cv_X12_155 : zLv RX12 155 yX12_adds kX12_adds 4 := ⟨w_1466, w_1468, (zW_l (i := 38) rfl rfl), w_18, w_1469, by decide, by decide, by decide +kernel⟩
theorem cv_X12_159 : zLs RX12 159 yX12_share kX12_share 2 := ⟨(Or.inl w_1478), w_1479, w_18, w_1480, by decide, by decide, by decide +kernel⟩
theorem lc_X12_164 : Cond.constantLong RX12 164 (-1099511627776) ∈ zW := w_1505
theorem cv_X12_166 : zLv RX12 166 yX12_next kX12_next 4 := ⟨w_1506, w_1508, (zW_l (i := 47) rfl rfl), w_18, w_1509, by decide, by decide, by decide +kernel⟩
theorem lc_X12_162 : Cond.constantLong RX12 162 (1099511627776) ∈ zW := w_1510
theorem cv_X12_170 : zLv RX12 170 yX12_grouped kX12_grouped 2 := ⟨w_1511, w_1513, (zW_l (i := 48) rfl rfl), w_18, w_1514, by decide, by decide, by decide +kernel⟩
theorem fl_X12_37 : zFl RX12 37 12 10 := ⟨RX12, TX12, 45, rfl, by decide, (Or.inl w_1267), zws_X12⟩
theorem fl_X12_40 : zFl RX12 40 12 11 := ⟨RX12, TX12, 45, rfl, by decide, (Or.inl w_1268), zws_X12⟩
theorem fl_X12_43 : zFl RX12 43 12 12 := ⟨RX12, TX12, 45, rfl, by decide, (Or.inl w_1269), zws_X12⟩
theorem fl_X12_16 : zFl RX12 16 12 3 := ⟨RX12, TX12, 45, rfl, by decide, (Or.inl w_1260), zws_X12⟩
theorem cv_X12_1 : Cond.methodLink RX12 1 objectInit ∈ zW := w_1256
theorem ff_X12_7 : zFf RX12 7 12 1 (tyX12 1) := ⟨RX12, TX12, 45, tyX12, rfl, by decide, w_1258, zws_X12, tyX12_ok, nmX12, rfl, rfl, rfl⟩
theorem ff_X12_13 : zFf RX12 13 12 2 (tyX12 2) := ⟨RX12, TX12, 45, tyX12, rfl, by decide, w_1259, zws_X12, tyX12_ok, nmX12, rfl, rfl, rfl⟩
theorem ff_X12_16 : zFf RX12 16 12 3 (tyX12 3) := ⟨RX12, TX12, 45, tyX12, rfl, by decide, w_1260, zws_X12, tyX12_ok, nmX12, rfl, rfl, rfl⟩
theorem ff_X12_19 : zFf RX12 19 12 4 (tyX12 4) := ⟨RX12, TX12, 45, tyX12, rfl, by decide, w_1261, zws_X12, tyX12_ok, nmX12, rfl, rfl, rfl⟩
theorem ff_X12_22 : zFf RX12 22 12 5 (tyX12 5) := ⟨RX12, TX12, 45, tyX12, rfl, by decide, w_1262, zws_X12, tyX12_ok, nmX12, rfl, rfl, rfl⟩
theorem ff_X12_25 : zFf RX12 25 12 6 (tyX12 6) := ⟨RX12, TX12, 45, tyX12, rfl, by decide, w_1263, zws_X12, tyX12_ok, nmX12, rfl, rfl, rfl⟩
theorem ff_X12_28 : zFf RX12 28 12 7 (tyX12 7) := ⟨RX12, TX12, 45, tyX12, rfl, by decide, w_1264, zws_X12, tyX12_ok, nmX12, rfl, rfl, rfl⟩
theorem ff_X12_31 : zFf RX12 31 12 8 (tyX12 8) := ⟨RX12, TX12, 45, tyX12, rfl, by decide, w_1265, zws_X12, tyX12_ok, nmX12, rfl, rfl, rfl⟩
theorem ff_X12_34 : zFf RX12 34 12 9 (tyX12 9) := ⟨RX12, TX12, 45, tyX12, rfl, by decide, w_1266, zws_X12, tyX12_ok, nmX12, rfl, rfl, rfl⟩
theorem ff_X12_37 : zFf RX12 37 12 10 (tyX12 10) := ⟨RX12, TX12, 45, tyX12, rfl, by decide, w_1267, zws_X12, tyX12_ok, nmX12, rfl, rfl, rfl⟩
theorem ff_X12_40 : zFf RX12 40 12 11 (tyX12 11) := ⟨RX12, TX12, 45, tyX12, rfl, by decide, w_1268, zws_X12, tyX12_ok, nmX12, rfl, rfl, rfl⟩
theorem ff_X12_43 : zFf RX12 43 12 12 (tyX12 12) := ⟨RX12, TX12, 45, tyX12, rfl, by decide, w_1269, zws_X12, tyX12_ok, nmX12, rfl, rfl, rfl⟩
theorem ff_X12_46 : zFf RX12 46 12 14 (tyX12 14) := ⟨RX12, TX12, 45, tyX12, rfl, by decide, w_1271, zws_X12, tyX12_ok, nmX12, rfl, rfl, rfl⟩
theorem ff_X12_49 : zFf RX12 49 12 15 (tyX12 15) := ⟨RX12, TX12, 45, tyX12, rfl, by decide, w_1272, zws_X12, tyX12_ok, nmX12, rfl, rfl, rfl⟩
theorem ff_X12_52 : zFf RX12 52 12 16 (tyX12 16) := ⟨RX12, TX12, 45, tyX12, rfl, by decide, w_1273, zws_X12, tyX12_ok, nmX12, rfl, rfl, rfl⟩
theorem ff_X12_55 : zFf RX12 55 12 17 (tyX12 17) := ⟨RX12, TX12, 45, tyX12, rfl, by decide, w_1274, zws_X12, tyX12_ok, nmX12, rfl, rfl, rfl⟩
theorem fp_X12_58 : zFp RX12 58 12 18 (tyX12 18) := ⟨RX12, TX12, 45, tyX12, rfl, by decide, (Or.inl w_1275), zws_X12, tyX12_ok, nmX12, rfl, rfl⟩
theorem fp_X12_62 : zFp RX12 62 12 19 (tyX12 19) := ⟨RX12, TX12, 45, tyX12, rfl, by decide, (Or.inl w_1276), zws_X12, tyX12_ok, nmX12, rfl, rfl⟩
theorem fp_X12_65 : zFp RX12 65 12 20 (tyX12 20) := ⟨RX12, TX12, 45, tyX12, rfl, by decide, (Or.inl w_1277), zws_X12, tyX12_ok, nmX12, rfl, rfl⟩
theorem ff_X12_68 : zFf RX12 68 12 21 (tyX12 21) := ⟨RX12, TX12, 45, tyX12, rfl, by decide, w_1278, zws_X12, tyX12_ok, nmX12, rfl, rfl, rfl⟩
theorem ff_X12_71 : zFf RX12 71 12 23 (tyX12 23) := ⟨RX12, TX12, 45, tyX12, rfl, by decide, w_1280, zws_X12, tyX12_ok, nmX12, rfl, rfl, rfl⟩
theorem ff_X12_75 : zFf RX12 75 12 24 (tyX12 24) := ⟨RX12, TX12, 45, tyX12, rfl, by decide, w_1281, zws_X12, tyX12_ok, nmX12, rfl, rfl, rfl⟩
theorem ff_X12_78 : zFf RX12 78 12 25 (tyX12 25) := ⟨RX12, TX12, 45, tyX12, rfl, by decide, w_1282, zws_X12, tyX12_ok, nmX12, rfl, rfl, rfl⟩
theorem ff_X12_81 : zFf RX12 81 12 27 (tyX12 27) := ⟨RX12, TX12, 45, tyX12, rfl, by decide, w_1284, zws_X12, tyX12_ok, nmX12, rfl, rfl, rfl⟩
theorem ff_X12_84 : zFf RX12 84 12 28 (tyX12 28) := ⟨RX12, TX12, 45, tyX12, rfl, by decide, w_1285, zws_X12, tyX12_ok, nmX12, rfl, rfl, rfl⟩
theorem ff_X12_87 : zFf RX12 87 12 29 (tyX12 29) := ⟨RX12, TX12, 45, tyX12, rfl, by decide, w_1286, zws_X12, tyX12_ok, nmX12, rfl, rfl, rfl⟩
theorem ff_X12_90 : zFf RX12 90 12 34 (tyX12 34) := ⟨RX12, TX12, 45, tyX12, rfl, by decide, w_1291, zws_X12, tyX12_ok, nmX12, rfl, rfl, rfl⟩
theorem ff_X12_93 : zFf RX12 93 12 35 (tyX12 35) := ⟨RX12, TX12, 45, tyX12, rfl, by decide, w_1292, zws_X12, tyX12_ok, nmX12, rfl, rfl, rfl⟩
theorem ff_X12_96 : zFf RX12 96 12 36 (tyX12 36) := ⟨RX12, TX12, 45, tyX12, rfl, by decide, w_1293, zws_X12, tyX12_ok, nmX12, rfl, rfl, rfl⟩
theorem ff_X12_99 : zFf RX12 99 12 37 (tyX12 37) := ⟨RX12, TX12, 45, tyX12, rfl, by decide, w_1294, zws_X12, tyX12_ok, nmX12, rfl, rfl, rfl⟩
theorem ff_X12_102 : zFf RX12 102 12 38 (tyX12 38) := ⟨RX12, TX12, 45, tyX12, rfl, by decide, w_1295, zws_X12, tyX12_ok, nmX12, rfl, rfl, rfl⟩
theorem ff_X12_105 : zFf RX12 105 12 39 (tyX12 39) := ⟨RX12, TX12, 45, tyX12, rfl, by decide, w_1296, zws_X12, tyX12_ok, nmX12, rfl, rfl, rfl⟩
theorem ff_X12_108 : zFf RX12 108 12 40 (tyX12 40) := ⟨RX12, TX12, 45, tyX12, rfl, by decide, w_1297, zws_X12, tyX12_ok, nmX12, rfl, rfl, rfl⟩
theorem ff_X12_111 : zFf RX12 111 12 41 (tyX12 41) := ⟨RX12, TX12, 45, tyX12, rfl, by decide, w_1298, zws_X12, tyX12_ok, nmX12, rfl, rfl, rfl⟩
theorem ff_X12_114 : zFf RX12 114 12 42 (tyX12 42) := ⟨RX12, TX12, 45, tyX12, rfl, by decide, w_1299, zws_X12, tyX12_ok, nmX12, rfl, rfl, rfl⟩
theorem ff_X12_117 : zFf RX12 117 12 43 (tyX12 43) := ⟨RX12, TX12, 45, tyX12, rfl, by decide, w_1300, zws_X12, tyX12_ok, nmX12, rfl, rfl, rfl⟩
theorem cv_X12_187 : zLv RX12 187 yX12_isBroadly kX12_isBroadly 1 := ⟨w_1489, w_1491, (zW_l (i := 43) rfl rfl), w_18, w_1492, by decide, by decide, by decide +kernel⟩
theorem fl_X12_58 : zFl RX12 58 12 18 := ⟨RX12, TX12, 45, rfl, by decide, (Or.inl w_1275), zws_X12⟩
theorem fl_X12_105 : zFl RX12 105 12 39 := ⟨RX12, TX12, 45, rfl, by decide, (Or.inl w_1296), zws_X12⟩
theorem fl_X12_255 : zFl RX12 255 12 26 := ⟨RX12, TX12, 45, rfl, by decide, (Or.inl w_1283), zws_X12⟩
theorem fp_X12_255 : zFp RX12 255 12 26 (tyX12 26) := ⟨RX12, TX12, 45, tyX12, rfl, by decide, (Or.inl w_1283), zws_X12, tyX12_ok, nmX12, rfl, rfl⟩
theorem fl_X12_78 : zFl RX12 78 12 25 := ⟨RX12, TX12, 45, rfl, by decide, (Or.inl w_1282), zws_X12⟩
theorem fl_X12_71 : zFl RX12 71 12 23 := ⟨RX12, TX12, 45, rfl, by decide, (Or.inl w_1280), zws_X12⟩
theorem fl_X12_220 : zFl RX12 220 12 22 := ⟨RX12, TX12, 45, rfl, by decide, (Or.inl w_1279), zws_X12⟩
theorem cv_X12_223 : zLv RX12 223 yX12_leaves kX12_leaves 1 := ⟨w_1579, w_1581, (zW_l (i := 53) rfl rfl), w_18, w_1582, by decide, by decide, by decide +kernel⟩
theorem cv_X12_209 : zLv RX12 209 yX12_ofRow kX12_ofRow 4 := ⟨w_1535, w_1537, (zW_l (i := 51) rfl rfl), w_18, w_1538, by decide, by decide, by decide +kernel⟩
theorem fl_X12_126 : zFl RX12 126 12 13 := ⟨RX12, TX12, 45, rfl, by decide, (Or.inl w_1270), zws_X12⟩
theorem cv_X12_177 : zLv RX12 177 yX12_holdsSource kX12_holdsSource 1 := ⟨w_1462, w_1464, (zW_l (i := 37) rfl rfl), w_18, w_1465, by decide, by decide, by decide +kernel⟩
theorem cv_X12_181 : zLv RX12 181 yX12_holdsMapped kX12_holdsMapped 1 := ⟨w_1470, w_1472, (zW_l (i := 39) rfl rfl), w_18, w_1473, by decide, by decide, by decide +kernel⟩
theorem cv_X12_184 : zLv RX12 184 yX12_holdsUnion kX12_holdsUnion 1 := ⟨w_1481, w_1483, (zW_l (i := 41) rfl rfl), w_18, w_1484, by decide, by decide, by decide +kernel⟩
theorem cv_X12_190 : zLv RX12 190 yX12_holdsBroad kX12_holdsBroad 1 := ⟨w_1493, w_1495, (zW_l (i := 44) rfl rfl), w_18, w_1496, by decide, by decide, by decide +kernel⟩
theorem cv_X12_193 : zLv RX12 193 yX12_holdsShared kX12_holdsShared 1 := ⟨w_1501, w_1503, (zW_l (i := 46) rfl rfl), w_18, w_1504, by decide, by decide, by decide +kernel⟩
theorem fl_X12_114 : zFl RX12 114 12 42 := ⟨RX12, TX12, 45, rfl, by decide, (Or.inl w_1299), zws_X12⟩
theorem cv_X12_216 : zLv RX12 216 yX12_cached kX12_cached 0 := ⟨w_1583, w_1585, (zW_l (i := 54) rfl rfl), w_18, w_1586, by decide, by decide, by decide +kernel⟩
theorem fp_X12_123 : zFp RX12 123 12 0 (tyX12 0) := ⟨RX12, TX12, 45, tyX12, rfl, by decide, (Or.inl w_1257), zws_X12, tyX12_ok, nmX12, rfl, rfl⟩
theorem cv_X12_202 : zLv RX12 202 yX12_isPart kX12_isPart 2 := ⟨w_1519, w_1521, (zW_l (i := 49) rfl rfl), w_18, w_1522, by decide, by decide, by decide +kernel⟩
theorem cv_X12_206 : zLv RX12 206 yX12_rowsOf kX12_rowsOf 2 := ⟨w_1523, w_1525, (zW_l (i := 50) rfl rfl), w_18, w_1526, by decide, by decide, by decide +kernel⟩
theorem cv_X12_235 : zLv RX12 235 yX12_finds kX12_finds 1 := ⟨w_1599, w_1601, (zW_l (i := 55) rfl rfl), w_18, w_1602, by decide, by decide, by decide +kernel⟩
theorem cv_X12_141 : zLv RX12 141 yX12_empties kX12_empties 0 := ⟨w_1418, w_1420, (zW_l (i := 33) rfl rfl), w_18, w_1421, by decide, by decide, by decide +kernel⟩
theorem cv_X12_226 : zLv RX12 226 yX12_needs kX12_needs 1 := ⟨w_1607, w_1609, (zW_l (i := 57) rfl rfl), w_18, w_1610, by decide, by decide, by decide +kernel⟩
theorem cv_X12_229 : zLv RX12 229 yX12_shared kX12_shared 3 := ⟨w_1611, w_1613, (zW_l (i := 58) rfl rfl), w_18, w_1614, by decide, by decide, by decide +kernel⟩
theorem fp_X12_258 : zFp RX12 258 12 30 (tyX12 30) := ⟨RX12, TX12, 45, tyX12, rfl, by decide, (Or.inl w_1287), zws_X12, tyX12_ok, nmX12, rfl, rfl⟩
theorem fp_X12_248 : zFp RX12 248 12 31 (tyX12 31) := ⟨RX12, TX12, 45, tyX12, rfl, by decide, (Or.inl w_1288), zws_X12, tyX12_ok, nmX12, rfl, rfl⟩
theorem fp_X12_238 : zFp RX12 238 12 33 (tyX12 33) := ⟨RX12, TX12, 45, tyX12, rfl, by decide, (Or.inl w_1290), zws_X12, tyX12_ok, nmX12, rfl, rfl⟩
theorem fl_X12_65 : zFl RX12 65 12 20 := ⟨RX12, TX12, 45, rfl, by decide, (Or.inl w_1277), zws_X12⟩
theorem fp_X12_261 : zFp RX12 261 12 32 (tyX12 32) := ⟨RX12, TX12, 45, tyX12, rfl, by decide, (Or.inl w_1289), zws_X12, tyX12_ok, nmX12, rfl, rfl⟩
theorem fl_X12_258 : zFl RX12 258 12 30 := ⟨RX12, TX12, 45, rfl, by decide, (Or.inl w_1287), zws_X12⟩
theorem cv_X12_264 : zLv RX12 264 yX12_stage kX12_stage 2 := ⟨w_1623, w_1625, (zW_l (i := 59) rfl rfl), w_18, w_1626, by decide, by decide, by decide +kernel⟩
theorem cv_X12_267 : zLv RX12 267 yX12_keeps kX12_keeps 0 := ⟨w_1639, w_1641, (zW_l (i := 63) rfl rfl), w_18, w_1642, by decide, by decide, by decide +kernel⟩
theorem fl_X12_62 : zFl RX12 62 12 19 := ⟨RX12, TX12, 45, rfl, by decide, (Or.inl w_1276), zws_X12⟩
theorem fp_X12_220 : zFp RX12 220 12 22 (tyX12 22) := ⟨RX12, TX12, 45, tyX12, rfl, by decide, (Or.inl w_1279), zws_X12, tyX12_ok, nmX12, rfl, rfl⟩
theorem fl_X12_99 : zFl RX12 99 12 37 := ⟨RX12, TX12, 45, rfl, by decide, (Or.inl w_1294), zws_X12⟩
theorem fl_X12_261 : zFl RX12 261 12 32 := ⟨RX12, TX12, 45, rfl, by decide, (Or.inl w_1289), zws_X12⟩
theorem fl_X12_248 : zFl RX12 248 12 31 := ⟨RX12, TX12, 45, rfl, by decide, (Or.inl w_1288), zws_X12⟩
theorem cv_X12_251 : zLv RX12 251 yX12_copies kX12_copies 4 := ⟨w_1631, w_1633, (zW_l (i := 61) rfl rfl), w_18, w_1634, by decide, by decide, by decide +kernel⟩
theorem fl_X12_120 : zFl RX12 120 12 44 := ⟨RX12, TX12, 45, rfl, by decide, (Or.inl w_1301), zws_X12⟩
theorem cv_X1_3 : Cond.methodLink RX1 3 objectInit ∈ zW := w_373
theorem nw_X1_9 : zNw RX1 9 5 [.null] := ⟨RX4, TX4, 1, tyX4, rfl, w_374, w_87, w_10, zws_X4, tyX4_ok, (by decide +kernel), rfl⟩
theorem cv_X1_11 : zLi RX1 11 yX4_init kX4_init 1 := ⟨(Or.inl w_375), w_89, w_10, w_90, rfl, rfl, by decide, by decide, by decide +kernel⟩
theorem ff_X1_14 : zFf RX1 14 2 1 (tyX1 1) := ⟨RX1, TX1, 4, tyX1, rfl, by decide, w_381, zws_X1, tyX1_ok, nmX1, rfl, rfl, rfl⟩
theorem ff_X1_20 : zFf RX1 20 2 2 (tyX1 2) := ⟨RX1, TX1, 4, tyX1, rfl, by decide, w_383, zws_X1, tyX1_ok, nmX1, rfl, rfl, rfl⟩
theorem fp_X1_23 : zFp RX1 23 2 3 (tyX1 3) := ⟨RX1, TX1, 4, tyX1, rfl, by decide, (Or.inl w_384), zws_X1, tyX1_ok, nmX1, rfl, rfl⟩
theorem ff_X1_27 : zFf RX1 27 2 0 (tyX1 0) := ⟨RX1, TX1, 4, tyX1, rfl, by decide, w_380, zws_X1, tyX1_ok, nmX1, rfl, rfl, rfl⟩
theorem fl_X1_14 : zFl RX1 14 2 1 := ⟨RX1, TX1, 4, rfl, by decide, (Or.inl w_381), zws_X1⟩
theorem cv_X1_31 : zLv RX1 31 yX4_set kX4_set 2 := ⟨w_376, w_377, w_378, w_10, w_379, by decide, by decide, by decide +kernel⟩
theorem cv_X1_35 : zLv RX1 35 yX10_ended kX10_ended 1 := ⟨w_1145, w_1146, w_1147, w_15, w_1148, by decide, by decide, by decide +kernel⟩
theorem fl_X1_41 : zFl RX1 41 10 4 := ⟨RX10, TX10, 7, rfl, by decide, (Or.inl w_299), zws_X10⟩
theorem fl_X1_23 : zFl RX1 23 2 3 := ⟨RX1, TX1, 4, rfl, by decide, (Or.inl w_384), zws_X1⟩
theorem fl_X1_20 : zFl RX1 20 2 2 := ⟨RX1, TX1, 4, rfl, by decide, (Or.inl w_383), zws_X1⟩
theorem cv_X1_51 : zLv RX1 51 yX4_at kX4_at 1 := ⟨w_1154, w_456, w_457, w_10, w_458, by decide, by decide, by decide +kernel⟩
theorem fl_X1_54 : zFl RX1 54 10 5 := ⟨RX10, TX10, 7, rfl, by decide, (Or.inl w_301), zws_X10⟩
theorem cv_X1_57 : zLv RX1 57 yX1_takeNext kX1_takeNext 3 := ⟨w_1155, w_1157, (zW_l (i := 25) rfl rfl), w_17, w_1158, by decide, by decide, by decide +kernel⟩
theorem cv_X1_61 : zLv RX1 61 yX1_takesCopy kX1_takesCopy 3 := ⟨w_1169, w_1171, (zW_l (i := 26) rfl rfl), w_17, w_1172, by decide, by decide, by decide +kernel⟩
theorem fl_X1_65 : zFl RX1 65 10 0 := ⟨RX10, TX10, 7, rfl, by decide, (Or.inr ⟨"Taskgraphic", w_290⟩), zws_X10⟩
theorem fl_X1_27 : zFl RX1 27 2 0 := ⟨RX1, TX1, 4, rfl, by decide, (Or.inl w_380), zws_X1⟩
theorem fl_X1_68 : zFl RX1 68 10 3 := ⟨RX10, TX10, 7, rfl, by decide, (Or.inl w_297), zws_X10⟩
theorem cv_X1_71 : zLv RX1 71 yX6_add kX6_add 6 := ⟨w_1159, w_1160, w_1161, w_16, w_1162, by decide, by decide, by decide +kernel⟩
theorem cv_X1_77 : zLv RX1 77 yX10_take kX10_take 2 := ⟨w_1164, w_1165, w_1166, w_15, w_1167, by decide, by decide, by decide +kernel⟩
theorem cv_X1_80 : zLv RX1 80 yX10_latestWithoutCopy kX10_latestWithoutCopy 1 := ⟨w_1173, w_1174, w_1175, w_15, w_1176, by decide, by decide, by decide +kernel⟩
theorem fl_X1_83 : zFl RX1 83 10 1 := ⟨RX10, TX10, 7, rfl, by decide, (Or.inr ⟨"Taskgraphic", w_293⟩), zws_X10⟩
theorem fl_X1_86 : zFl RX1 86 10 2 := ⟨RX10, TX10, 7, rfl, by decide, (Or.inr ⟨"Taskgraphic", w_295⟩), zws_X10⟩
theorem fl_X1_89 : zFl RX1 89 6 4 := ⟨RX6, TX6, 10, rfl, by decide, (Or.inr ⟨"Taskgraphic", w_336⟩), zws_X6⟩
theorem cv_X1_90 : zLv RX1 90 yX10_copy kX10_copy 2 := ⟨w_1178, w_1179, w_1180, w_15, w_1181, by decide, by decide, by decide +kernel⟩
theorem fl_X1_93 : zFl RX1 93 6 2 := ⟨RX6, TX6, 10, rfl, by decide, (Or.inr ⟨"Taskgraphic", w_331⟩), zws_X6⟩
theorem cv_X1_44 : zLv RX1 44 yX1_look kX1_look 2 := ⟨w_1150, w_1152, (zW_l (i := 24) rfl rfl), w_17, w_1153, by decide, by decide, by decide +kernel⟩
theorem cv_X1_48 : zLv RX1 48 yX10_earliestEnd kX10_earliestEnd 1 := ⟨w_1183, w_1184, w_1185, w_15, w_1186, by decide, by decide, by decide +kernel⟩
theorem fl_X2_12 : zFl RX2 12 3 0 := ⟨RX2, TX2, 3, rfl, by decide, (Or.inl w_187), zws_X2⟩
theorem cv_X2_37 : zLv RX2 37 yJx4a65c_size_8abf5 kJx4a65c_size_8abf5 0 := ⟨w_431, w_432, w_433, w_5, w_434, by decide, by decide, by decide +kernel⟩
theorem fl_X2_45 : zFl RX2 45 7 1 := ⟨RX7, TX7, 15, rfl, by decide, (Or.inl w_124), zws_X7⟩
theorem cv_X2_48 : zLv RX2 48 yX2_at kX2_at 1 := ⟨w_566, w_567, w_568, w_2, w_569, by decide, by decide, by decide +kernel⟩
theorem fl_X2_52 : zFl RX2 52 7 14 := ⟨RX7, TX7, 15, rfl, by decide, (Or.inl w_154), zws_X7⟩
theorem fl_X2_55 : zFl RX2 55 7 2 := ⟨RX7, TX7, 15, rfl, by decide, (Or.inl w_128), zws_X7⟩
theorem cv_X2_58 : zLs RX2 58 yX11_with kX11_with 2 := ⟨(Or.inr ⟨"Taskgraphic", w_584⟩), w_585, w_1, w_586, by decide, by decide, by decide +kernel⟩
theorem fp_X2_52 : zFp RX2 52 7 14 (tyX7 14) := ⟨RX7, TX7, 15, tyX7, rfl, by decide, (Or.inl w_154), zws_X7, tyX7_ok, nmX7, rfl, rfl⟩
theorem cv_X2_62 : zLv RX2 62 yJx4a65c_add_9ea2d kJx4a65c_add_9ea2d 1 := ⟨w_587, w_588, w_589, w_5, w_590, by decide, by decide, by decide +kernel⟩
theorem cv_X2_41 : zLv RX2 41 yJx4a65c_get_915e3 kJx4a65c_get_915e3 1 := ⟨w_570, w_571, w_572, w_5, w_573, by decide, by decide, by decide +kernel⟩
theorem fl_X2_29 : zFl RX2 29 3 1 := ⟨RX2, TX2, 3, rfl, by decide, (Or.inl w_188), zws_X2⟩
theorem cv_X2_3 : Cond.methodLink RX2 3 objectInit ∈ zW := w_44
theorem nw_X2_9 : zNw RX2 9 0 [.int 0, .null, .int 0] := ⟨RJx4a65c, TJx4a65c, 3, tyJx4a65c, rfl, w_45, w_46, w_5, zws_Jx4a65c, tyJx4a65c_ok, (by decide +kernel), rfl⟩
theorem cv_X2_11 : zLi RX2 11 yJx4a65c_init_da8c8 kJx4a65c_init_da8c8 0 := ⟨(Or.inl w_47), w_48, w_5, w_49, rfl, rfl, by decide, by decide, by decide +kernel⟩
theorem ff_X2_12 : zFf RX2 12 3 0 (tyX2 0) := ⟨RX2, TX2, 3, tyX2, rfl, by decide, w_187, zws_X2, tyX2_ok, nmX2, rfl, rfl, rfl⟩
theorem nw_X2_18 : zNw RX2 18 7 [.null, .int 0, .int 0, .int 0, .int 0, .null, .null, .null, .int 0, .int 0, .int 0, .int 0, .int 0, .int 0, .int 0] := ⟨RX7, TX7, 15, tyX7, rfl, w_71, w_72, w_6, zws_X7, tyX7_ok, (by decide +kernel), rfl⟩
theorem fs_X2_20 : Cond.fieldLink RX2 20 RX5 (zKn 0) "LTaskgraphic$Kind;" ∈ zW ∨ ∃ host, Cond.fieldLinkNest RX2 20 RX5 (zKn 0) "LTaskgraphic$Kind;" host ∈ zN := Or.inl w_73
theorem cv_X2_26 : zLi RX2 26 yX7_init kX7_init 5 := ⟨(Or.inl w_75), w_76, w_6, w_77, rfl, rfl, by decide, by decide, by decide +kernel⟩
theorem ff_X2_29 : zFf RX2 29 3 1 (tyX2 1) := ⟨RX2, TX2, 3, tyX2, rfl, by decide, w_188, zws_X2, tyX2_ok, nmX2, rfl, rfl, rfl⟩
theorem fp_X2_33 : zFp RX2 33 3 2 (tyX2 2) := ⟨RX2, TX2, 3, tyX2, rfl, by decide, (Or.inl w_189), zws_X2, tyX2_ok, nmX2, rfl, rfl⟩
theorem cv_X3_77 : zLv RX3 77 yX9_size kX9_size 0 := ⟨w_783, w_679, w_680, w_9, w_681, by decide, by decide, by decide +kernel⟩
theorem cv_X3_147 : zLv RX3 147 yX9_key kX9_key 1 := ⟨w_790, w_791, w_792, w_9, w_793, by decide, by decide, by decide +kernel⟩
theorem cv_X3_151 : zLv RX3 151 yX9_value kX9_value 1 := ⟨w_795, w_796, w_797, w_9, w_798, by decide, by decide, by decide +kernel⟩
theorem cv_X3_154 : zLv RX3 154 yX9_add kX9_add 2 := ⟨w_799, w_684, w_685, w_9, w_686, by decide, by decide, by decide +kernel⟩
theorem cv_X3_161 : zLv RX3 161 yX9_parts kX9_parts 0 := ⟨w_809, w_810, w_811, w_9, w_812, by decide, by decide, by decide +kernel⟩
theorem cv_X3_164 : zLv RX3 164 yX9_begin kX9_begin 1 := ⟨w_813, w_814, w_815, w_9, w_816, by decide, by decide, by decide +kernel⟩
theorem cv_X3_167 : zLv RX3 167 yX9_end kX9_end 1 := ⟨w_817, w_818, w_819, w_9, w_820, by decide, by decide, by decide +kernel⟩
theorem fl_X3_24 : zFl RX3 24 4 1 := ⟨RX3, TX3, 4, rfl, by decide, (Or.inl w_208), zws_X3⟩
theorem cv_X3_158 : zLv RX3 158 yX9_endPartition kX9_endPartition 0 := ⟨w_800, w_801, w_802, w_9, w_803, by decide, by decide, by decide +kernel⟩
theorem cv_X3_170 : zLv RX3 170 yX7_newKey kX7_newKey 2 := ⟨w_821, w_822, w_823, w_6, w_824, by decide, by decide, by decide +kernel⟩
theorem cv_X3_173 : zLv RX3 173 yX7_newValue kX7_newValue 2 := ⟨w_826, w_827, w_828, w_6, w_829, by decide, by decide, by decide +kernel⟩
theorem cv_X3_144 : zLs RX3 144 yX11_modulo kX11_modulo 2 := ⟨(Or.inr ⟨"Taskgraphic", w_784⟩), w_785, w_1, w_786, by decide, by decide, by decide +kernel⟩
theorem fl_X3_14 : zFl RX3 14 4 2 := ⟨RX3, TX3, 4, rfl, by decide, (Or.inl w_209), zws_X3⟩
theorem fl_X3_84 : zFl RX3 84 7 1 := ⟨RX7, TX7, 15, rfl, by decide, (Or.inl w_125), zws_X7⟩
theorem cv_X3_57 : zLv RX3 57 yX3_of kX3_of 1 := ⟨w_766, w_767, w_768, w_12, w_769, by decide, by decide, by decide +kernel⟩
theorem fl_X3_74 : zFl RX3 74 7 2 := ⟨RX7, TX7, 15, rfl, by decide, (Or.inl w_129), zws_X7⟩
theorem fl_X3_87 : zFl RX3 87 7 8 := ⟨RX7, TX7, 15, rfl, by decide, (Or.inl w_143), zws_X7⟩
theorem cv_X3_90 : zLv RX3 90 yX9_clear kX9_clear 0 := ⟨w_774, w_775, w_776, w_9, w_777, by decide, by decide, by decide +kernel⟩
theorem fl_X3_65 : zFl RX3 65 7 0 := ⟨RX7, TX7, 15, rfl, by decide, (Or.inl w_121), zws_X7⟩
theorem fs_X3_93 : Cond.fieldLink RX3 93 RX5 (zKn 0) "LTaskgraphic$Kind;" ∈ zW ∨ ∃ host, Cond.fieldLinkNest RX3 93 RX5 (zKn 0) "LTaskgraphic$Kind;" host ∈ zN := Or.inl w_778
theorem fl_X3_96 : zFl RX3 96 7 5 := ⟨RX7, TX7, 15, rfl, by decide, (Or.inl w_137), zws_X7⟩
theorem cv_X3_99 : zLv RX3 99 yX3_deal kX3_deal 3 := ⟨w_779, w_781, (zW_l (i := 8) rfl rfl), w_12, w_782, by decide, by decide, by decide +kernel⟩
theorem fs_X3_103 : Cond.fieldLink RX3 103 RX5 (zKn 1) "LTaskgraphic$Kind;" ∈ zW ∨ ∃ host, Cond.fieldLinkNest RX3 103 RX5 (zKn 1) "LTaskgraphic$Kind;" host ∈ zN := Or.inl w_804
theorem cv_X3_106 : zLv RX3 106 yX3_change kX3_change 3 := ⟨w_805, w_807, (zW_l (i := 9) rfl rfl), w_12, w_808, by decide, by decide, by decide +kernel⟩
theorem fs_X3_110 : Cond.fieldLink RX3 110 RX5 (zKn 2) "LTaskgraphic$Kind;" ∈ zW ∨ ∃ host, Cond.fieldLinkNest RX3 110 RX5 (zKn 2) "LTaskgraphic$Kind;" host ∈ zN := Or.inl w_830
theorem cv_X3_113 : zLv RX3 113 yX3_sift kX3_sift 3 := ⟨w_831, w_833, (zW_l (i := 10) rfl rfl), w_12, w_834, by decide, by decide, by decide +kernel⟩
theorem fs_X3_116 : Cond.fieldLink RX3 116 RX5 (zKn 3) "LTaskgraphic$Kind;" ∈ zW ∨ ∃ host, Cond.fieldLinkNest RX3 116 RX5 (zKn 3) "LTaskgraphic$Kind;" host ∈ zN := Or.inl w_835
theorem cv_X3_119 : zLv RX3 119 yX3_unite kX3_unite 3 := ⟨w_836, w_838, (zW_l (i := 11) rfl rfl), w_12, w_839, by decide, by decide, by decide +kernel⟩
theorem fs_X3_123 : Cond.fieldLink RX3 123 RX5 (zKn 4) "LTaskgraphic$Kind;" ∈ zW ∨ ∃ host, Cond.fieldLinkNest RX3 123 RX5 (zKn 4) "LTaskgraphic$Kind;" host ∈ zN := Or.inl w_844
theorem cv_X3_126 : zLv RX3 126 yX3_groupByKey kX3_groupByKey 2 := ⟨w_845, w_847, (zW_l (i := 13) rfl rfl), w_12, w_848, by decide, by decide, by decide +kernel⟩
theorem cv_X3_130 : zLv RX3 130 yX3_dealByKey kX3_dealByKey 2 := ⟨w_876, w_878, (zW_l (i := 14) rfl rfl), w_12, w_879, by decide, by decide, by decide +kernel⟩
theorem fl_X3_20 : zFl RX3 20 4 0 := ⟨RX3, TX3, 4, rfl, by decide, (Or.inl w_207), zws_X3⟩
theorem fl_X3_81 : zFl RX3 81 3 2 := ⟨RX2, TX2, 3, rfl, by decide, (Or.inl w_190), zws_X2⟩
theorem cv_X3_134 : zLv RX3 134 yX3_joinInOrder kX3_joinInOrder 3 := ⟨w_880, w_882, (zW_l (i := 15) rfl rfl), w_12, w_883, by decide, by decide, by decide +kernel⟩
theorem cv_X3_137 : zLv RX3 137 yX3_sortByKey kX3_sortByKey 1 := ⟨w_888, w_890, (zW_l (i := 17) rfl rfl), w_12, w_891, by decide, by decide, by decide +kernel⟩
theorem cv_X3_141 : zLv RX3 141 yX3_joinByKey kX3_joinByKey 3 := ⟨w_892, w_894, (zW_l (i := 18) rfl rfl), w_12, w_895, by decide, by decide, by decide +kernel⟩
theorem fp_X3_42 : zFp RX3 42 4 3 (tyX3 3) := ⟨RX3, TX3, 4, tyX3, rfl, by decide, (Or.inl w_210), zws_X3, tyX3_ok, nmX3, rfl, rfl⟩
theorem cv_X3_28 : zLv RX3 28 yX2_at kX2_at 1 := ⟨w_692, w_567, w_568, w_2, w_569, by decide, by decide, by decide +kernel⟩
theorem fl_X3_46 : zFl RX3 46 7 14 := ⟨RX7, TX7, 15, rfl, by decide, (Or.inl w_155), zws_X7⟩
theorem cv_X3_49 : zLs RX3 49 yX11_has kX11_has 2 := ⟨(Or.inr ⟨"Taskgraphic", w_693⟩), w_694, w_1, w_695, by decide, by decide, by decide +kernel⟩
theorem fl_X3_42 : zFl RX3 42 4 3 := ⟨RX3, TX3, 4, rfl, by decide, (Or.inl w_210), zws_X3⟩
theorem cv_X3_53 : zLs RX3 53 yX11_with kX11_with 2 := ⟨(Or.inr ⟨"Taskgraphic", w_696⟩), w_585, w_1, w_586, by decide, by decide, by decide +kernel⟩
theorem cv_X3_61 : zLv RX3 61 yX3_fill kX3_fill 2 := ⟨w_770, w_772, (zW_l (i := 7) rfl rfl), w_12, w_773, by decide, by decide, by decide +kernel⟩
theorem cv_X3_186 : zLv RX3 186 yX9_placeBehind kX9_placeBehind 1 := ⟨w_849, w_850, w_851, w_9, w_852, by decide, by decide, by decide +kernel⟩
theorem cv_X3_189 : zLv RX3 189 yX9_hasKey kX9_hasKey 2 := ⟨w_853, w_854, w_855, w_9, w_856, by decide, by decide, by decide +kernel⟩
theorem cv_X3_192 : zLv RX3 192 yX7_nextOfGroup kX7_nextOfGroup 2 := ⟨w_857, w_858, w_859, w_6, w_860, by decide, by decide, by decide +kernel⟩
theorem cv_X3_195 : zLv RX3 195 yX9_setValue kX9_setValue 2 := ⟨w_867, w_868, w_869, w_9, w_870, by decide, by decide, by decide +kernel⟩
theorem cv_X3_198 : zLv RX3 198 yX7_firstOfGroup kX7_firstOfGroup 1 := ⟨w_871, w_864, w_865, w_6, w_866, by decide, by decide, by decide +kernel⟩
theorem cv_X3_201 : zLv RX3 201 yX9_insert kX9_insert 3 := ⟨w_872, w_873, w_874, w_9, w_875, by decide, by decide, by decide +kernel⟩
theorem cv_X3_3 : Cond.methodLink RX3 3 objectInit ∈ zW := w_204
theorem nw_X3_9 : zNw RX3 9 9 [.int 0, .null, .null, .null, .int 0, .int 0] := ⟨RX9, TX9, 6, tyX9, rfl, w_205, w_80, w_9, zws_X9, tyX9_ok, (by decide +kernel), rfl⟩
theorem cv_X3_11 : zLi RX3 11 yX9_init kX9_init 1 := ⟨(Or.inl w_206), w_83, w_9, w_84, rfl, rfl, by decide, by decide, by decide +kernel⟩
theorem ff_X3_14 : zFf RX3 14 4 2 (tyX3 2) := ⟨RX3, TX3, 4, tyX3, rfl, by decide, w_209, zws_X3, tyX3_ok, nmX3, rfl, rfl, rfl⟩
theorem ff_X3_20 : zFf RX3 20 4 0 (tyX3 0) := ⟨RX3, TX3, 4, tyX3, rfl, by decide, w_207, zws_X3, tyX3_ok, nmX3, rfl, rfl, rfl⟩
theorem ff_X3_24 : zFf RX3 24 4 1 (tyX3 1) := ⟨RX3, TX3, 4, tyX3, rfl, by decide, w_208, zws_X3, tyX3_ok, nmX3, rfl, rfl, rfl⟩
theorem cv_X3_205 : zLv RX3 205 yX3_addMatches kX3_addMatches 4 := ⟨w_884, w_886, (zW_l (i := 16) rfl rfl), w_12, w_887, by decide, by decide, by decide +kernel⟩
theorem fs_X3_69 : Cond.fieldLink RX3 69 RX5 (zKn 5) "LTaskgraphic$Kind;" ∈ zW ∨ ∃ host, Cond.fieldLinkNest RX3 69 RX5 (zKn 5) "LTaskgraphic$Kind;" host ∈ zN := Or.inl w_954
theorem fl_X3_34 : zFl RX3 34 7 7 := ⟨RX7, TX7, 15, rfl, by decide, (Or.inl w_141), zws_X7⟩
theorem fl_X3_39 : zFl RX3 39 7 6 := ⟨RX7, TX7, 15, rfl, by decide, (Or.inl w_139), zws_X7⟩
theorem fl_X3_176 : zFl RX3 176 7 11 := ⟨RX7, TX7, 15, rfl, by decide, (Or.inl w_150), zws_X7⟩
theorem fl_X3_179 : zFl RX3 179 7 12 := ⟨RX7, TX7, 15, rfl, by decide, (Or.inl w_152), zws_X7⟩
theorem cv_X3_182 : zLv RX3 182 yX3_append kX3_append 2 := ⟨w_840, w_842, (zW_l (i := 12) rfl rfl), w_12, w_843, by decide, by decide, by decide +kernel⟩
theorem fl_X4_13 : zFl RX4 13 5 0 := ⟨RX4, TX4, 1, rfl, by decide, (Or.inl w_95), zws_X4⟩
theorem cv_X4_1 : Cond.methodLink RX4 1 objectInit ∈ zW := w_91
theorem cv_X4_7 : zLs RX4 7 yJ9_max_7cf53 kJ9_max_7cf53 2 := ⟨(Or.inl w_92), w_93, w_11, w_94, by decide, by decide, by decide +kernel⟩
theorem ff_X4_13 : zFf RX4 13 5 0 (tyX4 0) := ⟨RX4, TX4, 1, tyX4, rfl, by decide, w_95, zws_X4, tyX4_ok, nmX4, rfl, rfl, rfl⟩
theorem fl_X6_35 : zFl RX6 35 6 6 := ⟨RX6, TX6, 10, rfl, by decide, (Or.inl w_340), zws_X6⟩
theorem fl_X6_14 : zFl RX6 14 6 0 := ⟨RX6, TX6, 10, rfl, by decide, (Or.inl w_326), zws_X6⟩
theorem cv_X6_45 : zLv RX6 45 yX4_set kX4_set 2 := ⟨w_1163, w_377, w_378, w_10, w_379, by decide, by decide, by decide +kernel⟩
theorem fl_X6_20 : zFl RX6 20 6 1 := ⟨RX6, TX6, 10, rfl, by decide, (Or.inl w_328), zws_X6⟩
theorem fl_X6_23 : zFl RX6 23 6 2 := ⟨RX6, TX6, 10, rfl, by decide, (Or.inl w_330), zws_X6⟩
theorem fl_X6_26 : zFl RX6 26 6 3 := ⟨RX6, TX6, 10, rfl, by decide, (Or.inl w_333), zws_X6⟩
theorem fl_X6_29 : zFl RX6 29 6 4 := ⟨RX6, TX6, 10, rfl, by decide, (Or.inl w_335), zws_X6⟩
theorem fl_X6_32 : zFl RX6 32 6 5 := ⟨RX6, TX6, 10, rfl, by decide, (Or.inl w_338), zws_X6⟩
theorem fp_X6_35 : zFp RX6 35 6 6 (tyX6 6) := ⟨RX6, TX6, 10, tyX6, rfl, by decide, (Or.inl w_340), zws_X6, tyX6_ok, nmX6, rfl, rfl⟩
theorem fp_X6_39 : zFp RX6 39 6 8 (tyX6 8) := ⟨RX6, TX6, 10, tyX6, rfl, by decide, (Or.inl w_343), zws_X6, tyX6_ok, nmX6, rfl, rfl⟩
theorem fp_X6_42 : zFp RX6 42 6 9 (tyX6 9) := ⟨RX6, TX6, 10, tyX6, rfl, by decide, (Or.inl w_345), zws_X6, tyX6_ok, nmX6, rfl, rfl⟩
theorem cv_X6_3 : Cond.methodLink RX6 3 objectInit ∈ zW := w_323
theorem nw_X6_9 : zNw RX6 9 5 [.null] := ⟨RX4, TX4, 1, tyX4, rfl, w_324, w_87, w_10, zws_X4, tyX4_ok, (by decide +kernel), rfl⟩
theorem cv_X6_11 : zLi RX6 11 yX4_init kX4_init 1 := ⟨(Or.inl w_325), w_89, w_10, w_90, rfl, rfl, by decide, by decide, by decide +kernel⟩
theorem ff_X6_14 : zFf RX6 14 6 0 (tyX6 0) := ⟨RX6, TX6, 10, tyX6, rfl, by decide, w_326, zws_X6, tyX6_ok, nmX6, rfl, rfl, rfl⟩
theorem ff_X6_20 : zFf RX6 20 6 1 (tyX6 1) := ⟨RX6, TX6, 10, tyX6, rfl, by decide, w_328, zws_X6, tyX6_ok, nmX6, rfl, rfl, rfl⟩
theorem ff_X6_23 : zFf RX6 23 6 2 (tyX6 2) := ⟨RX6, TX6, 10, tyX6, rfl, by decide, w_330, zws_X6, tyX6_ok, nmX6, rfl, rfl, rfl⟩
theorem ff_X6_26 : zFf RX6 26 6 3 (tyX6 3) := ⟨RX6, TX6, 10, tyX6, rfl, by decide, w_333, zws_X6, tyX6_ok, nmX6, rfl, rfl, rfl⟩
theorem ff_X6_29 : zFf RX6 29 6 4 (tyX6 4) := ⟨RX6, TX6, 10, tyX6, rfl, by decide, w_335, zws_X6, tyX6_ok, nmX6, rfl, rfl, rfl⟩
theorem ff_X6_32 : zFf RX6 32 6 5 (tyX6 5) := ⟨RX6, TX6, 10, tyX6, rfl, by decide, w_338, zws_X6, tyX6_ok, nmX6, rfl, rfl, rfl⟩
theorem cv_X6_49 : zLv RX6 49 yX4_at kX4_at 1 := ⟨w_455, w_456, w_457, w_10, w_458, by decide, by decide, by decide +kernel⟩
theorem fl_X7_48 : zFl RX7 48 7 9 := ⟨RX7, TX7, 15, rfl, by decide, (Or.inl w_145), zws_X7⟩
theorem cv_X7_3 : Cond.methodLink RX7 3 objectInit ∈ zW := w_78
theorem ff_X7_9 : zFf RX7 9 7 0 (tyX7 0) := ⟨RX7, TX7, 15, tyX7, rfl, by decide, w_119, zws_X7, tyX7_ok, nmX7, rfl, rfl, rfl⟩
theorem ff_X7_15 : zFf RX7 15 7 1 (tyX7 1) := ⟨RX7, TX7, 15, tyX7, rfl, by decide, w_123, zws_X7, tyX7_ok, nmX7, rfl, rfl, rfl⟩
theorem ff_X7_19 : zFf RX7 19 7 2 (tyX7 2) := ⟨RX7, TX7, 15, tyX7, rfl, by decide, w_127, zws_X7, tyX7_ok, nmX7, rfl, rfl, rfl⟩
theorem ff_X7_22 : zFf RX7 22 7 3 (tyX7 3) := ⟨RX7, TX7, 15, tyX7, rfl, by decide, w_131, zws_X7, tyX7_ok, nmX7, rfl, rfl, rfl⟩
theorem ff_X7_25 : zFf RX7 25 7 4 (tyX7 4) := ⟨RX7, TX7, 15, tyX7, rfl, by decide, w_133, zws_X7, tyX7_ok, nmX7, rfl, rfl, rfl⟩
theorem nw_X7_28 : zNw RX7 28 9 [.int 0, .null, .null, .null, .int 0, .int 0] := ⟨RX9, TX9, 6, tyX9, rfl, w_79, w_80, w_9, zws_X9, tyX9_ok, (by decide +kernel), rfl⟩
theorem fs_X7_30 : Cond.fieldLink RX7 30 RX5 (zKn 0) "LTaskgraphic$Kind;" ∈ zW ∨ ∃ host, Cond.fieldLinkNest RX7 30 RX5 (zKn 0) "LTaskgraphic$Kind;" host ∈ zN := Or.inl w_81
theorem cv_X7_35 : zLi RX7 35 yX9_init kX9_init 1 := ⟨(Or.inl w_82), w_83, w_9, w_84, rfl, rfl, by decide, by decide, by decide +kernel⟩
theorem ff_X7_38 : zFf RX7 38 7 5 (tyX7 5) := ⟨RX7, TX7, 15, tyX7, rfl, by decide, w_135, zws_X7, tyX7_ok, nmX7, rfl, rfl, rfl⟩
theorem ff_X7_42 : zFf RX7 42 7 6 (tyX7 6) := ⟨RX7, TX7, 15, tyX7, rfl, by decide, w_138, zws_X7, tyX7_ok, nmX7, rfl, rfl, rfl⟩
theorem ff_X7_45 : zFf RX7 45 7 7 (tyX7 7) := ⟨RX7, TX7, 15, tyX7, rfl, by decide, w_140, zws_X7, tyX7_ok, nmX7, rfl, rfl, rfl⟩
theorem fl_X7_51 : zFl RX7 51 7 10 := ⟨RX7, TX7, 15, rfl, by decide, (Or.inl w_147), zws_X7⟩
theorem cv_X7_54 : zLs RX7 54 yX11_modulo kX11_modulo 2 := ⟨(Or.inr ⟨"Taskgraphic", w_825⟩), w_785, w_1, w_786, by decide, by decide, by decide +kernel⟩
theorem cv_X7_58 : zLs RX7 58 yJ9_min_7cf53 kJ9_min_7cf53 2 := ⟨(Or.inl w_861), w_642, w_11, w_643, by decide, by decide, by decide +kernel⟩
theorem cv_X7_63 : zLs RX7 63 yJ9_max_7cf53 kJ9_max_7cf53 2 := ⟨(Or.inl w_862), w_93, w_11, w_94, by decide, by decide, by decide +kernel⟩
theorem cv_X7_66 : zLv RX7 66 yX7_firstOfGroup kX7_firstOfGroup 1 := ⟨w_863, w_864, w_865, w_6, w_866, by decide, by decide, by decide +kernel⟩
theorem fl_X8_32 : zFl RX8 32 8 4 := ⟨RX8, TX8, 7, rfl, by decide, (Or.inl w_260), zws_X8⟩
theorem cv_X8_36 : zLs RX8 36 yJ6_bitCount_0f7a4 kJ6_bitCount_0f7a4 1 := ⟨(Or.inl w_1097), w_1098, w_30, w_1099, by decide, by decide, by decide +kernel⟩
theorem fp_X8_32 : zFp RX8 32 8 4 (tyX8 4) := ⟨RX8, TX8, 7, tyX8, rfl, by decide, (Or.inl w_260), zws_X8, tyX8_ok, nmX8, rfl, rfl⟩
theorem fp_X8_49 : zFp RX8 49 8 5 (tyX8 5) := ⟨RX8, TX8, 7, tyX8, rfl, by decide, (Or.inl w_262), zws_X8, tyX8_ok, nmX8, rfl, rfl⟩
theorem fp_X8_52 : zFp RX8 52 8 6 (tyX8 6) := ⟨RX8, TX8, 7, tyX8, rfl, by decide, (Or.inl w_264), zws_X8, tyX8_ok, nmX8, rfl, rfl⟩
theorem cv_X8_55 : zLv RX8 55 yX8_needWhole kX8_needWhole 1 := ⟨w_1062, w_1064, (zW_l (i := 20) rfl rfl), w_14, w_1065, by decide, by decide, by decide +kernel⟩
theorem cv_X8_42 : zLs RX8 42 yX11_has kX11_has 2 := ⟨(Or.inr ⟨"Taskgraphic", w_1068⟩), w_694, w_1, w_695, by decide, by decide, by decide +kernel⟩
theorem fl_X8_24 : zFl RX8 24 8 1 := ⟨RX8, TX8, 7, rfl, by decide, (Or.inl w_257), zws_X8⟩
theorem cv_X8_58 : zLv RX8 58 yX3_of kX3_of 1 := ⟨w_1069, w_767, w_768, w_12, w_769, by decide, by decide, by decide +kernel⟩
theorem cv_X8_64 : zLv RX8 64 yX9_parts kX9_parts 0 := ⟨w_1070, w_810, w_811, w_9, w_812, by decide, by decide, by decide +kernel⟩
theorem fl_X8_14 : zFl RX8 14 8 3 := ⟨RX8, TX8, 7, rfl, by decide, (Or.inl w_259), zws_X8⟩
theorem cv_X8_70 : zLv RX8 70 yX8_readsOfTask kX8_readsOfTask 2 := ⟨w_1071, w_1073, (zW_l (i := 21) rfl rfl), w_14, w_1074, by decide, by decide, by decide +kernel⟩
theorem cv_X8_74 : zLv RX8 74 yX4_set kX4_set 2 := ⟨w_1092, w_377, w_378, w_10, w_379, by decide, by decide, by decide +kernel⟩
theorem cv_X8_3 : Cond.methodLink RX8 3 objectInit ∈ zW := w_253
theorem nw_X8_9 : zNw RX8 9 5 [.null] := ⟨RX4, TX4, 1, tyX4, rfl, w_254, w_87, w_10, zws_X4, tyX4_ok, (by decide +kernel), rfl⟩
theorem cv_X8_11 : zLi RX8 11 yX4_init kX4_init 1 := ⟨(Or.inl w_255), w_89, w_10, w_90, rfl, rfl, by decide, by decide, by decide +kernel⟩
theorem ff_X8_14 : zFf RX8 14 8 3 (tyX8 3) := ⟨RX8, TX8, 7, tyX8, rfl, by decide, w_259, zws_X8, tyX8_ok, nmX8, rfl, rfl, rfl⟩
theorem ff_X8_20 : zFf RX8 20 8 0 (tyX8 0) := ⟨RX8, TX8, 7, tyX8, rfl, by decide, w_256, zws_X8, tyX8_ok, nmX8, rfl, rfl, rfl⟩
theorem ff_X8_24 : zFf RX8 24 8 1 (tyX8 1) := ⟨RX8, TX8, 7, tyX8, rfl, by decide, w_257, zws_X8, tyX8_ok, nmX8, rfl, rfl, rfl⟩
theorem ff_X8_28 : zFf RX8 28 8 2 (tyX8 2) := ⟨RX8, TX8, 7, tyX8, rfl, by decide, w_258, zws_X8, tyX8_ok, nmX8, rfl, rfl, rfl⟩
theorem fl_X8_28 : zFl RX8 28 8 2 := ⟨RX8, TX8, 7, rfl, by decide, (Or.inl w_258), zws_X8⟩
theorem cv_X8_78 : zLv RX8 78 yX0_holds kX0_holds 1 := ⟨w_1066, w_1047, w_1048, w_13, w_1049, by decide, by decide, by decide +kernel⟩
theorem fl_X8_52 : zFl RX8 52 8 6 := ⟨RX8, TX8, 7, rfl, by decide, (Or.inl w_264), zws_X8⟩
theorem cv_X8_84 : zLs RX8 84 yX11_with kX11_with 2 := ⟨(Or.inr ⟨"Taskgraphic", w_1067⟩), w_585, w_1, w_586, by decide, by decide, by decide +kernel⟩
theorem cv_X8_46 : zLv RX8 46 yX4_at kX4_at 1 := ⟨w_1140, w_456, w_457, w_10, w_458, by decide, by decide, by decide +kernel⟩
theorem fl_X8_125 : zFl RX8 125 7 1 := ⟨RX7, TX7, 15, rfl, by decide, (Or.inl w_126), zws_X7⟩
theorem fl_X8_131 : zFl RX8 131 7 8 := ⟨RX7, TX7, 15, rfl, by decide, (Or.inl w_144), zws_X7⟩
theorem cv_X8_134 : zLs RX8 134 yX8_sizeOfShare kX8_sizeOfShare 3 := ⟨(Or.inl w_1085), w_1086, w_14, w_1087, by decide, by decide, by decide +kernel⟩
theorem fl_X8_95 : zFl RX8 95 7 0 := ⟨RX7, TX7, 15, rfl, by decide, (Or.inl w_122), zws_X7⟩
theorem fs_X8_112 : Cond.fieldLink RX8 112 RX5 (zKn 5) "LTaskgraphic$Kind;" ∈ zW ∨ ∃ host, Cond.fieldLinkNest RX8 112 RX5 (zKn 5) "LTaskgraphic$Kind;" host ∈ zN := Or.inl w_1080
theorem fl_X8_119 : zFl RX8 119 7 2 := ⟨RX7, TX7, 15, rfl, by decide, (Or.inl w_130), zws_X7⟩
theorem fl_X8_20 : zFl RX8 20 8 0 := ⟨RX8, TX8, 7, rfl, by decide, (Or.inl w_256), zws_X8⟩
theorem cv_X8_87 : zLv RX8 87 yX2_at kX2_at 1 := ⟨w_1075, w_567, w_568, w_2, w_569, by decide, by decide, by decide +kernel⟩
theorem cv_X8_92 : zLv RX8 92 yX9_sizeOf kX9_sizeOf 1 := ⟨w_1076, w_909, w_910, w_9, w_911, by decide, by decide, by decide +kernel⟩
theorem fl_X8_49 : zFl RX8 49 8 5 := ⟨RX8, TX8, 7, rfl, by decide, (Or.inl w_262), zws_X8⟩
theorem fs_X8_101 : Cond.fieldLink RX8 101 RX5 (zKn 0) "LTaskgraphic$Kind;" ∈ zW ∨ ∃ host, Cond.fieldLinkNest RX8 101 RX5 (zKn 0) "LTaskgraphic$Kind;" host ∈ zN := Or.inl w_1077
theorem cv_X8_106 : zLv RX8 106 yX3_joinsBroadly kX3_joinsBroadly 1 := ⟨w_1078, w_951, w_952, w_12, w_953, by decide, by decide, by decide +kernel⟩
theorem fs_X8_109 : Cond.fieldLink RX8 109 RX5 (zKn 4) "LTaskgraphic$Kind;" ∈ zW ∨ ∃ host, Cond.fieldLinkNest RX8 109 RX5 (zKn 4) "LTaskgraphic$Kind;" host ∈ zN := Or.inl w_1079
theorem cv_X8_115 : zLv RX8 115 yX8_readsOfShares kX8_readsOfShares 2 := ⟨w_1081, w_1083, (zW_l (i := 22) rfl rfl), w_14, w_1084, by decide, by decide, by decide +kernel⟩
theorem cv_X8_122 : zLv RX8 122 yX9_size kX9_size 0 := ⟨w_1088, w_679, w_680, w_9, w_681, by decide, by decide, by decide +kernel⟩
theorem fs_X8_128 : Cond.fieldLink RX8 128 RX5 (zKn 3) "LTaskgraphic$Kind;" ∈ zW ∨ ∃ host, Cond.fieldLinkNest RX8 128 RX5 (zKn 3) "LTaskgraphic$Kind;" host ∈ zN := Or.inl w_1091
theorem cv_X8_138 : zLv RX8 138 yX9_key kX9_key 1 := ⟨w_1089, w_791, w_792, w_9, w_793, by decide, by decide, by decide +kernel⟩
theorem cv_X8_141 : zLs RX8 141 yX11_modulo kX11_modulo 2 := ⟨(Or.inr ⟨"Taskgraphic", w_1090⟩), w_785, w_1, w_786, by decide, by decide, by decide +kernel⟩
theorem fl_X9_30 : zFl RX9 30 9 4 := ⟨RX9, TX9, 6, rfl, by decide, (Or.inl w_104), zws_X9⟩
theorem fl_X9_9 : zFl RX9 9 9 0 := ⟨RX9, TX9, 6, rfl, by decide, (Or.inl w_100), zws_X9⟩
theorem fl_X9_20 : zFl RX9 20 9 1 := ⟨RX9, TX9, 6, rfl, by decide, (Or.inl w_101), zws_X9⟩
theorem cv_X9_46 : zLv RX9 46 yX4_set kX4_set 2 := ⟨w_687, w_377, w_378, w_10, w_379, by decide, by decide, by decide +kernel⟩
theorem fl_X9_24 : zFl RX9 24 9 2 := ⟨RX9, TX9, 6, rfl, by decide, (Or.inl w_102), zws_X9⟩
theorem fp_X9_30 : zFp RX9 30 9 4 (tyX9 4) := ⟨RX9, TX9, 6, tyX9, rfl, by decide, (Or.inl w_104), zws_X9, tyX9_ok, nmX9, rfl, rfl⟩
theorem fl_X9_27 : zFl RX9 27 9 3 := ⟨RX9, TX9, 6, rfl, by decide, (Or.inl w_103), zws_X9⟩
theorem cv_X9_36 : zLv RX9 36 yX4_at kX4_at 1 := ⟨w_794, w_456, w_457, w_10, w_458, by decide, by decide, by decide +kernel⟩
theorem fp_X9_33 : zFp RX9 33 9 5 (tyX9 5) := ⟨RX9, TX9, 6, tyX9, rfl, by decide, (Or.inl w_105), zws_X9, tyX9_ok, nmX9, rfl, rfl⟩
theorem fl_X9_33 : zFl RX9 33 9 5 := ⟨RX9, TX9, 6, rfl, by decide, (Or.inl w_105), zws_X9⟩
theorem cv_X9_3 : Cond.methodLink RX9 3 objectInit ∈ zW := w_85
theorem ff_X9_9 : zFf RX9 9 9 0 (tyX9 0) := ⟨RX9, TX9, 6, tyX9, rfl, by decide, w_100, zws_X9, tyX9_ok, nmX9, rfl, rfl, rfl⟩
theorem nw_X9_15 : zNw RX9 15 5 [.null] := ⟨RX4, TX4, 1, tyX4, rfl, w_86, w_87, w_10, zws_X4, tyX4_ok, (by decide +kernel), rfl⟩
theorem cv_X9_17 : zLi RX9 17 yX4_init kX4_init 1 := ⟨(Or.inl w_88), w_89, w_10, w_90, rfl, rfl, by decide, by decide, by decide +kernel⟩
theorem ff_X9_20 : zFf RX9 20 9 1 (tyX9 1) := ⟨RX9, TX9, 6, tyX9, rfl, by decide, w_101, zws_X9, tyX9_ok, nmX9, rfl, rfl, rfl⟩
theorem ff_X9_24 : zFf RX9 24 9 2 (tyX9 2) := ⟨RX9, TX9, 6, tyX9, rfl, by decide, w_102, zws_X9, tyX9_ok, nmX9, rfl, rfl, rfl⟩
theorem ff_X9_27 : zFf RX9 27 9 3 (tyX9 3) := ⟨RX9, TX9, 6, tyX9, rfl, by decide, w_103, zws_X9, tyX9_ok, nmX9, rfl, rfl, rfl⟩
theorem cv_X9_40 : zLv RX9 40 yX9_end kX9_end 1 := ⟨w_912, w_818, w_819, w_9, w_820, by decide, by decide, by decide +kernel⟩
theorem cv_X9_43 : zLv RX9 43 yX9_begin kX9_begin 1 := ⟨w_913, w_814, w_815, w_9, w_816, by decide, by decide, by decide +kernel⟩
