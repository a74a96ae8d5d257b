/-! zw: the good words of the tables in one list; every word by its place -/
abbrev zw : List Cond := lw_tbl.filter goodWord
theorem zt_1 : ∀ w ∈ tables_1_1, w ∈ lw_tbl := fun _ h => List.mem_append_right _ (List.mem_append_left _ (h))
theorem zt_2 : ∀ w ∈ tables_1_2, w ∈ lw_tbl := fun _ h => List.mem_append_right _ (List.mem_append_right _ (List.mem_append_left _ (h)))
theorem zt_3 : ∀ w ∈ tables_1_3, w ∈ lw_tbl := fun _ h => List.mem_append_right _ (List.mem_append_right _ (List.mem_append_right _ (List.mem_append_left _ (h))))
theorem zt_4 : ∀ w ∈ tables_1_4, w ∈ lw_tbl := fun _ h => List.mem_append_right _ (List.mem_append_right _ (List.mem_append_right _ (List.mem_append_right _ (List.mem_append_left _ (h)))))
theorem zt_5 : ∀ w ∈ tables_1_5, w ∈ lw_tbl := fun _ h => List.mem_append_right _ (List.mem_append_right _ (List.mem_append_right _ (List.mem_append_right _ (List.mem_append_right _ (List.mem_append_left _ (h))))))
theorem zt_6 : ∀ w ∈ tables_1_6, w ∈ lw_tbl := fun _ h => List.mem_append_right _ (List.mem_append_right _ (List.mem_append_right _ (List.mem_append_right _ (List.mem_append_right _ (List.mem_append_right _ (List.mem_append_left _ (h)))))))
theorem zt_7 : ∀ w ∈ tables_1_7, w ∈ lw_tbl := fun _ h => List.mem_append_right _ (List.mem_append_right _ (List.mem_append_right _ (List.mem_append_right _ (List.mem_append_right _ (List.mem_append_right _ (List.mem_append_right _ (List.mem_append_left _ (h))))))))
theorem zt_8 : ∀ w ∈ tables_1_8, w ∈ lw_tbl := fun _ h => List.mem_append_right _ (List.mem_append_right _ (List.mem_append_right _ (List.mem_append_right _ (List.mem_append_right _ (List.mem_append_right _ (List.mem_append_right _ (List.mem_append_right _ (List.mem_append_left _ (h)))))))))
theorem zt_9 : ∀ w ∈ tables_1_9, w ∈ lw_tbl := fun _ h => List.mem_append_right _ (List.mem_append_right _ (List.mem_append_right _ (List.mem_append_right _ (List.mem_append_right _ (List.mem_append_right _ (List.mem_append_right _ (List.mem_append_right _ (List.mem_append_right _ (h)))))))))
theorem zp_1 : ∀ q ∈ lw_privs_1, Cond.selects q.1.cls q.1 q.1 ∈ lw_tbl := fun q hq => List.mem_append_left _ (List.mem_map.mpr ⟨q, List.mem_append_left _ (hq), rfl⟩)
theorem zp_2 : ∀ q ∈ lw_privs_2, Cond.selects q.1.cls q.1 q.1 ∈ lw_tbl := fun q hq => List.mem_append_left _ (List.mem_map.mpr ⟨q, List.mem_append_right _ (List.mem_append_left _ (hq)), rfl⟩)
theorem zp_3 : ∀ q ∈ lw_privs_3, Cond.selects q.1.cls q.1 q.1 ∈ lw_tbl := fun q hq => List.mem_append_left _ (List.mem_map.mpr ⟨q, List.mem_append_right _ (List.mem_append_right _ (List.mem_append_left _ (hq))), rfl⟩)
theorem zp_4 : ∀ q ∈ lw_privs_4, Cond.selects q.1.cls q.1 q.1 ∈ lw_tbl := fun q hq => List.mem_append_left _ (List.mem_map.mpr ⟨q, List.mem_append_right _ (List.mem_append_right _ (List.mem_append_right _ (List.mem_append_left _ (hq)))), rfl⟩)
theorem zp_5 : ∀ q ∈ lw_privs_5, Cond.selects q.1.cls q.1 q.1 ∈ lw_tbl := fun q hq => List.mem_append_left _ (List.mem_map.mpr ⟨q, List.mem_append_right _ (List.mem_append_right _ (List.mem_append_right _ (List.mem_append_right _ (hq)))), rfl⟩)
theorem zm0 : Cond.classLink RL 8 RX8 ∈ zw := List.mem_filter.mpr ⟨zt_1 _ (List.mem_of_getElem? (i := 33) rfl), rfl⟩
theorem zm1 : Cond.instantiable RX8 11 ∈ zw := List.mem_filter.mpr ⟨zt_1 _ (List.mem_of_getElem? (i := 34) rfl), rfl⟩
theorem zm2 : Cond.initialized RX8 ∈ zw := List.mem_filter.mpr ⟨zt_1 _ (List.mem_of_getElem? (i := 1) rfl), rfl⟩
theorem zm3 : Cond.classLink RL 161 RX9 ∈ zw := List.mem_filter.mpr ⟨zt_7 _ (List.mem_of_getElem? (i := 57) rfl), rfl⟩
theorem zm4 : Cond.instantiable RX9 20 ∈ zw := List.mem_filter.mpr ⟨zt_7 _ (List.mem_of_getElem? (i := 58) rfl), rfl⟩
theorem zm5 : Cond.initialized RX9 ∈ zw := List.mem_filter.mpr ⟨zt_1 _ (List.mem_of_getElem? (i := 12) rfl), rfl⟩
theorem zm6 : Cond.arrayClass .long ∈ zw := List.mem_filter.mpr ⟨zt_9 _ (List.mem_of_getElem? (i := 48) rfl), rfl⟩
theorem zm7 : Cond.arrayClass .double ∈ zw := List.mem_filter.mpr ⟨zt_9 _ (List.mem_of_getElem? (i := 49) rfl), rfl⟩
theorem zm8 : Cond.methodLink RL 160 yX8_init ∈ zw := List.mem_filter.mpr ⟨zt_1 _ (List.mem_of_getElem? (i := 35) rfl), rfl⟩
theorem zm9 : Cond.instanceMethod yX8_init ∈ zw := List.mem_filter.mpr ⟨zt_1 _ (List.mem_of_getElem? (i := 36) rfl), rfl⟩
theorem zm10 : Cond.code yX8_init cX8_init 1 none ∈ zw := List.mem_filter.mpr ⟨zt_1 _ (List.mem_of_getElem? (i := 37) rfl), rfl⟩
theorem zm11 : Cond.methodLink RX8 1 objectInit ∈ zw := List.mem_filter.mpr ⟨zt_1 _ (List.mem_of_getElem? (i := 38) rfl), rfl⟩
theorem zm12 : Cond.instanceMethod objectInit ∈ zw := List.mem_filter.mpr ⟨zt_1 _ (List.mem_of_getElem? (i := 39) rfl), rfl⟩
theorem zm13 : Cond.code objectInit ⟨#[0xb1]⟩ 1 none ∈ zw := List.mem_filter.mpr ⟨zt_1 _ (List.mem_of_getElem? (i := 40) rfl), rfl⟩
theorem zm14 : Cond.classLink RX8 7 RX6 ∈ zw := List.mem_filter.mpr ⟨zt_1 _ (List.mem_of_getElem? (i := 41) rfl), rfl⟩
theorem zm15 : Cond.instantiable RX6 10 ∈ zw := List.mem_filter.mpr ⟨zt_1 _ (List.mem_of_getElem? (i := 42) rfl), rfl⟩
theorem zm16 : Cond.initialized RX6 ∈ zw := List.mem_filter.mpr ⟨zt_1 _ (List.mem_of_getElem? (i := 2) rfl), rfl⟩
theorem zm17 : Cond.fieldLink RX8 10 "PinballScorer" "table" "LPinballScorer$Table;" ∈ zw := List.mem_filter.mpr ⟨zt_2 _ (List.mem_of_getElem? (i := 42) rfl), rfl⟩
theorem zm18 : Cond.classLink RX8 16 RX3 ∈ zw := List.mem_filter.mpr ⟨zt_1 _ (List.mem_of_getElem? (i := 194) rfl), rfl⟩
theorem zm19 : Cond.instantiable RX3 3 ∈ zw := List.mem_filter.mpr ⟨zt_1 _ (List.mem_of_getElem? (i := 195) rfl), rfl⟩
theorem zm20 : Cond.initialized RX3 ∈ zw := List.mem_filter.mpr ⟨zt_1 _ (List.mem_of_getElem? (i := 6) rfl), rfl⟩
theorem zm21 : Cond.fieldLink RX8 19 "PinballScorer" "history" "LPinballScorer$History;" ∈ zw := List.mem_filter.mpr ⟨zt_2 _ (List.mem_of_getElem? (i := 43) rfl), rfl⟩
theorem zm22 : Cond.fieldLink RX8 23 "PinballScorer" "snapshot" "LPinballScorer$Table;" ∈ zw := List.mem_filter.mpr ⟨zt_2 _ (List.mem_of_getElem? (i := 44) rfl), rfl⟩
theorem zm23 : Cond.classLink RX8 26 RX1 ∈ zw := List.mem_filter.mpr ⟨zt_1 _ (List.mem_of_getElem? (i := 214) rfl), rfl⟩
theorem zm24 : Cond.instantiable RX1 11 ∈ zw := List.mem_filter.mpr ⟨zt_1 _ (List.mem_of_getElem? (i := 48) rfl), rfl⟩
theorem zm25 : Cond.initialized RX1 ∈ zw := List.mem_filter.mpr ⟨zt_1 _ (List.mem_of_getElem? (i := 3) rfl), rfl⟩
theorem zm26 : Cond.fieldLink RX8 29 "PinballScorer" "trial" "LPinballScorer$Ball;" ∈ zw := List.mem_filter.mpr ⟨zt_2 _ (List.mem_of_getElem? (i := 46) rfl), rfl⟩
theorem zm27 : Cond.classLink RX8 33 RJ4 ∈ zw := List.mem_filter.mpr ⟨zt_1 _ (List.mem_of_getElem? (i := 216) rfl), rfl⟩
theorem zm28 : Cond.instantiable RJ4 4 ∈ zw := List.mem_filter.mpr ⟨zt_1 _ (List.mem_of_getElem? (i := 217) rfl), rfl⟩
theorem zm29 : Cond.initialized RJ4 ∈ zw := List.mem_filter.mpr ⟨zt_1 _ (List.mem_of_getElem? (i := 8) rfl), rfl⟩
theorem zm30 : Cond.fieldLink RX8 36 "PinballScorer" "output" "Ljava/lang/StringBuilder;" ∈ zw := List.mem_filter.mpr ⟨zt_2 _ (List.mem_of_getElem? (i := 47) rfl), rfl⟩
theorem zm31 : Cond.classLink RX8 40 RX5 ∈ zw := List.mem_filter.mpr ⟨zt_2 _ (List.mem_of_getElem? (i := 9) rfl), rfl⟩
theorem zm32 : Cond.instantiable RX5 6 ∈ zw := List.mem_filter.mpr ⟨zt_2 _ (List.mem_of_getElem? (i := 10) rfl), rfl⟩
theorem zm33 : Cond.initialized RX5 ∈ zw := List.mem_filter.mpr ⟨zt_1 _ (List.mem_of_getElem? (i := 11) rfl), rfl⟩
theorem zm34 : Cond.fieldLink RX8 43 "PinballScorer" "script" "LPinballScorer$Script;" ∈ zw := List.mem_filter.mpr ⟨zt_2 _ (List.mem_of_getElem? (i := 48) rfl), rfl⟩
theorem zm35 : Cond.instanceMethod yX6_init ∈ zw := List.mem_filter.mpr ⟨zt_1 _ (List.mem_of_getElem? (i := 44) rfl), rfl⟩
theorem zm36 : Cond.code yX6_init cX6_init 1 none ∈ zw := List.mem_filter.mpr ⟨zt_1 _ (List.mem_of_getElem? (i := 45) rfl), rfl⟩
theorem zm37 : Cond.methodLink RX6 3 objectInit ∈ zw := List.mem_filter.mpr ⟨zt_1 _ (List.mem_of_getElem? (i := 46) rfl), rfl⟩
theorem zm38 : Cond.arrayClass .int ∈ zw := List.mem_filter.mpr ⟨zt_1 _ (List.mem_of_getElem? (i := 101) rfl), rfl⟩
theorem zm39 : Cond.fieldLink RX6 9 "PinballScorer$Table" "scores" "[I" ∈ zw := List.mem_filter.mpr ⟨zt_1 _ (List.mem_of_getElem? (i := 155) rfl), rfl⟩
theorem zm40 : Cond.fieldLink RX6 15 "PinballScorer$Table" "extraBalls" "[I" ∈ zw := List.mem_filter.mpr ⟨zt_1 _ (List.mem_of_getElem? (i := 157) rfl), rfl⟩
theorem zm41 : Cond.classLink RX6 18 RX1 ∈ zw := List.mem_filter.mpr ⟨zt_1 _ (List.mem_of_getElem? (i := 47) rfl), rfl⟩
theorem zm42 : Cond.fieldLink RX6 21 "PinballScorer$Table" "ball" "LPinballScorer$Ball;" ∈ zw := List.mem_filter.mpr ⟨zt_1 _ (List.mem_of_getElem? (i := 167) rfl), rfl⟩
theorem zm43 : Cond.classLink RX6 25 RX4 ∈ zw := List.mem_filter.mpr ⟨zt_1 _ (List.mem_of_getElem? (i := 103) rfl), rfl⟩
theorem zm44 : Cond.instantiable RX4 4 ∈ zw := List.mem_filter.mpr ⟨zt_1 _ (List.mem_of_getElem? (i := 104) rfl), rfl⟩
theorem zm45 : Cond.initialized RX4 ∈ zw := List.mem_filter.mpr ⟨zt_1 _ (List.mem_of_getElem? (i := 4) rfl), rfl⟩
theorem zm46 : Cond.fieldLink RX6 28 "PinballScorer$Table" "records" "LPinballScorer$Records;" ∈ zw := List.mem_filter.mpr ⟨zt_1 _ (List.mem_of_getElem? (i := 169) rfl), rfl⟩
theorem zm47 : Cond.classLink RX6 32 RX7 ∈ zw := List.mem_filter.mpr ⟨zt_1 _ (List.mem_of_getElem? (i := 126) rfl), rfl⟩
theorem zm48 : Cond.instantiable RX7 4 ∈ zw := List.mem_filter.mpr ⟨zt_1 _ (List.mem_of_getElem? (i := 127) rfl), rfl⟩
theorem zm49 : Cond.initialized RX7 ∈ zw := List.mem_filter.mpr ⟨zt_1 _ (List.mem_of_getElem? (i := 5) rfl), rfl⟩
theorem zm50 : Cond.fieldLink RX6 35 "PinballScorer$Table" "totals" "LPinballScorer$Totals;" ∈ zw := List.mem_filter.mpr ⟨zt_1 _ (List.mem_of_getElem? (i := 171) rfl), rfl⟩
theorem zm51 : Cond.instanceMethod yX1_init ∈ zw := List.mem_filter.mpr ⟨zt_1 _ (List.mem_of_getElem? (i := 50) rfl), rfl⟩
theorem zm52 : Cond.code yX1_init cX1_init 1 none ∈ zw := List.mem_filter.mpr ⟨zt_1 _ (List.mem_of_getElem? (i := 51) rfl), rfl⟩
theorem zm53 : Cond.methodLink RX1 3 objectInit ∈ zw := List.mem_filter.mpr ⟨zt_1 _ (List.mem_of_getElem? (i := 52) rfl), rfl⟩
theorem zm54 : Cond.fieldLink RX1 9 "PinballScorer$Ball" "multiplier" "I" ∈ zw := List.mem_filter.mpr ⟨zt_1 _ (List.mem_of_getElem? (i := 53) rfl), rfl⟩
theorem zm55 : Cond.arrayClass .boolean ∈ zw := List.mem_filter.mpr ⟨zt_1 _ (List.mem_of_getElem? (i := 102) rfl), rfl⟩
theorem zm56 : Cond.fieldLink RX1 15 "PinballScorer$Ball" "lit" "[Z" ∈ zw := List.mem_filter.mpr ⟨zt_1 _ (List.mem_of_getElem? (i := 55) rfl), rfl⟩
theorem zm57 : Cond.fieldLink RX1 19 "PinballScorer$Ball" "bumperValues" "[I" ∈ zw := List.mem_filter.mpr ⟨zt_1 _ (List.mem_of_getElem? (i := 57) rfl), rfl⟩
theorem zm58 : Cond.fieldLink RX1 23 "PinballScorer$Ball" "down" "[Z" ∈ zw := List.mem_filter.mpr ⟨zt_1 _ (List.mem_of_getElem? (i := 59) rfl), rfl⟩
theorem zm59 : Cond.instanceMethod yX4_init ∈ zw := List.mem_filter.mpr ⟨zt_1 _ (List.mem_of_getElem? (i := 106) rfl), rfl⟩
theorem zm60 : Cond.code yX4_init cX4_init 1 none ∈ zw := List.mem_filter.mpr ⟨zt_1 _ (List.mem_of_getElem? (i := 107) rfl), rfl⟩
theorem zm61 : Cond.methodLink RX4 3 objectInit ∈ zw := List.mem_filter.mpr ⟨zt_1 _ (List.mem_of_getElem? (i := 108) rfl), rfl⟩
theorem zm62 : Cond.fieldLink RX4 9 "PinballScorer$Records" "scores" "[I" ∈ zw := List.mem_filter.mpr ⟨zt_1 _ (List.mem_of_getElem? (i := 109) rfl), rfl⟩
theorem zm63 : Cond.fieldLink RX4 15 "PinballScorer$Records" "players" "[I" ∈ zw := List.mem_filter.mpr ⟨zt_1 _ (List.mem_of_getElem? (i := 111) rfl), rfl⟩
theorem zm64 : Cond.fieldLink RX4 18 "PinballScorer$Records" "games" "[I" ∈ zw := List.mem_filter.mpr ⟨zt_1 _ (List.mem_of_getElem? (i := 113) rfl), rfl⟩
theorem zm65 : Cond.instanceMethod yX7_init ∈ zw := List.mem_filter.mpr ⟨zt_1 _ (List.mem_of_getElem? (i := 129) rfl), rfl⟩
theorem zm66 : Cond.code yX7_init cX7_init 1 none ∈ zw := List.mem_filter.mpr ⟨zt_1 _ (List.mem_of_getElem? (i := 130) rfl), rfl⟩
theorem zm67 : Cond.methodLink RX7 3 objectInit ∈ zw := List.mem_filter.mpr ⟨zt_1 _ (List.mem_of_getElem? (i := 131) rfl), rfl⟩
theorem zm68 : Cond.fieldLink RX7 9 "PinballScorer$Totals" "points" "[I" ∈ zw := List.mem_filter.mpr ⟨zt_1 _ (List.mem_of_getElem? (i := 132) rfl), rfl⟩
theorem zm69 : Cond.methodLink RX8 18 yX3_init ∈ zw := List.mem_filter.mpr ⟨zt_1 _ (List.mem_of_getElem? (i := 196) rfl), rfl⟩
theorem zm70 : Cond.instanceMethod yX3_init ∈ zw := List.mem_filter.mpr ⟨zt_1 _ (List.mem_of_getElem? (i := 197) rfl), rfl⟩
theorem zm71 : Cond.code yX3_init cX3_init 2 none ∈ zw := List.mem_filter.mpr ⟨zt_1 _ (List.mem_of_getElem? (i := 198) rfl), rfl⟩
theorem zm72 : Cond.methodLink RX3 3 objectInit ∈ zw := List.mem_filter.mpr ⟨zt_1 _ (List.mem_of_getElem? (i := 199) rfl), rfl⟩
theorem zm73 : Cond.classLink RX3 11 RX6 ∈ zw := List.mem_filter.mpr ⟨zt_1 _ (List.mem_of_getElem? (i := 200) rfl), rfl⟩
theorem zm74 : Cond.fieldLink RX3 13 "PinballScorer$History" "slots" "[LPinballScorer$Table;" ∈ zw := List.mem_filter.mpr ⟨zt_1 _ (List.mem_of_getElem? (i := 203) rfl), rfl⟩
theorem zm75 : Cond.methodLink RX8 35 yJ4_init_da8c8 ∈ zw := List.mem_filter.mpr ⟨zt_1 _ (List.mem_of_getElem? (i := 218) rfl), rfl⟩
theorem zm76 : Cond.instanceMethod yJ4_init_da8c8 ∈ zw := List.mem_filter.mpr ⟨zt_1 _ (List.mem_of_getElem? (i := 219) rfl), rfl⟩
theorem zm77 : Cond.code yJ4_init_da8c8 cJ4_init_da8c8 1 none ∈ zw := List.mem_filter.mpr ⟨zt_1 _ (List.mem_of_getElem? (i := 220) rfl), rfl⟩
theorem zm78 : Cond.methodLink RJ4 1 yJ5_init_d00df ∈ zw := List.mem_filter.mpr ⟨zt_1 _ (List.mem_of_getElem? (i := 221) rfl), rfl⟩
theorem zm79 : Cond.instanceMethod yJ5_init_d00df ∈ zw := List.mem_filter.mpr ⟨zt_1 _ (List.mem_of_getElem? (i := 222) rfl), rfl⟩
theorem zm80 : Cond.initialized RJ5 ∈ zw := List.mem_filter.mpr ⟨zt_1 _ (List.mem_of_getElem? (i := 7) rfl), rfl⟩
theorem zm81 : Cond.code yJ5_init_d00df cJ5_init_d00df 2 none ∈ zw := List.mem_filter.mpr ⟨zt_1 _ (List.mem_of_getElem? (i := 223) rfl), rfl⟩
theorem zm82 : Cond.methodLink RJ5 3 objectInit ∈ zw := List.mem_filter.mpr ⟨zt_1 _ (List.mem_of_getElem? (i := 224) rfl), rfl⟩
theorem zm83 : Cond.fieldLink RJ5 18 "java/lang/String" "COMPACT_STRINGS" "Z" ∈ zw := List.mem_filter.mpr ⟨zt_1 _ (List.mem_of_getElem? (i := 225) rfl), rfl⟩
theorem zm84 : Cond.arrayClass .byte ∈ zw := List.mem_filter.mpr ⟨zt_2 _ (List.mem_of_getElem? (i := 8) rfl), rfl⟩
theorem zm85 : Cond.fieldLink RJ5 15 "java/lang/AbstractStringBuilder" "value" "[B" ∈ zw := List.mem_filter.mpr ⟨zt_1 _ (List.mem_of_getElem? (i := 234) rfl), rfl⟩
theorem zm86 : Cond.fieldLink RJ5 22 "java/lang/AbstractStringBuilder" "coder" "B" ∈ zw := List.mem_filter.mpr ⟨zt_1 _ (List.mem_of_getElem? (i := 235) rfl), rfl⟩
theorem zm87 : Cond.methodLink RJ5 26 yJ2_newBytesFor_77867 ∈ zw := List.mem_filter.mpr ⟨zt_1 _ (List.mem_of_getElem? (i := 227) rfl), rfl⟩
theorem zm88 : Cond.static yJ2_newBytesFor_77867 ∈ zw := List.mem_filter.mpr ⟨zt_1 _ (List.mem_of_getElem? (i := 228) rfl), rfl⟩
theorem zm89 : Cond.initialized RJ2 ∈ zw := List.mem_filter.mpr ⟨zt_1 _ (List.mem_of_getElem? (i := 10) rfl), rfl⟩
theorem zm90 : Cond.code yJ2_newBytesFor_77867 cJ2_newBytesFor_77867 1 (some (.array .byte)) ∈ zw := List.mem_filter.mpr ⟨zt_1 _ (List.mem_of_getElem? (i := 229) rfl), rfl⟩
theorem zm91 : Cond.methodLink RJ2 11 yJ2_newBytesLength_0f7a4 ∈ zw := List.mem_filter.mpr ⟨zt_1 _ (List.mem_of_getElem? (i := 230) rfl), rfl⟩
theorem zm92 : Cond.static yJ2_newBytesLength_0f7a4 ∈ zw := List.mem_filter.mpr ⟨zt_1 _ (List.mem_of_getElem? (i := 231) rfl), rfl⟩
theorem zm93 : Cond.code yJ2_newBytesLength_0f7a4 cJ2_newBytesLength_0f7a4 1 (some .int) ∈ zw := List.mem_filter.mpr ⟨zt_1 _ (List.mem_of_getElem? (i := 232) rfl), rfl⟩
theorem zm94 : Cond.constant RJ2 20 (1073741823) ∈ zw := List.mem_filter.mpr ⟨zt_1 _ (List.mem_of_getElem? (i := 233) rfl), rfl⟩
theorem zm95 : Cond.instanceMethod yX5_init ∈ zw := List.mem_filter.mpr ⟨zt_2 _ (List.mem_of_getElem? (i := 12) rfl), rfl⟩
theorem zm96 : Cond.code yX5_init cX5_init 1 none ∈ zw := List.mem_filter.mpr ⟨zt_2 _ (List.mem_of_getElem? (i := 13) rfl), rfl⟩
theorem zm97 : Cond.methodLink RX5 3 objectInit ∈ zw := List.mem_filter.mpr ⟨zt_2 _ (List.mem_of_getElem? (i := 14) rfl), rfl⟩
theorem zm98 : Cond.arrayClass .char ∈ zw := List.mem_filter.mpr ⟨zt_2 _ (List.mem_of_getElem? (i := 41) rfl), rfl⟩
theorem zm99 : Cond.fieldLink RX5 9 "PinballScorer$Script" "text" "[C" ∈ zw := List.mem_filter.mpr ⟨zt_2 _ (List.mem_of_getElem? (i := 17) rfl), rfl⟩
theorem zm100 : Cond.classLink RX5 15 RX2 ∈ zw := List.mem_filter.mpr ⟨zt_2 _ (List.mem_of_getElem? (i := 15) rfl), rfl⟩
theorem zm101 : Cond.fieldLink RX5 17 "PinballScorer$Script" "commands" "[LPinballScorer$Command;" ∈ zw := List.mem_filter.mpr ⟨zt_2 _ (List.mem_of_getElem? (i := 22) rfl), rfl⟩
theorem zm102 : Cond.fieldLink RX5 21 "PinballScorer$Script" "digits" "[I" ∈ zw := List.mem_filter.mpr ⟨zt_2 _ (List.mem_of_getElem? (i := 24) rfl), rfl⟩
theorem zm103 : Cond.methodLink RL 163 yX9_init ∈ zw := List.mem_filter.mpr ⟨zt_7 _ (List.mem_of_getElem? (i := 59) rfl), rfl⟩
theorem zm104 : Cond.instanceMethod yX9_init ∈ zw := List.mem_filter.mpr ⟨zt_7 _ (List.mem_of_getElem? (i := 60) rfl), rfl⟩
theorem zm105 : Cond.code yX9_init cX9_init 1 none ∈ zw := List.mem_filter.mpr ⟨zt_7 _ (List.mem_of_getElem? (i := 61) rfl), rfl⟩
theorem zm106 : Cond.methodLink RX9 1 objectInit ∈ zw := List.mem_filter.mpr ⟨zt_7 _ (List.mem_of_getElem? (i := 62) rfl), rfl⟩
theorem zm107 : Cond.fieldLink RX9 7 "PinballScorerModel" "now" "[I" ∈ zw := List.mem_filter.mpr ⟨zt_7 _ (List.mem_of_getElem? (i := 63) rfl), rfl⟩
theorem zm108 : Cond.fieldLink RX9 13 "PinballScorerModel" "before" "[I" ∈ zw := List.mem_filter.mpr ⟨zt_7 _ (List.mem_of_getElem? (i := 64) rfl), rfl⟩
theorem zm109 : Cond.fieldLink RX9 16 "PinballScorerModel" "aside" "[I" ∈ zw := List.mem_filter.mpr ⟨zt_7 _ (List.mem_of_getElem? (i := 65) rfl), rfl⟩
theorem zm110 : Cond.fieldLink RX9 19 "PinballScorerModel" "saved" "[I" ∈ zw := List.mem_filter.mpr ⟨zt_7 _ (List.mem_of_getElem? (i := 66) rfl), rfl⟩
theorem zm111 : Cond.fieldLink RX9 22 "PinballScorerModel" "history" "[I" ∈ zw := List.mem_filter.mpr ⟨zt_7 _ (List.mem_of_getElem? (i := 67) rfl), rfl⟩
theorem zm112 : Cond.fieldLink RX9 25 "PinballScorerModel" "thrown" "I" ∈ zw := List.mem_filter.mpr ⟨zt_7 _ (List.mem_of_getElem? (i := 68) rfl), rfl⟩
theorem zm113 : Cond.fieldLink RX9 29 "PinballScorerModel" "depth" "I" ∈ zw := List.mem_filter.mpr ⟨zt_7 _ (List.mem_of_getElem? (i := 69) rfl), rfl⟩
theorem zm114 : Cond.fieldLink RX9 32 "PinballScorerModel" "wrongAt" "I" ∈ zw := List.mem_filter.mpr ⟨zt_7 _ (List.mem_of_getElem? (i := 70) rfl), rfl⟩
theorem zm115 : Cond.fieldLink RX9 35 "PinballScorerModel" "failedAt" "I" ∈ zw := List.mem_filter.mpr ⟨zt_7 _ (List.mem_of_getElem? (i := 71) rfl), rfl⟩
theorem zm116 : Cond.fieldLink RX9 38 "PinballScorerModel" "isSaved" "Z" ∈ zw := List.mem_filter.mpr ⟨zt_7 _ (List.mem_of_getElem? (i := 72) rfl), rfl⟩
theorem zm117 : Cond.fieldLink RX9 42 "PinballScorerModel" "output" "[I" ∈ zw := List.mem_filter.mpr ⟨zt_7 _ (List.mem_of_getElem? (i := 73) rfl), rfl⟩
theorem zm118 : Cond.fieldLink RX9 45 "PinballScorerModel" "outputLength" "I" ∈ zw := List.mem_filter.mpr ⟨zt_7 _ (List.mem_of_getElem? (i := 74) rfl), rfl⟩
theorem zm119 : Cond.fieldLink RX9 48 "PinballScorerModel" "input" "[I" ∈ zw := List.mem_filter.mpr ⟨zt_7 _ (List.mem_of_getElem? (i := 75) rfl), rfl⟩
theorem zm120 : Cond.fieldLink RX9 51 "PinballScorerModel" "kinds" "[I" ∈ zw := List.mem_filter.mpr ⟨zt_7 _ (List.mem_of_getElem? (i := 76) rfl), rfl⟩
theorem zm121 : Cond.fieldLink RX9 54 "PinballScorerModel" "numbers" "[I" ∈ zw := List.mem_filter.mpr ⟨zt_7 _ (List.mem_of_getElem? (i := 77) rfl), rfl⟩
theorem zm122 : Cond.fieldLink RX9 57 "PinballScorerModel" "length" "I" ∈ zw := List.mem_filter.mpr ⟨zt_7 _ (List.mem_of_getElem? (i := 78) rfl), rfl⟩
theorem zm123 : Cond.fieldLink RX9 60 "PinballScorerModel" "scriptLength" "I" ∈ zw := List.mem_filter.mpr ⟨zt_7 _ (List.mem_of_getElem? (i := 79) rfl), rfl⟩
theorem zm124 : Cond.fieldLink RX9 63 "PinballScorerModel" "at" "I" ∈ zw := List.mem_filter.mpr ⟨zt_7 _ (List.mem_of_getElem? (i := 80) rfl), rfl⟩
theorem zm125 : Cond.fieldLink RX9 66 "PinballScorerModel" "commands" "I" ∈ zw := List.mem_filter.mpr ⟨zt_7 _ (List.mem_of_getElem? (i := 81) rfl), rfl⟩
theorem zm126 : Cond.fieldLink RX9 69 "PinballScorerModel" "isWrong" "Z" ∈ zw := List.mem_filter.mpr ⟨zt_7 _ (List.mem_of_getElem? (i := 82) rfl), rfl⟩
theorem zm127 : Cond.methodLink RL 164 yL_addPlayer ∈ zw := List.mem_filter.mpr ⟨zt_4 _ (List.mem_of_getElem? (i := 86) rfl), rfl⟩
theorem zm128 : Cond.static yL_addPlayer ∈ zw := List.mem_filter.mpr ⟨zt_4 _ (List.mem_of_getElem? (i := 87) rfl), rfl⟩
theorem zm129 : Cond.initialized RL ∈ zw := List.mem_filter.mpr ⟨zt_1 _ (List.mem_of_getElem? (i := 0) rfl), rfl⟩
theorem zm130 : Cond.codeWith yL_addPlayer cL_addPlayer 3 (some .int) [(0, 8, 11, 13)] ∈ zw := List.mem_filter.mpr ⟨zt_4 _ (List.mem_of_getElem? (i := 88) rfl), rfl⟩
theorem zm131 : Cond.classLink RL 13 "java/lang/IllegalStateException" ∈ zw := List.mem_filter.mpr ⟨zt_4 _ (List.mem_of_getElem? (i := 89) rfl), rfl⟩
theorem zm132 : Cond.methodLink RL 7 yX8_addPlayer ∈ zw := List.mem_filter.mpr ⟨zt_4 _ (List.mem_of_getElem? (i := 90) rfl), rfl⟩
theorem zm133 : Cond.instanceMethod yX8_addPlayer ∈ zw := List.mem_filter.mpr ⟨zt_4 _ (List.mem_of_getElem? (i := 91) rfl), rfl⟩
theorem zm134 : Cond.selects RX8 yX8_addPlayer yX8_addPlayer ∈ zw := List.mem_filter.mpr ⟨zt_4 _ (List.mem_of_getElem? (i := 92) rfl), rfl⟩
theorem zm135 : Cond.code yX8_addPlayer cX8_addPlayer 1 (some .int) ∈ zw := List.mem_filter.mpr ⟨zt_4 _ (List.mem_of_getElem? (i := 93) rfl), rfl⟩
theorem zm136 : Cond.classLink RX8 51 "java/lang/IllegalStateException" ∈ zw := List.mem_filter.mpr ⟨zt_4 _ (List.mem_of_getElem? (i := 98) rfl), rfl⟩
theorem zm137 : Cond.initialized "java/lang/IllegalStateException" ∈ zw := List.mem_filter.mpr ⟨zt_1 _ (List.mem_of_getElem? (i := 16) rfl), rfl⟩
theorem zm138 : Cond.methodLink RX8 47 yX6_canAdmit ∈ zw := List.mem_filter.mpr ⟨zt_4 _ (List.mem_of_getElem? (i := 94) rfl), rfl⟩
theorem zm139 : Cond.instanceMethod yX6_canAdmit ∈ zw := List.mem_filter.mpr ⟨zt_4 _ (List.mem_of_getElem? (i := 95) rfl), rfl⟩
theorem zm140 : Cond.selects RX6 yX6_canAdmit yX6_canAdmit ∈ zw := List.mem_filter.mpr ⟨zt_4 _ (List.mem_of_getElem? (i := 96) rfl), rfl⟩
theorem zm141 : Cond.code yX6_canAdmit cX6_canAdmit 1 (some .boolean) ∈ zw := List.mem_filter.mpr ⟨zt_4 _ (List.mem_of_getElem? (i := 97) rfl), rfl⟩
theorem zm142 : Cond.fieldLink RX6 49 "PinballScorer$Table" "running" "Z" ∈ zw := List.mem_filter.mpr ⟨zt_1 _ (List.mem_of_getElem? (i := 159) rfl), rfl⟩
theorem zm143 : Cond.fieldLink RX6 39 "PinballScorer$Table" "playerCount" "I" ∈ zw := List.mem_filter.mpr ⟨zt_1 _ (List.mem_of_getElem? (i := 153) rfl), rfl⟩
theorem zm144 : Cond.methodLink RX8 58 yX3_remember ∈ zw := List.mem_filter.mpr ⟨zt_4 _ (List.mem_of_getElem? (i := 114) rfl), rfl⟩
theorem zm145 : Cond.instanceMethod yX3_remember ∈ zw := List.mem_filter.mpr ⟨zt_4 _ (List.mem_of_getElem? (i := 115) rfl), rfl⟩
theorem zm146 : Cond.selects RX3 yX3_remember yX3_remember ∈ zw := List.mem_filter.mpr ⟨zt_4 _ (List.mem_of_getElem? (i := 116) rfl), rfl⟩
theorem zm147 : Cond.code yX3_remember cX3_remember 2 none ∈ zw := List.mem_filter.mpr ⟨zt_4 _ (List.mem_of_getElem? (i := 117) rfl), rfl⟩
theorem zm148 : Cond.methodLink RX3 35 yX3_hold ∈ zw := List.mem_filter.mpr ⟨zt_4 _ (List.mem_of_getElem? (i := 118) rfl), rfl⟩
theorem zm149 : Cond.instanceMethod yX3_hold ∈ zw := List.mem_filter.mpr ⟨zt_4 _ (List.mem_of_getElem? (i := 119) rfl), rfl⟩
theorem zm150 : Cond.selects RX3 yX3_hold yX3_hold ∈ zw := List.mem_filter.mpr ⟨zt_4 _ (List.mem_of_getElem? (i := 120) rfl), rfl⟩
theorem zm151 : Cond.code yX3_hold cX3_hold 2 none ∈ zw := List.mem_filter.mpr ⟨zt_4 _ (List.mem_of_getElem? (i := 121) rfl), rfl⟩
theorem zm152 : Cond.fieldLink RX3 18 "PinballScorer$History" "free" "I" ∈ zw := List.mem_filter.mpr ⟨zt_1 _ (List.mem_of_getElem? (i := 204) rfl), rfl⟩
theorem zm153 : Cond.methodLink RX3 22 yX6_copyFrom ∈ zw := List.mem_filter.mpr ⟨zt_4 _ (List.mem_of_getElem? (i := 122) rfl), rfl⟩
theorem zm154 : Cond.instanceMethod yX6_copyFrom ∈ zw := List.mem_filter.mpr ⟨zt_4 _ (List.mem_of_getElem? (i := 71) rfl), rfl⟩
theorem zm155 : Cond.selects RX6 yX6_copyFrom yX6_copyFrom ∈ zw := List.mem_filter.mpr ⟨zt_4 _ (List.mem_of_getElem? (i := 72) rfl), rfl⟩
theorem zm156 : Cond.code yX6_copyFrom cX6_copyFrom 2 none ∈ zw := List.mem_filter.mpr ⟨zt_4 _ (List.mem_of_getElem? (i := 73) rfl), rfl⟩
theorem zm157 : Cond.methodLink RX6 43 arraycopyName ∈ zw := List.mem_filter.mpr ⟨zt_4 _ (List.mem_of_getElem? (i := 74) rfl), rfl⟩
theorem zm158 : Cond.native arraycopyName ∈ zw := List.mem_filter.mpr ⟨zt_2 _ (List.mem_of_getElem? (i := 125) rfl), rfl⟩
theorem zm159 : Cond.static arraycopyName ∈ zw := List.mem_filter.mpr ⟨zt_2 _ (List.mem_of_getElem? (i := 124) rfl), rfl⟩
theorem zm160 : Cond.initialized "java/lang/System" ∈ zw := List.mem_filter.mpr ⟨zt_1 _ (List.mem_of_getElem? (i := 17) rfl), rfl⟩
theorem zm161 : Cond.fieldLink RX6 53 "PinballScorer$Table" "gameCount" "I" ∈ zw := List.mem_filter.mpr ⟨zt_1 _ (List.mem_of_getElem? (i := 161) rfl), rfl⟩
theorem zm162 : Cond.fieldLink RX6 56 "PinballScorer$Table" "currentPlayer" "I" ∈ zw := List.mem_filter.mpr ⟨zt_1 _ (List.mem_of_getElem? (i := 163) rfl), rfl⟩
theorem zm163 : Cond.fieldLink RX6 59 "PinballScorer$Table" "ballNumber" "I" ∈ zw := List.mem_filter.mpr ⟨zt_1 _ (List.mem_of_getElem? (i := 165) rfl), rfl⟩
theorem zm164 : Cond.methodLink RX6 62 yX1_copyFrom ∈ zw := List.mem_filter.mpr ⟨zt_4 _ (List.mem_of_getElem? (i := 75) rfl), rfl⟩
theorem zm165 : Cond.instanceMethod yX1_copyFrom ∈ zw := List.mem_filter.mpr ⟨zt_2 _ (List.mem_of_getElem? (i := 117) rfl), rfl⟩
theorem zm166 : Cond.selects RX1 yX1_copyFrom yX1_copyFrom ∈ zw := List.mem_filter.mpr ⟨zt_2 _ (List.mem_of_getElem? (i := 118) rfl), rfl⟩
theorem zm167 : Cond.code yX1_copyFrom cX1_copyFrom 2 none ∈ zw := List.mem_filter.mpr ⟨zt_2 _ (List.mem_of_getElem? (i := 119) rfl), rfl⟩
theorem zm168 : Cond.methodLink RX1 56 arraycopyName ∈ zw := List.mem_filter.mpr ⟨zt_2 _ (List.mem_of_getElem? (i := 123) rfl), rfl⟩
theorem zm169 : Cond.fieldLink RX1 30 "PinballScorer$Ball" "completedBanks" "I" ∈ zw := List.mem_filter.mpr ⟨zt_1 _ (List.mem_of_getElem? (i := 61) rfl), rfl⟩
theorem zm170 : Cond.fieldLink RX1 33 "PinballScorer$Ball" "bonusUnits" "I" ∈ zw := List.mem_filter.mpr ⟨zt_1 _ (List.mem_of_getElem? (i := 64) rfl), rfl⟩
theorem zm171 : Cond.fieldLink RX1 36 "PinballScorer$Ball" "tiltMeter" "I" ∈ zw := List.mem_filter.mpr ⟨zt_1 _ (List.mem_of_getElem? (i := 66) rfl), rfl⟩
theorem zm172 : Cond.fieldLink RX1 39 "PinballScorer$Ball" "warnings" "I" ∈ zw := List.mem_filter.mpr ⟨zt_1 _ (List.mem_of_getElem? (i := 68) rfl), rfl⟩
theorem zm173 : Cond.fieldLink RX1 42 "PinballScorer$Ball" "hits" "I" ∈ zw := List.mem_filter.mpr ⟨zt_1 _ (List.mem_of_getElem? (i := 71) rfl), rfl⟩
theorem zm174 : Cond.fieldLink RX1 45 "PinballScorer$Ball" "tilted" "Z" ∈ zw := List.mem_filter.mpr ⟨zt_1 _ (List.mem_of_getElem? (i := 73) rfl), rfl⟩
theorem zm175 : Cond.fieldLink RX1 49 "PinballScorer$Ball" "saved" "Z" ∈ zw := List.mem_filter.mpr ⟨zt_1 _ (List.mem_of_getElem? (i := 76) rfl), rfl⟩
theorem zm176 : Cond.static yX8_copyAll ∈ zw := List.mem_filter.mpr ⟨zt_2 _ (List.mem_of_getElem? (i := 121) rfl), rfl⟩
theorem zm177 : Cond.code yX8_copyAll cX8_copyAll 3 none ∈ zw := List.mem_filter.mpr ⟨zt_2 _ (List.mem_of_getElem? (i := 122) rfl), rfl⟩
theorem zm178 : Cond.methodLink RX6 66 yX4_copyFrom ∈ zw := List.mem_filter.mpr ⟨zt_4 _ (List.mem_of_getElem? (i := 76) rfl), rfl⟩
theorem zm179 : Cond.instanceMethod yX4_copyFrom ∈ zw := List.mem_filter.mpr ⟨zt_4 _ (List.mem_of_getElem? (i := 77) rfl), rfl⟩
theorem zm180 : Cond.selects RX4 yX4_copyFrom yX4_copyFrom ∈ zw := List.mem_filter.mpr ⟨zt_4 _ (List.mem_of_getElem? (i := 78) rfl), rfl⟩
theorem zm181 : Cond.code yX4_copyFrom cX4_copyFrom 2 none ∈ zw := List.mem_filter.mpr ⟨zt_4 _ (List.mem_of_getElem? (i := 79) rfl), rfl⟩
theorem zm182 : Cond.methodLink RX4 21 arraycopyName ∈ zw := List.mem_filter.mpr ⟨zt_4 _ (List.mem_of_getElem? (i := 80) rfl), rfl⟩
theorem zm183 : Cond.fieldLink RX4 27 "PinballScorer$Records" "count" "I" ∈ zw := List.mem_filter.mpr ⟨zt_1 _ (List.mem_of_getElem? (i := 115) rfl), rfl⟩
theorem zm184 : Cond.methodLink RX6 69 yX7_copyFrom ∈ zw := List.mem_filter.mpr ⟨zt_4 _ (List.mem_of_getElem? (i := 81) rfl), rfl⟩
theorem zm185 : Cond.instanceMethod yX7_copyFrom ∈ zw := List.mem_filter.mpr ⟨zt_4 _ (List.mem_of_getElem? (i := 82) rfl), rfl⟩
theorem zm186 : Cond.selects RX7 yX7_copyFrom yX7_copyFrom ∈ zw := List.mem_filter.mpr ⟨zt_4 _ (List.mem_of_getElem? (i := 83) rfl), rfl⟩
theorem zm187 : Cond.code yX7_copyFrom cX7_copyFrom 2 none ∈ zw := List.mem_filter.mpr ⟨zt_4 _ (List.mem_of_getElem? (i := 84) rfl), rfl⟩
theorem zm188 : Cond.methodLink RX7 15 arraycopyName ∈ zw := List.mem_filter.mpr ⟨zt_4 _ (List.mem_of_getElem? (i := 85) rfl), rfl⟩
theorem zm189 : Cond.fieldLink RX7 21 "PinballScorer$Totals" "allPoints" "I" ∈ zw := List.mem_filter.mpr ⟨zt_1 _ (List.mem_of_getElem? (i := 135) rfl), rfl⟩
theorem zm190 : Cond.fieldLink RX7 25 "PinballScorer$Totals" "drainedBalls" "I" ∈ zw := List.mem_filter.mpr ⟨zt_1 _ (List.mem_of_getElem? (i := 138) rfl), rfl⟩
theorem zm191 : Cond.fieldLink RX7 28 "PinballScorer$Totals" "tiltedBalls" "I" ∈ zw := List.mem_filter.mpr ⟨zt_1 _ (List.mem_of_getElem? (i := 141) rfl), rfl⟩
theorem zm192 : Cond.methodLink RX3 38 yX3_keepHeld ∈ zw := List.mem_filter.mpr ⟨zt_4 _ (List.mem_of_getElem? (i := 123) rfl), rfl⟩
theorem zm193 : Cond.instanceMethod yX3_keepHeld ∈ zw := List.mem_filter.mpr ⟨zt_4 _ (List.mem_of_getElem? (i := 124) rfl), rfl⟩
theorem zm194 : Cond.selects RX3 yX3_keepHeld yX3_keepHeld ∈ zw := List.mem_filter.mpr ⟨zt_4 _ (List.mem_of_getElem? (i := 125) rfl), rfl⟩
theorem zm195 : Cond.code yX3_keepHeld cX3_keepHeld 1 none ∈ zw := List.mem_filter.mpr ⟨zt_4 _ (List.mem_of_getElem? (i := 126) rfl), rfl⟩
theorem zm196 : Cond.fieldLink RX3 26 "PinballScorer$History" "count" "I" ∈ zw := List.mem_filter.mpr ⟨zt_1 _ (List.mem_of_getElem? (i := 205) rfl), rfl⟩
theorem zm197 : Cond.methodLink RX3 29 Lib.Math.min.name ∈ zw := List.mem_filter.mpr ⟨zt_4 _ (List.mem_of_getElem? (i := 127) rfl), rfl⟩
theorem zm198 : Cond.static Lib.Math.min.name ∈ zw := List.mem_filter.mpr ⟨zt_2 _ (List.mem_of_getElem? (i := 144) rfl), rfl⟩
theorem zm199 : Cond.initialized "java/lang/Math" ∈ zw := List.mem_filter.mpr ⟨zt_1 _ (List.mem_of_getElem? (i := 18) rfl), rfl⟩
theorem zm200 : Cond.code Lib.Math.min.name Lib.Math.min.code 2 (some .int) ∈ zw := List.mem_filter.mpr ⟨zt_2 _ (List.mem_of_getElem? (i := 145) rfl), rfl⟩
theorem zm201 : Cond.methodLink RX8 62 yX6_admit ∈ zw := List.mem_filter.mpr ⟨zt_4 _ (List.mem_of_getElem? (i := 128) rfl), rfl⟩
theorem zm202 : Cond.instanceMethod yX6_admit ∈ zw := List.mem_filter.mpr ⟨zt_4 _ (List.mem_of_getElem? (i := 129) rfl), rfl⟩
theorem zm203 : Cond.selects RX6 yX6_admit yX6_admit ∈ zw := List.mem_filter.mpr ⟨zt_4 _ (List.mem_of_getElem? (i := 130) rfl), rfl⟩
theorem zm204 : Cond.code yX6_admit cX6_admit 2 (some .int) ∈ zw := List.mem_filter.mpr ⟨zt_4 _ (List.mem_of_getElem? (i := 131) rfl), rfl⟩
theorem zm205 : Cond.methodLink RL 169 yX9_addPlayer ∈ zw := List.mem_filter.mpr ⟨zt_7 _ (List.mem_of_getElem? (i := 128) rfl), rfl⟩
theorem zm206 : Cond.instanceMethod yX9_addPlayer ∈ zw := List.mem_filter.mpr ⟨zt_7 _ (List.mem_of_getElem? (i := 129) rfl), rfl⟩
theorem zm207 : Cond.selects RX9 yX9_addPlayer yX9_addPlayer ∈ zw := List.mem_filter.mpr ⟨zt_7 _ (List.mem_of_getElem? (i := 130) rfl), rfl⟩
theorem zm208 : Cond.code yX9_addPlayer cX9_addPlayer 1 (some .int) ∈ zw := List.mem_filter.mpr ⟨zt_7 _ (List.mem_of_getElem? (i := 131) rfl), rfl⟩
theorem zm209 : Cond.methodLink RX9 80 yX9_begin ∈ zw := List.mem_filter.mpr ⟨zt_7 _ (List.mem_of_getElem? (i := 132) rfl), rfl⟩
theorem zm210 : Cond.instanceMethod yX9_begin ∈ zw := List.mem_filter.mpr ⟨zt_7 _ (List.mem_of_getElem? (i := 134) rfl), rfl⟩
theorem zm211 : Cond.selects RX9 yX9_begin yX9_begin ∈ zw := List.mem_filter.mpr ⟨zp_2 (⟨"PinballScorerModel", "begin", "()V"⟩, 20) (List.mem_of_getElem? (i := 8) rfl), rfl⟩
theorem zm212 : Cond.code yX9_begin cX9_begin 1 none ∈ zw := List.mem_filter.mpr ⟨zt_7 _ (List.mem_of_getElem? (i := 135) rfl), rfl⟩
theorem zm213 : Cond.methodLink RX9 72 yX9_copy ∈ zw := List.mem_filter.mpr ⟨zt_7 _ (List.mem_of_getElem? (i := 136) rfl), rfl⟩
theorem zm214 : Cond.static yX9_copy ∈ zw := List.mem_filter.mpr ⟨zt_7 _ (List.mem_of_getElem? (i := 137) rfl), rfl⟩
theorem zm215 : Cond.code yX9_copy cX9_copy 5 none ∈ zw := List.mem_filter.mpr ⟨zt_7 _ (List.mem_of_getElem? (i := 138) rfl), rfl⟩
theorem zm216 : Cond.methodLink RX9 83 yX9_cannotAdd ∈ zw := List.mem_filter.mpr ⟨zt_7 _ (List.mem_of_getElem? (i := 139) rfl), rfl⟩
theorem zm217 : Cond.instanceMethod yX9_cannotAdd ∈ zw := List.mem_filter.mpr ⟨zt_7 _ (List.mem_of_getElem? (i := 141) rfl), rfl⟩
theorem zm218 : Cond.selects RX9 yX9_cannotAdd yX9_cannotAdd ∈ zw := List.mem_filter.mpr ⟨zp_2 (⟨"PinballScorerModel", "cannotAdd", "()I"⟩, 20) (List.mem_of_getElem? (i := 9) rfl), rfl⟩
theorem zm219 : Cond.code yX9_cannotAdd cX9_cannotAdd 1 (some .int) ∈ zw := List.mem_filter.mpr ⟨zt_7 _ (List.mem_of_getElem? (i := 142) rfl), rfl⟩
theorem zm220 : Cond.methodLink RX9 76 yX9_runs ∈ zw := List.mem_filter.mpr ⟨zt_7 _ (List.mem_of_getElem? (i := 143) rfl), rfl⟩
theorem zm221 : Cond.instanceMethod yX9_runs ∈ zw := List.mem_filter.mpr ⟨zt_7 _ (List.mem_of_getElem? (i := 145) rfl), rfl⟩
theorem zm222 : Cond.selects RX9 yX9_runs yX9_runs ∈ zw := List.mem_filter.mpr ⟨zp_2 (⟨"PinballScorerModel", "runs", "()Z"⟩, 20) (List.mem_of_getElem? (i := 10) rfl), rfl⟩
theorem zm223 : Cond.code yX9_runs cX9_runs 1 (some .boolean) ∈ zw := List.mem_filter.mpr ⟨zt_7 _ (List.mem_of_getElem? (i := 146) rfl), rfl⟩
theorem zm224 : Cond.methodLink RX9 87 yX9_fail ∈ zw := List.mem_filter.mpr ⟨zt_7 _ (List.mem_of_getElem? (i := 147) rfl), rfl⟩
theorem zm225 : Cond.instanceMethod yX9_fail ∈ zw := List.mem_filter.mpr ⟨zt_7 _ (List.mem_of_getElem? (i := 149) rfl), rfl⟩
theorem zm226 : Cond.selects RX9 yX9_fail yX9_fail ∈ zw := List.mem_filter.mpr ⟨zp_2 (⟨"PinballScorerModel", "fail", "(I)I"⟩, 20) (List.mem_of_getElem? (i := 11) rfl), rfl⟩
theorem zm227 : Cond.code yX9_fail cX9_fail 2 (some .int) ∈ zw := List.mem_filter.mpr ⟨zt_7 _ (List.mem_of_getElem? (i := 150) rfl), rfl⟩
theorem zm228 : Cond.methodLink RX9 91 yX9_adds ∈ zw := List.mem_filter.mpr ⟨zt_7 _ (List.mem_of_getElem? (i := 151) rfl), rfl⟩
theorem zm229 : Cond.instanceMethod yX9_adds ∈ zw := List.mem_filter.mpr ⟨zt_7 _ (List.mem_of_getElem? (i := 153) rfl), rfl⟩
theorem zm230 : Cond.selects RX9 yX9_adds yX9_adds ∈ zw := List.mem_filter.mpr ⟨zp_2 (⟨"PinballScorerModel", "adds", "()I"⟩, 20) (List.mem_of_getElem? (i := 12) rfl), rfl⟩
theorem zm231 : Cond.code yX9_adds cX9_adds 2 (some .int) ∈ zw := List.mem_filter.mpr ⟨zt_7 _ (List.mem_of_getElem? (i := 154) rfl), rfl⟩
theorem zm232 : Cond.methodLink RX9 94 yX9_commit ∈ zw := List.mem_filter.mpr ⟨zt_7 _ (List.mem_of_getElem? (i := 155) rfl), rfl⟩
theorem zm233 : Cond.instanceMethod yX9_commit ∈ zw := List.mem_filter.mpr ⟨zt_7 _ (List.mem_of_getElem? (i := 157) rfl), rfl⟩
theorem zm234 : Cond.selects RX9 yX9_commit yX9_commit ∈ zw := List.mem_filter.mpr ⟨zp_2 (⟨"PinballScorerModel", "commit", "(I)I"⟩, 20) (List.mem_of_getElem? (i := 13) rfl), rfl⟩
theorem zm235 : Cond.code yX9_commit cX9_commit 3 (some .int) ∈ zw := List.mem_filter.mpr ⟨zt_7 _ (List.mem_of_getElem? (i := 158) rfl), rfl⟩
theorem zm236 : Cond.methodLink RL 170 yX9_thrown ∈ zw := List.mem_filter.mpr ⟨zt_7 _ (List.mem_of_getElem? (i := 124) rfl), rfl⟩
theorem zm237 : Cond.instanceMethod yX9_thrown ∈ zw := List.mem_filter.mpr ⟨zt_7 _ (List.mem_of_getElem? (i := 125) rfl), rfl⟩
theorem zm238 : Cond.selects RX9 yX9_thrown yX9_thrown ∈ zw := List.mem_filter.mpr ⟨zt_7 _ (List.mem_of_getElem? (i := 126) rfl), rfl⟩
theorem zm239 : Cond.code yX9_thrown cX9_thrown 1 (some .int) ∈ zw := List.mem_filter.mpr ⟨zt_7 _ (List.mem_of_getElem? (i := 127) rfl), rfl⟩
theorem zm240 : Cond.methodLink RL 173 yL_startGame ∈ zw := List.mem_filter.mpr ⟨zt_4 _ (List.mem_of_getElem? (i := 132) rfl), rfl⟩
theorem zm241 : Cond.static yL_startGame ∈ zw := List.mem_filter.mpr ⟨zt_4 _ (List.mem_of_getElem? (i := 133) rfl), rfl⟩
theorem zm242 : Cond.codeWith yL_startGame cL_startGame 3 (some .int) [(0, 8, 11, 13), (0, 8, 14, 18)] ∈ zw := List.mem_filter.mpr ⟨zt_4 _ (List.mem_of_getElem? (i := 134) rfl), rfl⟩
theorem zm243 : Cond.methodLink RL 15 yX8_startGame ∈ zw := List.mem_filter.mpr ⟨zt_4 _ (List.mem_of_getElem? (i := 136) rfl), rfl⟩
theorem zm244 : Cond.instanceMethod yX8_startGame ∈ zw := List.mem_filter.mpr ⟨zt_4 _ (List.mem_of_getElem? (i := 137) rfl), rfl⟩
theorem zm245 : Cond.selects RX8 yX8_startGame yX8_startGame ∈ zw := List.mem_filter.mpr ⟨zt_4 _ (List.mem_of_getElem? (i := 138) rfl), rfl⟩
theorem zm246 : Cond.code yX8_startGame cX8_startGame 1 (some .int) ∈ zw := List.mem_filter.mpr ⟨zt_4 _ (List.mem_of_getElem? (i := 139) rfl), rfl⟩
theorem zm247 : Cond.classLink RX8 76 "java/util/NoSuchElementException" ∈ zw := List.mem_filter.mpr ⟨zt_4 _ (List.mem_of_getElem? (i := 141) rfl), rfl⟩
theorem zm248 : Cond.initialized "java/util/NoSuchElementException" ∈ zw := List.mem_filter.mpr ⟨zt_1 _ (List.mem_of_getElem? (i := 19) rfl), rfl⟩
theorem zm249 : Cond.fieldLink RX8 66 "PinballScorer$Table" "running" "Z" ∈ zw := List.mem_filter.mpr ⟨zt_1 _ (List.mem_of_getElem? (i := 160) rfl), rfl⟩
theorem zm250 : Cond.fieldLink RX8 72 "PinballScorer$Table" "playerCount" "I" ∈ zw := List.mem_filter.mpr ⟨zt_1 _ (List.mem_of_getElem? (i := 154) rfl), rfl⟩
theorem zm251 : Cond.methodLink RX8 81 yX6_beginGame ∈ zw := List.mem_filter.mpr ⟨zt_4 _ (List.mem_of_getElem? (i := 157) rfl), rfl⟩
theorem zm252 : Cond.instanceMethod yX6_beginGame ∈ zw := List.mem_filter.mpr ⟨zt_4 _ (List.mem_of_getElem? (i := 158) rfl), rfl⟩
theorem zm253 : Cond.selects RX6 yX6_beginGame yX6_beginGame ∈ zw := List.mem_filter.mpr ⟨zt_4 _ (List.mem_of_getElem? (i := 159) rfl), rfl⟩
theorem zm254 : Cond.code yX6_beginGame cX6_beginGame 2 (some .int) ∈ zw := List.mem_filter.mpr ⟨zt_4 _ (List.mem_of_getElem? (i := 160) rfl), rfl⟩
theorem zm255 : Cond.methodLink RX6 72 yX1_begin ∈ zw := List.mem_filter.mpr ⟨zt_4 _ (List.mem_of_getElem? (i := 161) rfl), rfl⟩
theorem zm256 : Cond.instanceMethod yX1_begin ∈ zw := List.mem_filter.mpr ⟨zt_4 _ (List.mem_of_getElem? (i := 162) rfl), rfl⟩
theorem zm257 : Cond.selects RX1 yX1_begin yX1_begin ∈ zw := List.mem_filter.mpr ⟨zt_4 _ (List.mem_of_getElem? (i := 163) rfl), rfl⟩
theorem zm258 : Cond.code yX1_begin cX1_begin 2 none ∈ zw := List.mem_filter.mpr ⟨zt_4 _ (List.mem_of_getElem? (i := 164) rfl), rfl⟩
theorem zm259 : Cond.static yX8_clearAll ∈ zw := List.mem_filter.mpr ⟨zt_2 _ (List.mem_of_getElem? (i := 141) rfl), rfl⟩
theorem zm260 : Cond.code yX8_clearAll cX8_clearAll 2 none ∈ zw := List.mem_filter.mpr ⟨zt_2 _ (List.mem_of_getElem? (i := 142) rfl), rfl⟩
theorem zm261 : Cond.methodLink RL 175 yX9_startGame ∈ zw := List.mem_filter.mpr ⟨zt_7 _ (List.mem_of_getElem? (i := 159) rfl), rfl⟩
theorem zm262 : Cond.instanceMethod yX9_startGame ∈ zw := List.mem_filter.mpr ⟨zt_7 _ (List.mem_of_getElem? (i := 160) rfl), rfl⟩
theorem zm263 : Cond.selects RX9 yX9_startGame yX9_startGame ∈ zw := List.mem_filter.mpr ⟨zt_7 _ (List.mem_of_getElem? (i := 161) rfl), rfl⟩
theorem zm264 : Cond.code yX9_startGame cX9_startGame 2 (some .int) ∈ zw := List.mem_filter.mpr ⟨zt_7 _ (List.mem_of_getElem? (i := 162) rfl), rfl⟩
theorem zm265 : Cond.methodLink RX9 100 yX9_cannotStart ∈ zw := List.mem_filter.mpr ⟨zt_7 _ (List.mem_of_getElem? (i := 163) rfl), rfl⟩
theorem zm266 : Cond.instanceMethod yX9_cannotStart ∈ zw := List.mem_filter.mpr ⟨zt_7 _ (List.mem_of_getElem? (i := 165) rfl), rfl⟩
theorem zm267 : Cond.selects RX9 yX9_cannotStart yX9_cannotStart ∈ zw := List.mem_filter.mpr ⟨zp_2 (⟨"PinballScorerModel", "cannotStart", "()I"⟩, 20) (List.mem_of_getElem? (i := 14) rfl), rfl⟩
theorem zm268 : Cond.code yX9_cannotStart cX9_cannotStart 1 (some .int) ∈ zw := List.mem_filter.mpr ⟨zt_7 _ (List.mem_of_getElem? (i := 166) rfl), rfl⟩
theorem zm269 : Cond.methodLink RX9 103 yX9_starts ∈ zw := List.mem_filter.mpr ⟨zt_7 _ (List.mem_of_getElem? (i := 167) rfl), rfl⟩
theorem zm270 : Cond.instanceMethod yX9_starts ∈ zw := List.mem_filter.mpr ⟨zt_7 _ (List.mem_of_getElem? (i := 169) rfl), rfl⟩
theorem zm271 : Cond.selects RX9 yX9_starts yX9_starts ∈ zw := List.mem_filter.mpr ⟨zp_2 (⟨"PinballScorerModel", "starts", "()I"⟩, 20) (List.mem_of_getElem? (i := 15) rfl), rfl⟩
theorem zm272 : Cond.code yX9_starts cX9_starts 2 (some .int) ∈ zw := List.mem_filter.mpr ⟨zt_7 _ (List.mem_of_getElem? (i := 170) rfl), rfl⟩
theorem zm273 : Cond.methodLink RX9 97 yX9_beginsBall ∈ zw := List.mem_filter.mpr ⟨zt_7 _ (List.mem_of_getElem? (i := 171) rfl), rfl⟩
theorem zm274 : Cond.instanceMethod yX9_beginsBall ∈ zw := List.mem_filter.mpr ⟨zt_7 _ (List.mem_of_getElem? (i := 173) rfl), rfl⟩
theorem zm275 : Cond.selects RX9 yX9_beginsBall yX9_beginsBall ∈ zw := List.mem_filter.mpr ⟨zp_3 (⟨"PinballScorerModel", "beginsBall", "()V"⟩, 20) (List.mem_of_getElem? (i := 0) rfl), rfl⟩
theorem zm276 : Cond.code yX9_beginsBall cX9_beginsBall 2 none ∈ zw := List.mem_filter.mpr ⟨zt_7 _ (List.mem_of_getElem? (i := 174) rfl), rfl⟩
theorem zm277 : Cond.methodLink RL 176 yL_hitLane ∈ zw := List.mem_filter.mpr ⟨zt_4 _ (List.mem_of_getElem? (i := 165) rfl), rfl⟩
theorem zm278 : Cond.static yL_hitLane ∈ zw := List.mem_filter.mpr ⟨zt_4 _ (List.mem_of_getElem? (i := 166) rfl), rfl⟩
theorem zm279 : Cond.codeWith yL_hitLane cL_hitLane 4 (some .int) [(0, 9, 12, 24), (0, 9, 15, 13)] ∈ zw := List.mem_filter.mpr ⟨zt_4 _ (List.mem_of_getElem? (i := 167) rfl), rfl⟩
theorem zm280 : Cond.classLink RL 24 "java/lang/IndexOutOfBoundsException" ∈ zw := List.mem_filter.mpr ⟨zt_4 _ (List.mem_of_getElem? (i := 168) rfl), rfl⟩
theorem zm281 : Cond.methodLink RL 20 yX8_hitLane ∈ zw := List.mem_filter.mpr ⟨zt_4 _ (List.mem_of_getElem? (i := 171) rfl), rfl⟩
theorem zm282 : Cond.instanceMethod yX8_hitLane ∈ zw := List.mem_filter.mpr ⟨zt_4 _ (List.mem_of_getElem? (i := 172) rfl), rfl⟩
theorem zm283 : Cond.selects RX8 yX8_hitLane yX8_hitLane ∈ zw := List.mem_filter.mpr ⟨zt_4 _ (List.mem_of_getElem? (i := 173) rfl), rfl⟩
theorem zm284 : Cond.code yX8_hitLane cX8_hitLane 2 (some .int) ∈ zw := List.mem_filter.mpr ⟨zt_4 _ (List.mem_of_getElem? (i := 174) rfl), rfl⟩
theorem zm285 : Cond.methodLink RX8 84 yX8_requireIndex ∈ zw := List.mem_filter.mpr ⟨zt_4 _ (List.mem_of_getElem? (i := 175) rfl), rfl⟩
theorem zm286 : Cond.static yX8_requireIndex ∈ zw := List.mem_filter.mpr ⟨zt_4 _ (List.mem_of_getElem? (i := 176) rfl), rfl⟩
theorem zm287 : Cond.code yX8_requireIndex cX8_requireIndex 2 none ∈ zw := List.mem_filter.mpr ⟨zt_4 _ (List.mem_of_getElem? (i := 177) rfl), rfl⟩
theorem zm288 : Cond.classLink RX8 348 "java/lang/IndexOutOfBoundsException" ∈ zw := List.mem_filter.mpr ⟨zt_4 _ (List.mem_of_getElem? (i := 181) rfl), rfl⟩
theorem zm289 : Cond.initialized "java/lang/IndexOutOfBoundsException" ∈ zw := List.mem_filter.mpr ⟨zt_1 _ (List.mem_of_getElem? (i := 20) rfl), rfl⟩
theorem zm290 : Cond.methodLink RX8 344 yX8_isIndex ∈ zw := List.mem_filter.mpr ⟨zt_4 _ (List.mem_of_getElem? (i := 178) rfl), rfl⟩
theorem zm291 : Cond.static yX8_isIndex ∈ zw := List.mem_filter.mpr ⟨zt_4 _ (List.mem_of_getElem? (i := 179) rfl), rfl⟩
theorem zm292 : Cond.code yX8_isIndex cX8_isIndex 2 (some .boolean) ∈ zw := List.mem_filter.mpr ⟨zt_4 _ (List.mem_of_getElem? (i := 180) rfl), rfl⟩
theorem zm293 : Cond.methodLink RX8 88 yX8_requireGame ∈ zw := List.mem_filter.mpr ⟨zt_4 _ (List.mem_of_getElem? (i := 194) rfl), rfl⟩
theorem zm294 : Cond.instanceMethod yX8_requireGame ∈ zw := List.mem_filter.mpr ⟨zt_4 _ (List.mem_of_getElem? (i := 196) rfl), rfl⟩
theorem zm295 : Cond.selects RX8 yX8_requireGame yX8_requireGame ∈ zw := List.mem_filter.mpr ⟨zp_1 (⟨"PinballScorer", "requireGame", "()V"⟩, 11) (List.mem_of_getElem? (i := 6) rfl), rfl⟩
theorem zm296 : Cond.code yX8_requireGame cX8_requireGame 1 none ∈ zw := List.mem_filter.mpr ⟨zt_4 _ (List.mem_of_getElem? (i := 197) rfl), rfl⟩
theorem zm297 : Cond.methodLink RX8 91 yX6_playLane ∈ zw := List.mem_filter.mpr ⟨zt_4 _ (List.mem_of_getElem? (i := 199) rfl), rfl⟩
theorem zm298 : Cond.instanceMethod yX6_playLane ∈ zw := List.mem_filter.mpr ⟨zt_4 _ (List.mem_of_getElem? (i := 200) rfl), rfl⟩
theorem zm299 : Cond.selects RX6 yX6_playLane yX6_playLane ∈ zw := List.mem_filter.mpr ⟨zt_4 _ (List.mem_of_getElem? (i := 201) rfl), rfl⟩
theorem zm300 : Cond.code yX6_playLane cX6_playLane 3 (some .int) ∈ zw := List.mem_filter.mpr ⟨zt_4 _ (List.mem_of_getElem? (i := 202) rfl), rfl⟩
theorem zm301 : Cond.methodLink RX6 75 yX1_strikeLane ∈ zw := List.mem_filter.mpr ⟨zt_4 _ (List.mem_of_getElem? (i := 203) rfl), rfl⟩
theorem zm302 : Cond.instanceMethod yX1_strikeLane ∈ zw := List.mem_filter.mpr ⟨zt_2 _ (List.mem_of_getElem? (i := 127) rfl), rfl⟩
theorem zm303 : Cond.selects RX1 yX1_strikeLane yX1_strikeLane ∈ zw := List.mem_filter.mpr ⟨zt_2 _ (List.mem_of_getElem? (i := 128) rfl), rfl⟩
theorem zm304 : Cond.code yX1_strikeLane cX1_strikeLane 3 (some .int) ∈ zw := List.mem_filter.mpr ⟨zt_2 _ (List.mem_of_getElem? (i := 129) rfl), rfl⟩
theorem zm305 : Cond.methodLink RX1 69 Lib.Math.min.name ∈ zw := List.mem_filter.mpr ⟨zt_2 _ (List.mem_of_getElem? (i := 143) rfl), rfl⟩
theorem zm306 : Cond.methodLink RX1 62 yX1_countHit ∈ zw := List.mem_filter.mpr ⟨zt_2 _ (List.mem_of_getElem? (i := 130) rfl), rfl⟩
theorem zm307 : Cond.instanceMethod yX1_countHit ∈ zw := List.mem_filter.mpr ⟨zt_2 _ (List.mem_of_getElem? (i := 132) rfl), rfl⟩
theorem zm308 : Cond.selects RX1 yX1_countHit yX1_countHit ∈ zw := List.mem_filter.mpr ⟨zp_1 (⟨"PinballScorer$Ball", "countHit", "()V"⟩, 11) (List.mem_of_getElem? (i := 2) rfl), rfl⟩
theorem zm309 : Cond.code yX1_countHit cX1_countHit 1 none ∈ zw := List.mem_filter.mpr ⟨zt_2 _ (List.mem_of_getElem? (i := 133) rfl), rfl⟩
theorem zm310 : Cond.methodLink RX1 75 Lib.Math.max.name ∈ zw := List.mem_filter.mpr ⟨zt_2 _ (List.mem_of_getElem? (i := 134) rfl), rfl⟩
theorem zm311 : Cond.static Lib.Math.max.name ∈ zw := List.mem_filter.mpr ⟨zt_2 _ (List.mem_of_getElem? (i := 135) rfl), rfl⟩
theorem zm312 : Cond.code Lib.Math.max.name Lib.Math.max.code 2 (some .int) ∈ zw := List.mem_filter.mpr ⟨zt_2 _ (List.mem_of_getElem? (i := 136) rfl), rfl⟩
theorem zm313 : Cond.static yX8_allTrue ∈ zw := List.mem_filter.mpr ⟨zt_2 _ (List.mem_of_getElem? (i := 138) rfl), rfl⟩
theorem zm314 : Cond.code yX8_allTrue cX8_allTrue 5 (some .boolean) ∈ zw := List.mem_filter.mpr ⟨zt_2 _ (List.mem_of_getElem? (i := 139) rfl), rfl⟩
theorem zm315 : Cond.methodLink RX6 79 yX6_award ∈ zw := List.mem_filter.mpr ⟨zt_4 _ (List.mem_of_getElem? (i := 204) rfl), rfl⟩
theorem zm316 : Cond.instanceMethod yX6_award ∈ zw := List.mem_filter.mpr ⟨zt_4 _ (List.mem_of_getElem? (i := 206) rfl), rfl⟩
theorem zm317 : Cond.selects RX6 yX6_award yX6_award ∈ zw := List.mem_filter.mpr ⟨zp_1 (⟨"PinballScorer$Table", "award", "(II)V"⟩, 10) (List.mem_of_getElem? (i := 7) rfl), rfl⟩
theorem zm318 : Cond.code yX6_award cX6_award 3 none ∈ zw := List.mem_filter.mpr ⟨zt_4 _ (List.mem_of_getElem? (i := 207) rfl), rfl⟩
theorem zm319 : Cond.fieldLink RX6 129 "PinballScorer$Totals" "points" "[I" ∈ zw := List.mem_filter.mpr ⟨zt_1 _ (List.mem_of_getElem? (i := 133) rfl), rfl⟩
theorem zm320 : Cond.fieldLink RX6 132 "PinballScorer$Totals" "allPoints" "I" ∈ zw := List.mem_filter.mpr ⟨zt_1 _ (List.mem_of_getElem? (i := 136) rfl), rfl⟩
theorem zm321 : Cond.methodLink RX6 125 yX6_reachesMilestone ∈ zw := List.mem_filter.mpr ⟨zt_4 _ (List.mem_of_getElem? (i := 208) rfl), rfl⟩
theorem zm322 : Cond.instanceMethod yX6_reachesMilestone ∈ zw := List.mem_filter.mpr ⟨zt_4 _ (List.mem_of_getElem? (i := 210) rfl), rfl⟩
theorem zm323 : Cond.selects RX6 yX6_reachesMilestone yX6_reachesMilestone ∈ zw := List.mem_filter.mpr ⟨zp_1 (⟨"PinballScorer$Table", "reachesMilestone", "(I)Z"⟩, 10) (List.mem_of_getElem? (i := 8) rfl), rfl⟩
theorem zm324 : Cond.code yX6_reachesMilestone cX6_reachesMilestone 3 (some .boolean) ∈ zw := List.mem_filter.mpr ⟨zt_4 _ (List.mem_of_getElem? (i := 211) rfl), rfl⟩
theorem zm325 : Cond.methodLink RX6 92 yX6_gainExtraBall ∈ zw := List.mem_filter.mpr ⟨zt_4 _ (List.mem_of_getElem? (i := 212) rfl), rfl⟩
theorem zm326 : Cond.instanceMethod yX6_gainExtraBall ∈ zw := List.mem_filter.mpr ⟨zt_4 _ (List.mem_of_getElem? (i := 214) rfl), rfl⟩
theorem zm327 : Cond.selects RX6 yX6_gainExtraBall yX6_gainExtraBall ∈ zw := List.mem_filter.mpr ⟨zp_1 (⟨"PinballScorer$Table", "gainExtraBall", "()V"⟩, 10) (List.mem_of_getElem? (i := 9) rfl), rfl⟩
theorem zm328 : Cond.code yX6_gainExtraBall cX6_gainExtraBall 1 none ∈ zw := List.mem_filter.mpr ⟨zt_4 _ (List.mem_of_getElem? (i := 215) rfl), rfl⟩
theorem zm329 : Cond.methodLink RX6 135 Lib.Math.min.name ∈ zw := List.mem_filter.mpr ⟨zt_4 _ (List.mem_of_getElem? (i := 216) rfl), rfl⟩
theorem zm330 : Cond.methodLink RL 179 yX9_hitLane ∈ zw := List.mem_filter.mpr ⟨zt_7 _ (List.mem_of_getElem? (i := 183) rfl), rfl⟩
theorem zm331 : Cond.instanceMethod yX9_hitLane ∈ zw := List.mem_filter.mpr ⟨zt_7 _ (List.mem_of_getElem? (i := 184) rfl), rfl⟩
theorem zm332 : Cond.selects RX9 yX9_hitLane yX9_hitLane ∈ zw := List.mem_filter.mpr ⟨zt_7 _ (List.mem_of_getElem? (i := 185) rfl), rfl⟩
theorem zm333 : Cond.code yX9_hitLane cX9_hitLane 3 (some .int) ∈ zw := List.mem_filter.mpr ⟨zt_7 _ (List.mem_of_getElem? (i := 186) rfl), rfl⟩
theorem zm334 : Cond.methodLink RX9 131 yX9_cannotHit ∈ zw := List.mem_filter.mpr ⟨zt_7 _ (List.mem_of_getElem? (i := 187) rfl), rfl⟩
theorem zm335 : Cond.instanceMethod yX9_cannotHit ∈ zw := List.mem_filter.mpr ⟨zt_7 _ (List.mem_of_getElem? (i := 189) rfl), rfl⟩
theorem zm336 : Cond.selects RX9 yX9_cannotHit yX9_cannotHit ∈ zw := List.mem_filter.mpr ⟨zp_3 (⟨"PinballScorerModel", "cannotHit", "(II)I"⟩, 20) (List.mem_of_getElem? (i := 2) rfl), rfl⟩
theorem zm337 : Cond.code yX9_cannotHit cX9_cannotHit 3 (some .int) ∈ zw := List.mem_filter.mpr ⟨zt_7 _ (List.mem_of_getElem? (i := 190) rfl), rfl⟩
theorem zm338 : Cond.methodLink RX9 127 yX9_in ∈ zw := List.mem_filter.mpr ⟨zt_7 _ (List.mem_of_getElem? (i := 191) rfl), rfl⟩
theorem zm339 : Cond.static yX9_in ∈ zw := List.mem_filter.mpr ⟨zt_7 _ (List.mem_of_getElem? (i := 192) rfl), rfl⟩
theorem zm340 : Cond.code yX9_in cX9_in 3 (some .boolean) ∈ zw := List.mem_filter.mpr ⟨zt_7 _ (List.mem_of_getElem? (i := 193) rfl), rfl⟩
theorem zm341 : Cond.methodLink RX9 134 yX9_hitsLane ∈ zw := List.mem_filter.mpr ⟨zt_7 _ (List.mem_of_getElem? (i := 194) rfl), rfl⟩
theorem zm342 : Cond.instanceMethod yX9_hitsLane ∈ zw := List.mem_filter.mpr ⟨zt_7 _ (List.mem_of_getElem? (i := 196) rfl), rfl⟩
theorem zm343 : Cond.selects RX9 yX9_hitsLane yX9_hitsLane ∈ zw := List.mem_filter.mpr ⟨zp_3 (⟨"PinballScorerModel", "hitsLane", "(I)I"⟩, 20) (List.mem_of_getElem? (i := 3) rfl), rfl⟩
theorem zm344 : Cond.code yX9_hitsLane cX9_hitsLane 3 (some .int) ∈ zw := List.mem_filter.mpr ⟨zt_7 _ (List.mem_of_getElem? (i := 197) rfl), rfl⟩
theorem zm345 : Cond.methodLink RX9 116 yX9_counts ∈ zw := List.mem_filter.mpr ⟨zt_7 _ (List.mem_of_getElem? (i := 198) rfl), rfl⟩
theorem zm346 : Cond.instanceMethod yX9_counts ∈ zw := List.mem_filter.mpr ⟨zt_7 _ (List.mem_of_getElem? (i := 200) rfl), rfl⟩
theorem zm347 : Cond.selects RX9 yX9_counts yX9_counts ∈ zw := List.mem_filter.mpr ⟨zp_3 (⟨"PinballScorerModel", "counts", "()Z"⟩, 20) (List.mem_of_getElem? (i := 4) rfl), rfl⟩
theorem zm348 : Cond.code yX9_counts cX9_counts 1 (some .boolean) ∈ zw := List.mem_filter.mpr ⟨zt_7 _ (List.mem_of_getElem? (i := 201) rfl), rfl⟩
theorem zm349 : Cond.methodLink RX9 113 yX9_isTilt ∈ zw := List.mem_filter.mpr ⟨zt_7 _ (List.mem_of_getElem? (i := 202) rfl), rfl⟩
theorem zm350 : Cond.instanceMethod yX9_isTilt ∈ zw := List.mem_filter.mpr ⟨zt_7 _ (List.mem_of_getElem? (i := 204) rfl), rfl⟩
theorem zm351 : Cond.selects RX9 yX9_isTilt yX9_isTilt ∈ zw := List.mem_filter.mpr ⟨zp_3 (⟨"PinballScorerModel", "isTilt", "()Z"⟩, 20) (List.mem_of_getElem? (i := 5) rfl), rfl⟩
theorem zm352 : Cond.code yX9_isTilt cX9_isTilt 1 (some .boolean) ∈ zw := List.mem_filter.mpr ⟨zt_7 _ (List.mem_of_getElem? (i := 205) rfl), rfl⟩
theorem zm353 : Cond.methodLink RX9 119 yX9_scores ∈ zw := List.mem_filter.mpr ⟨zt_7 _ (List.mem_of_getElem? (i := 206) rfl), rfl⟩
theorem zm354 : Cond.instanceMethod yX9_scores ∈ zw := List.mem_filter.mpr ⟨zt_7 _ (List.mem_of_getElem? (i := 208) rfl), rfl⟩
theorem zm355 : Cond.selects RX9 yX9_scores yX9_scores ∈ zw := List.mem_filter.mpr ⟨zp_3 (⟨"PinballScorerModel", "scores", "(II)I"⟩, 20) (List.mem_of_getElem? (i := 6) rfl), rfl⟩
theorem zm356 : Cond.code yX9_scores cX9_scores 5 (some .int) ∈ zw := List.mem_filter.mpr ⟨zt_7 _ (List.mem_of_getElem? (i := 209) rfl), rfl⟩
theorem zm357 : Cond.methodLink RX9 109 yX9_givesExtra ∈ zw := List.mem_filter.mpr ⟨zt_7 _ (List.mem_of_getElem? (i := 210) rfl), rfl⟩
theorem zm358 : Cond.instanceMethod yX9_givesExtra ∈ zw := List.mem_filter.mpr ⟨zt_7 _ (List.mem_of_getElem? (i := 212) rfl), rfl⟩
theorem zm359 : Cond.selects RX9 yX9_givesExtra yX9_givesExtra ∈ zw := List.mem_filter.mpr ⟨zp_3 (⟨"PinballScorerModel", "givesExtra", "(I)V"⟩, 20) (List.mem_of_getElem? (i := 7) rfl), rfl⟩
theorem zm360 : Cond.code yX9_givesExtra cX9_givesExtra 2 none ∈ zw := List.mem_filter.mpr ⟨zt_7 _ (List.mem_of_getElem? (i := 213) rfl), rfl⟩
theorem zm361 : Cond.methodLink RX9 123 yX9_isFull ∈ zw := List.mem_filter.mpr ⟨zt_7 _ (List.mem_of_getElem? (i := 214) rfl), rfl⟩
theorem zm362 : Cond.instanceMethod yX9_isFull ∈ zw := List.mem_filter.mpr ⟨zt_7 _ (List.mem_of_getElem? (i := 216) rfl), rfl⟩
theorem zm363 : Cond.selects RX9 yX9_isFull yX9_isFull ∈ zw := List.mem_filter.mpr ⟨zp_3 (⟨"PinballScorerModel", "isFull", "(II)Z"⟩, 20) (List.mem_of_getElem? (i := 8) rfl), rfl⟩
theorem zm364 : Cond.code yX9_isFull cX9_isFull 4 (some .boolean) ∈ zw := List.mem_filter.mpr ⟨zt_7 _ (List.mem_of_getElem? (i := 217) rfl), rfl⟩
theorem zm365 : Cond.methodLink RL 180 yL_hitBumper ∈ zw := List.mem_filter.mpr ⟨zt_4 _ (List.mem_of_getElem? (i := 217) rfl), rfl⟩
theorem zm366 : Cond.static yL_hitBumper ∈ zw := List.mem_filter.mpr ⟨zt_4 _ (List.mem_of_getElem? (i := 218) rfl), rfl⟩
theorem zm367 : Cond.codeWith yL_hitBumper cL_hitBumper 4 (some .int) [(0, 9, 12, 24), (0, 9, 15, 13)] ∈ zw := List.mem_filter.mpr ⟨zt_4 _ (List.mem_of_getElem? (i := 219) rfl), rfl⟩
theorem zm368 : Cond.methodLink RL 26 yX8_hitBumper ∈ zw := List.mem_filter.mpr ⟨zt_4 _ (List.mem_of_getElem? (i := 220) rfl), rfl⟩
theorem zm369 : Cond.instanceMethod yX8_hitBumper ∈ zw := List.mem_filter.mpr ⟨zt_4 _ (List.mem_of_getElem? (i := 221) rfl), rfl⟩
theorem zm370 : Cond.selects RX8 yX8_hitBumper yX8_hitBumper ∈ zw := List.mem_filter.mpr ⟨zt_4 _ (List.mem_of_getElem? (i := 222) rfl), rfl⟩
theorem zm371 : Cond.code yX8_hitBumper cX8_hitBumper 2 (some .int) ∈ zw := List.mem_filter.mpr ⟨zt_4 _ (List.mem_of_getElem? (i := 223) rfl), rfl⟩
theorem zm372 : Cond.methodLink RX8 95 yX6_playBumper ∈ zw := List.mem_filter.mpr ⟨zt_4 _ (List.mem_of_getElem? (i := 224) rfl), rfl⟩
theorem zm373 : Cond.instanceMethod yX6_playBumper ∈ zw := List.mem_filter.mpr ⟨zt_4 _ (List.mem_of_getElem? (i := 225) rfl), rfl⟩
theorem zm374 : Cond.selects RX6 yX6_playBumper yX6_playBumper ∈ zw := List.mem_filter.mpr ⟨zt_4 _ (List.mem_of_getElem? (i := 226) rfl), rfl⟩
theorem zm375 : Cond.code yX6_playBumper cX6_playBumper 3 (some .int) ∈ zw := List.mem_filter.mpr ⟨zt_4 _ (List.mem_of_getElem? (i := 227) rfl), rfl⟩
theorem zm376 : Cond.methodLink RX6 83 yX1_strikeBumper ∈ zw := List.mem_filter.mpr ⟨zt_4 _ (List.mem_of_getElem? (i := 228) rfl), rfl⟩
theorem zm377 : Cond.instanceMethod yX1_strikeBumper ∈ zw := List.mem_filter.mpr ⟨zt_2 _ (List.mem_of_getElem? (i := 155) rfl), rfl⟩
theorem zm378 : Cond.selects RX1 yX1_strikeBumper yX1_strikeBumper ∈ zw := List.mem_filter.mpr ⟨zt_2 _ (List.mem_of_getElem? (i := 156) rfl), rfl⟩
theorem zm379 : Cond.code yX1_strikeBumper cX1_strikeBumper 3 (some .int) ∈ zw := List.mem_filter.mpr ⟨zt_2 _ (List.mem_of_getElem? (i := 157) rfl), rfl⟩
theorem zm380 : Cond.methodLink RL 182 yX9_hitBumper ∈ zw := List.mem_filter.mpr ⟨zt_7 _ (List.mem_of_getElem? (i := 218) rfl), rfl⟩
theorem zm381 : Cond.instanceMethod yX9_hitBumper ∈ zw := List.mem_filter.mpr ⟨zt_7 _ (List.mem_of_getElem? (i := 219) rfl), rfl⟩
theorem zm382 : Cond.selects RX9 yX9_hitBumper yX9_hitBumper ∈ zw := List.mem_filter.mpr ⟨zt_7 _ (List.mem_of_getElem? (i := 220) rfl), rfl⟩
theorem zm383 : Cond.code yX9_hitBumper cX9_hitBumper 3 (some .int) ∈ zw := List.mem_filter.mpr ⟨zt_7 _ (List.mem_of_getElem? (i := 221) rfl), rfl⟩
theorem zm384 : Cond.methodLink RX9 137 yX9_hitsBumper ∈ zw := List.mem_filter.mpr ⟨zt_7 _ (List.mem_of_getElem? (i := 222) rfl), rfl⟩
theorem zm385 : Cond.instanceMethod yX9_hitsBumper ∈ zw := List.mem_filter.mpr ⟨zt_7 _ (List.mem_of_getElem? (i := 224) rfl), rfl⟩
theorem zm386 : Cond.selects RX9 yX9_hitsBumper yX9_hitsBumper ∈ zw := List.mem_filter.mpr ⟨zp_3 (⟨"PinballScorerModel", "hitsBumper", "(I)I"⟩, 20) (List.mem_of_getElem? (i := 9) rfl), rfl⟩
theorem zm387 : Cond.code yX9_hitsBumper cX9_hitsBumper 3 (some .int) ∈ zw := List.mem_filter.mpr ⟨zt_7 _ (List.mem_of_getElem? (i := 225) rfl), rfl⟩
theorem zm388 : Cond.methodLink RL 183 yL_hitTarget ∈ zw := List.mem_filter.mpr ⟨zt_4 _ (List.mem_of_getElem? (i := 229) rfl), rfl⟩
theorem zm389 : Cond.static yL_hitTarget ∈ zw := List.mem_filter.mpr ⟨zt_4 _ (List.mem_of_getElem? (i := 230) rfl), rfl⟩
theorem zm390 : Cond.codeWith yL_hitTarget cL_hitTarget 4 (some .int) [(0, 9, 12, 24), (0, 9, 15, 13)] ∈ zw := List.mem_filter.mpr ⟨zt_4 _ (List.mem_of_getElem? (i := 231) rfl), rfl⟩
theorem zm391 : Cond.methodLink RL 29 yX8_hitTarget ∈ zw := List.mem_filter.mpr ⟨zt_4 _ (List.mem_of_getElem? (i := 232) rfl), rfl⟩
theorem zm392 : Cond.instanceMethod yX8_hitTarget ∈ zw := List.mem_filter.mpr ⟨zt_4 _ (List.mem_of_getElem? (i := 233) rfl), rfl⟩
theorem zm393 : Cond.selects RX8 yX8_hitTarget yX8_hitTarget ∈ zw := List.mem_filter.mpr ⟨zt_4 _ (List.mem_of_getElem? (i := 234) rfl), rfl⟩
theorem zm394 : Cond.code yX8_hitTarget cX8_hitTarget 2 (some .int) ∈ zw := List.mem_filter.mpr ⟨zt_4 _ (List.mem_of_getElem? (i := 235) rfl), rfl⟩
theorem zm395 : Cond.methodLink RX8 98 yX6_playTarget ∈ zw := List.mem_filter.mpr ⟨zt_4 _ (List.mem_of_getElem? (i := 236) rfl), rfl⟩
theorem zm396 : Cond.instanceMethod yX6_playTarget ∈ zw := List.mem_filter.mpr ⟨zt_4 _ (List.mem_of_getElem? (i := 237) rfl), rfl⟩
theorem zm397 : Cond.selects RX6 yX6_playTarget yX6_playTarget ∈ zw := List.mem_filter.mpr ⟨zt_4 _ (List.mem_of_getElem? (i := 238) rfl), rfl⟩
theorem zm398 : Cond.code yX6_playTarget cX6_playTarget 4 (some .int) ∈ zw := List.mem_filter.mpr ⟨zt_4 _ (List.mem_of_getElem? (i := 239) rfl), rfl⟩
theorem zm399 : Cond.fieldLink RX6 86 "PinballScorer$Ball" "completedBanks" "I" ∈ zw := List.mem_filter.mpr ⟨zt_1 _ (List.mem_of_getElem? (i := 62) rfl), rfl⟩
theorem zm400 : Cond.methodLink RX6 89 yX1_strikeTarget ∈ zw := List.mem_filter.mpr ⟨zt_5 _ (List.mem_of_getElem? (i := 0) rfl), rfl⟩
theorem zm401 : Cond.instanceMethod yX1_strikeTarget ∈ zw := List.mem_filter.mpr ⟨zt_5 _ (List.mem_of_getElem? (i := 1) rfl), rfl⟩
theorem zm402 : Cond.selects RX1 yX1_strikeTarget yX1_strikeTarget ∈ zw := List.mem_filter.mpr ⟨zt_5 _ (List.mem_of_getElem? (i := 2) rfl), rfl⟩
theorem zm403 : Cond.code yX1_strikeTarget cX1_strikeTarget 2 (some .int) ∈ zw := List.mem_filter.mpr ⟨zt_5 _ (List.mem_of_getElem? (i := 3) rfl), rfl⟩
theorem zm404 : Cond.methodLink RL 185 yX9_hitTarget ∈ zw := List.mem_filter.mpr ⟨zt_7 _ (List.mem_of_getElem? (i := 226) rfl), rfl⟩
theorem zm405 : Cond.instanceMethod yX9_hitTarget ∈ zw := List.mem_filter.mpr ⟨zt_7 _ (List.mem_of_getElem? (i := 227) rfl), rfl⟩
theorem zm406 : Cond.selects RX9 yX9_hitTarget yX9_hitTarget ∈ zw := List.mem_filter.mpr ⟨zt_7 _ (List.mem_of_getElem? (i := 228) rfl), rfl⟩
theorem zm407 : Cond.code yX9_hitTarget cX9_hitTarget 3 (some .int) ∈ zw := List.mem_filter.mpr ⟨zt_7 _ (List.mem_of_getElem? (i := 229) rfl), rfl⟩
theorem zm408 : Cond.methodLink RX9 140 yX9_hitsTarget ∈ zw := List.mem_filter.mpr ⟨zt_7 _ (List.mem_of_getElem? (i := 230) rfl), rfl⟩
theorem zm409 : Cond.instanceMethod yX9_hitsTarget ∈ zw := List.mem_filter.mpr ⟨zt_7 _ (List.mem_of_getElem? (i := 232) rfl), rfl⟩
theorem zm410 : Cond.selects RX9 yX9_hitsTarget yX9_hitsTarget ∈ zw := List.mem_filter.mpr ⟨zp_3 (⟨"PinballScorerModel", "hitsTarget", "(I)I"⟩, 20) (List.mem_of_getElem? (i := 10) rfl), rfl⟩
theorem zm411 : Cond.code yX9_hitsTarget cX9_hitsTarget 3 (some .int) ∈ zw := List.mem_filter.mpr ⟨zt_7 _ (List.mem_of_getElem? (i := 233) rfl), rfl⟩
theorem zm412 : Cond.methodLink RL 186 yL_nudge ∈ zw := List.mem_filter.mpr ⟨zt_5 _ (List.mem_of_getElem? (i := 4) rfl), rfl⟩
theorem zm413 : Cond.static yL_nudge ∈ zw := List.mem_filter.mpr ⟨zt_5 _ (List.mem_of_getElem? (i := 5) rfl), rfl⟩
theorem zm414 : Cond.codeWith yL_nudge cL_nudge 4 (some .int) [(0, 9, 12, 35), (0, 9, 15, 13)] ∈ zw := List.mem_filter.mpr ⟨zt_5 _ (List.mem_of_getElem? (i := 6) rfl), rfl⟩
theorem zm415 : Cond.classLink RL 35 "java/lang/IllegalArgumentException" ∈ zw := List.mem_filter.mpr ⟨zt_5 _ (List.mem_of_getElem? (i := 7) rfl), rfl⟩
theorem zm416 : Cond.methodLink RL 32 yX8_nudge ∈ zw := List.mem_filter.mpr ⟨zt_5 _ (List.mem_of_getElem? (i := 8) rfl), rfl⟩
theorem zm417 : Cond.instanceMethod yX8_nudge ∈ zw := List.mem_filter.mpr ⟨zt_5 _ (List.mem_of_getElem? (i := 9) rfl), rfl⟩
theorem zm418 : Cond.selects RX8 yX8_nudge yX8_nudge ∈ zw := List.mem_filter.mpr ⟨zt_5 _ (List.mem_of_getElem? (i := 10) rfl), rfl⟩
theorem zm419 : Cond.code yX8_nudge cX8_nudge 2 (some .int) ∈ zw := List.mem_filter.mpr ⟨zt_5 _ (List.mem_of_getElem? (i := 11) rfl), rfl⟩
theorem zm420 : Cond.classLink RX8 105 "java/lang/IllegalArgumentException" ∈ zw := List.mem_filter.mpr ⟨zt_5 _ (List.mem_of_getElem? (i := 15) rfl), rfl⟩
theorem zm421 : Cond.initialized "java/lang/IllegalArgumentException" ∈ zw := List.mem_filter.mpr ⟨zt_1 _ (List.mem_of_getElem? (i := 22) rfl), rfl⟩
theorem zm422 : Cond.methodLink RX8 101 yX8_isForce ∈ zw := List.mem_filter.mpr ⟨zt_5 _ (List.mem_of_getElem? (i := 12) rfl), rfl⟩
theorem zm423 : Cond.static yX8_isForce ∈ zw := List.mem_filter.mpr ⟨zt_5 _ (List.mem_of_getElem? (i := 13) rfl), rfl⟩
theorem zm424 : Cond.code yX8_isForce cX8_isForce 1 (some .boolean) ∈ zw := List.mem_filter.mpr ⟨zt_5 _ (List.mem_of_getElem? (i := 14) rfl), rfl⟩
theorem zm425 : Cond.methodLink RX8 110 yX6_shake ∈ zw := List.mem_filter.mpr ⟨zt_5 _ (List.mem_of_getElem? (i := 18) rfl), rfl⟩
theorem zm426 : Cond.instanceMethod yX6_shake ∈ zw := List.mem_filter.mpr ⟨zt_5 _ (List.mem_of_getElem? (i := 19) rfl), rfl⟩
theorem zm427 : Cond.selects RX6 yX6_shake yX6_shake ∈ zw := List.mem_filter.mpr ⟨zt_5 _ (List.mem_of_getElem? (i := 20) rfl), rfl⟩
theorem zm428 : Cond.code yX6_shake cX6_shake 3 (some .int) ∈ zw := List.mem_filter.mpr ⟨zt_5 _ (List.mem_of_getElem? (i := 21) rfl), rfl⟩
theorem zm429 : Cond.fieldLink RX6 95 "PinballScorer$Ball" "tilted" "Z" ∈ zw := List.mem_filter.mpr ⟨zt_1 _ (List.mem_of_getElem? (i := 74) rfl), rfl⟩
theorem zm430 : Cond.fieldLink RX6 102 "PinballScorer$Totals" "tiltedBalls" "I" ∈ zw := List.mem_filter.mpr ⟨zt_1 _ (List.mem_of_getElem? (i := 142) rfl), rfl⟩
theorem zm431 : Cond.fieldLink RX6 105 "PinballScorer$Ball" "warnings" "I" ∈ zw := List.mem_filter.mpr ⟨zt_1 _ (List.mem_of_getElem? (i := 69) rfl), rfl⟩
theorem zm432 : Cond.methodLink RX6 98 yX1_shake ∈ zw := List.mem_filter.mpr ⟨zt_5 _ (List.mem_of_getElem? (i := 22) rfl), rfl⟩
theorem zm433 : Cond.instanceMethod yX1_shake ∈ zw := List.mem_filter.mpr ⟨zt_5 _ (List.mem_of_getElem? (i := 23) rfl), rfl⟩
theorem zm434 : Cond.selects RX1 yX1_shake yX1_shake ∈ zw := List.mem_filter.mpr ⟨zt_5 _ (List.mem_of_getElem? (i := 24) rfl), rfl⟩
theorem zm435 : Cond.code yX1_shake cX1_shake 2 none ∈ zw := List.mem_filter.mpr ⟨zt_5 _ (List.mem_of_getElem? (i := 25) rfl), rfl⟩
theorem zm436 : Cond.methodLink RL 188 yX9_nudge ∈ zw := List.mem_filter.mpr ⟨zt_7 _ (List.mem_of_getElem? (i := 234) rfl), rfl⟩
theorem zm437 : Cond.instanceMethod yX9_nudge ∈ zw := List.mem_filter.mpr ⟨zt_7 _ (List.mem_of_getElem? (i := 235) rfl), rfl⟩
theorem zm438 : Cond.selects RX9 yX9_nudge yX9_nudge ∈ zw := List.mem_filter.mpr ⟨zt_7 _ (List.mem_of_getElem? (i := 236) rfl), rfl⟩
theorem zm439 : Cond.code yX9_nudge cX9_nudge 3 (some .int) ∈ zw := List.mem_filter.mpr ⟨zt_7 _ (List.mem_of_getElem? (i := 237) rfl), rfl⟩
theorem zm440 : Cond.methodLink RX9 143 yX9_cannotNudge ∈ zw := List.mem_filter.mpr ⟨zt_7 _ (List.mem_of_getElem? (i := 238) rfl), rfl⟩
theorem zm441 : Cond.instanceMethod yX9_cannotNudge ∈ zw := List.mem_filter.mpr ⟨zt_8 _ (List.mem_of_getElem? (i := 0) rfl), rfl⟩
theorem zm442 : Cond.selects RX9 yX9_cannotNudge yX9_cannotNudge ∈ zw := List.mem_filter.mpr ⟨zp_3 (⟨"PinballScorerModel", "cannotNudge", "(I)I"⟩, 20) (List.mem_of_getElem? (i := 11) rfl), rfl⟩
theorem zm443 : Cond.code yX9_cannotNudge cX9_cannotNudge 2 (some .int) ∈ zw := List.mem_filter.mpr ⟨zt_8 _ (List.mem_of_getElem? (i := 1) rfl), rfl⟩
theorem zm444 : Cond.methodLink RX9 146 yX9_nudges ∈ zw := List.mem_filter.mpr ⟨zt_8 _ (List.mem_of_getElem? (i := 2) rfl), rfl⟩
theorem zm445 : Cond.instanceMethod yX9_nudges ∈ zw := List.mem_filter.mpr ⟨zt_8 _ (List.mem_of_getElem? (i := 4) rfl), rfl⟩
theorem zm446 : Cond.selects RX9 yX9_nudges yX9_nudges ∈ zw := List.mem_filter.mpr ⟨zp_3 (⟨"PinballScorerModel", "nudges", "(I)I"⟩, 20) (List.mem_of_getElem? (i := 12) rfl), rfl⟩
theorem zm447 : Cond.code yX9_nudges cX9_nudges 2 (some .int) ∈ zw := List.mem_filter.mpr ⟨zt_8 _ (List.mem_of_getElem? (i := 5) rfl), rfl⟩
theorem zm448 : Cond.methodLink RL 189 yL_drain ∈ zw := List.mem_filter.mpr ⟨zt_5 _ (List.mem_of_getElem? (i := 26) rfl), rfl⟩
theorem zm449 : Cond.static yL_drain ∈ zw := List.mem_filter.mpr ⟨zt_5 _ (List.mem_of_getElem? (i := 27) rfl), rfl⟩
theorem zm450 : Cond.codeWith yL_drain cL_drain 3 (some .int) [(0, 8, 11, 13)] ∈ zw := List.mem_filter.mpr ⟨zt_5 _ (List.mem_of_getElem? (i := 28) rfl), rfl⟩
theorem zm451 : Cond.methodLink RL 37 yX8_drain ∈ zw := List.mem_filter.mpr ⟨zt_5 _ (List.mem_of_getElem? (i := 29) rfl), rfl⟩
theorem zm452 : Cond.instanceMethod yX8_drain ∈ zw := List.mem_filter.mpr ⟨zt_5 _ (List.mem_of_getElem? (i := 30) rfl), rfl⟩
theorem zm453 : Cond.selects RX8 yX8_drain yX8_drain ∈ zw := List.mem_filter.mpr ⟨zt_5 _ (List.mem_of_getElem? (i := 31) rfl), rfl⟩
theorem zm454 : Cond.code yX8_drain cX8_drain 1 (some .int) ∈ zw := List.mem_filter.mpr ⟨zt_5 _ (List.mem_of_getElem? (i := 32) rfl), rfl⟩
theorem zm455 : Cond.methodLink RX8 113 yX6_loseBall ∈ zw := List.mem_filter.mpr ⟨zt_5 _ (List.mem_of_getElem? (i := 33) rfl), rfl⟩
theorem zm456 : Cond.instanceMethod yX6_loseBall ∈ zw := List.mem_filter.mpr ⟨zt_5 _ (List.mem_of_getElem? (i := 34) rfl), rfl⟩
theorem zm457 : Cond.selects RX6 yX6_loseBall yX6_loseBall ∈ zw := List.mem_filter.mpr ⟨zt_5 _ (List.mem_of_getElem? (i := 35) rfl), rfl⟩
theorem zm458 : Cond.code yX6_loseBall cX6_loseBall 2 (some .int) ∈ zw := List.mem_filter.mpr ⟨zt_5 _ (List.mem_of_getElem? (i := 36) rfl), rfl⟩
theorem zm459 : Cond.fieldLink RX6 112 "PinballScorer$Ball" "saved" "Z" ∈ zw := List.mem_filter.mpr ⟨zt_1 _ (List.mem_of_getElem? (i := 77) rfl), rfl⟩
theorem zm460 : Cond.fieldLink RX6 119 "PinballScorer$Totals" "drainedBalls" "I" ∈ zw := List.mem_filter.mpr ⟨zt_1 _ (List.mem_of_getElem? (i := 139) rfl), rfl⟩
theorem zm461 : Cond.methodLink RX6 108 yX1_canBeSaved ∈ zw := List.mem_filter.mpr ⟨zt_5 _ (List.mem_of_getElem? (i := 37) rfl), rfl⟩
theorem zm462 : Cond.instanceMethod yX1_canBeSaved ∈ zw := List.mem_filter.mpr ⟨zt_5 _ (List.mem_of_getElem? (i := 38) rfl), rfl⟩
theorem zm463 : Cond.selects RX1 yX1_canBeSaved yX1_canBeSaved ∈ zw := List.mem_filter.mpr ⟨zt_5 _ (List.mem_of_getElem? (i := 39) rfl), rfl⟩
theorem zm464 : Cond.code yX1_canBeSaved cX1_canBeSaved 1 (some .boolean) ∈ zw := List.mem_filter.mpr ⟨zt_5 _ (List.mem_of_getElem? (i := 40) rfl), rfl⟩
theorem zm465 : Cond.methodLink RX6 115 yX1_bonusPoints ∈ zw := List.mem_filter.mpr ⟨zt_5 _ (List.mem_of_getElem? (i := 41) rfl), rfl⟩
theorem zm466 : Cond.instanceMethod yX1_bonusPoints ∈ zw := List.mem_filter.mpr ⟨zt_5 _ (List.mem_of_getElem? (i := 42) rfl), rfl⟩
theorem zm467 : Cond.selects RX1 yX1_bonusPoints yX1_bonusPoints ∈ zw := List.mem_filter.mpr ⟨zt_5 _ (List.mem_of_getElem? (i := 43) rfl), rfl⟩
theorem zm468 : Cond.code yX1_bonusPoints cX1_bonusPoints 1 (some .int) ∈ zw := List.mem_filter.mpr ⟨zt_5 _ (List.mem_of_getElem? (i := 44) rfl), rfl⟩
theorem zm469 : Cond.methodLink RX6 122 yX6_beginNextBall ∈ zw := List.mem_filter.mpr ⟨zt_5 _ (List.mem_of_getElem? (i := 45) rfl), rfl⟩
theorem zm470 : Cond.instanceMethod yX6_beginNextBall ∈ zw := List.mem_filter.mpr ⟨zt_5 _ (List.mem_of_getElem? (i := 47) rfl), rfl⟩
theorem zm471 : Cond.selects RX6 yX6_beginNextBall yX6_beginNextBall ∈ zw := List.mem_filter.mpr ⟨zp_1 (⟨"PinballScorer$Table", "beginNextBall", "()V"⟩, 10) (List.mem_of_getElem? (i := 10) rfl), rfl⟩
theorem zm472 : Cond.code yX6_beginNextBall cX6_beginNextBall 2 none ∈ zw := List.mem_filter.mpr ⟨zt_5 _ (List.mem_of_getElem? (i := 48) rfl), rfl⟩
theorem zm473 : Cond.methodLink RX6 141 yX6_playerAfterLastBall ∈ zw := List.mem_filter.mpr ⟨zt_5 _ (List.mem_of_getElem? (i := 49) rfl), rfl⟩
theorem zm474 : Cond.instanceMethod yX6_playerAfterLastBall ∈ zw := List.mem_filter.mpr ⟨zt_5 _ (List.mem_of_getElem? (i := 51) rfl), rfl⟩
theorem zm475 : Cond.selects RX6 yX6_playerAfterLastBall yX6_playerAfterLastBall ∈ zw := List.mem_filter.mpr ⟨zp_1 (⟨"PinballScorer$Table", "playerAfterLastBall", "()I"⟩, 10) (List.mem_of_getElem? (i := 11) rfl), rfl⟩
theorem zm476 : Cond.code yX6_playerAfterLastBall cX6_playerAfterLastBall 1 (some .int) ∈ zw := List.mem_filter.mpr ⟨zt_5 _ (List.mem_of_getElem? (i := 52) rfl), rfl⟩
theorem zm477 : Cond.methodLink RX6 144 yX6_finishGame ∈ zw := List.mem_filter.mpr ⟨zt_5 _ (List.mem_of_getElem? (i := 53) rfl), rfl⟩
theorem zm478 : Cond.instanceMethod yX6_finishGame ∈ zw := List.mem_filter.mpr ⟨zt_5 _ (List.mem_of_getElem? (i := 55) rfl), rfl⟩
theorem zm479 : Cond.selects RX6 yX6_finishGame yX6_finishGame ∈ zw := List.mem_filter.mpr ⟨zp_1 (⟨"PinballScorer$Table", "finishGame", "()V"⟩, 10) (List.mem_of_getElem? (i := 12) rfl), rfl⟩
theorem zm480 : Cond.code yX6_finishGame cX6_finishGame 2 none ∈ zw := List.mem_filter.mpr ⟨zt_5 _ (List.mem_of_getElem? (i := 56) rfl), rfl⟩
theorem zm481 : Cond.methodLink RX6 147 yX4_enter ∈ zw := List.mem_filter.mpr ⟨zt_5 _ (List.mem_of_getElem? (i := 57) rfl), rfl⟩
theorem zm482 : Cond.instanceMethod yX4_enter ∈ zw := List.mem_filter.mpr ⟨zt_5 _ (List.mem_of_getElem? (i := 58) rfl), rfl⟩
theorem zm483 : Cond.selects RX4 yX4_enter yX4_enter ∈ zw := List.mem_filter.mpr ⟨zt_5 _ (List.mem_of_getElem? (i := 59) rfl), rfl⟩
theorem zm484 : Cond.code yX4_enter cX4_enter 6 none ∈ zw := List.mem_filter.mpr ⟨zt_5 _ (List.mem_of_getElem? (i := 60) rfl), rfl⟩
theorem zm485 : Cond.methodLink RX4 31 Lib.Math.min.name ∈ zw := List.mem_filter.mpr ⟨zt_5 _ (List.mem_of_getElem? (i := 61) rfl), rfl⟩
theorem zm486 : Cond.methodLink RL 191 yX9_drain ∈ zw := List.mem_filter.mpr ⟨zt_8 _ (List.mem_of_getElem? (i := 6) rfl), rfl⟩
theorem zm487 : Cond.instanceMethod yX9_drain ∈ zw := List.mem_filter.mpr ⟨zt_8 _ (List.mem_of_getElem? (i := 7) rfl), rfl⟩
theorem zm488 : Cond.selects RX9 yX9_drain yX9_drain ∈ zw := List.mem_filter.mpr ⟨zt_8 _ (List.mem_of_getElem? (i := 8) rfl), rfl⟩
theorem zm489 : Cond.code yX9_drain cX9_drain 1 (some .int) ∈ zw := List.mem_filter.mpr ⟨zt_8 _ (List.mem_of_getElem? (i := 9) rfl), rfl⟩
theorem zm490 : Cond.methodLink RX9 162 yX9_drains ∈ zw := List.mem_filter.mpr ⟨zt_8 _ (List.mem_of_getElem? (i := 10) rfl), rfl⟩
theorem zm491 : Cond.instanceMethod yX9_drains ∈ zw := List.mem_filter.mpr ⟨zt_8 _ (List.mem_of_getElem? (i := 12) rfl), rfl⟩
theorem zm492 : Cond.selects RX9 yX9_drains yX9_drains ∈ zw := List.mem_filter.mpr ⟨zp_3 (⟨"PinballScorerModel", "drains", "()I"⟩, 20) (List.mem_of_getElem? (i := 13) rfl), rfl⟩
theorem zm493 : Cond.code yX9_drains cX9_drains 2 (some .int) ∈ zw := List.mem_filter.mpr ⟨zt_8 _ (List.mem_of_getElem? (i := 13) rfl), rfl⟩
theorem zm494 : Cond.methodLink RX9 156 yX9_isSaver ∈ zw := List.mem_filter.mpr ⟨zt_8 _ (List.mem_of_getElem? (i := 14) rfl), rfl⟩
theorem zm495 : Cond.instanceMethod yX9_isSaver ∈ zw := List.mem_filter.mpr ⟨zt_8 _ (List.mem_of_getElem? (i := 16) rfl), rfl⟩
theorem zm496 : Cond.selects RX9 yX9_isSaver yX9_isSaver ∈ zw := List.mem_filter.mpr ⟨zp_3 (⟨"PinballScorerModel", "isSaver", "()Z"⟩, 20) (List.mem_of_getElem? (i := 14) rfl), rfl⟩
theorem zm497 : Cond.code yX9_isSaver cX9_isSaver 1 (some .boolean) ∈ zw := List.mem_filter.mpr ⟨zt_8 _ (List.mem_of_getElem? (i := 17) rfl), rfl⟩
theorem zm498 : Cond.methodLink RX9 159 yX9_follows ∈ zw := List.mem_filter.mpr ⟨zt_8 _ (List.mem_of_getElem? (i := 18) rfl), rfl⟩
theorem zm499 : Cond.instanceMethod yX9_follows ∈ zw := List.mem_filter.mpr ⟨zt_8 _ (List.mem_of_getElem? (i := 20) rfl), rfl⟩
theorem zm500 : Cond.selects RX9 yX9_follows yX9_follows ∈ zw := List.mem_filter.mpr ⟨zp_3 (⟨"PinballScorerModel", "follows", "()V"⟩, 20) (List.mem_of_getElem? (i := 15) rfl), rfl⟩
theorem zm501 : Cond.code yX9_follows cX9_follows 4 none ∈ zw := List.mem_filter.mpr ⟨zt_8 _ (List.mem_of_getElem? (i := 21) rfl), rfl⟩
theorem zm502 : Cond.methodLink RX9 153 yX9_enters ∈ zw := List.mem_filter.mpr ⟨zt_8 _ (List.mem_of_getElem? (i := 22) rfl), rfl⟩
theorem zm503 : Cond.instanceMethod yX9_enters ∈ zw := List.mem_filter.mpr ⟨zt_8 _ (List.mem_of_getElem? (i := 24) rfl), rfl⟩
theorem zm504 : Cond.selects RX9 yX9_enters yX9_enters ∈ zw := List.mem_filter.mpr ⟨zp_4 (⟨"PinballScorerModel", "enters", "(I)V"⟩, 20) (List.mem_of_getElem? (i := 0) rfl), rfl⟩
theorem zm505 : Cond.code yX9_enters cX9_enters 5 none ∈ zw := List.mem_filter.mpr ⟨zt_8 _ (List.mem_of_getElem? (i := 25) rfl), rfl⟩
theorem zm506 : Cond.methodLink RX9 149 yX9_putsRecord ∈ zw := List.mem_filter.mpr ⟨zt_8 _ (List.mem_of_getElem? (i := 26) rfl), rfl⟩
theorem zm507 : Cond.instanceMethod yX9_putsRecord ∈ zw := List.mem_filter.mpr ⟨zt_8 _ (List.mem_of_getElem? (i := 28) rfl), rfl⟩
theorem zm508 : Cond.selects RX9 yX9_putsRecord yX9_putsRecord ∈ zw := List.mem_filter.mpr ⟨zp_4 (⟨"PinballScorerModel", "putsRecord", "(II)V"⟩, 20) (List.mem_of_getElem? (i := 1) rfl), rfl⟩
theorem zm509 : Cond.code yX9_putsRecord cX9_putsRecord 4 none ∈ zw := List.mem_filter.mpr ⟨zt_8 _ (List.mem_of_getElem? (i := 29) rfl), rfl⟩
theorem zm510 : Cond.methodLink RL 192 yL_quitGame ∈ zw := List.mem_filter.mpr ⟨zt_5 _ (List.mem_of_getElem? (i := 62) rfl), rfl⟩
theorem zm511 : Cond.static yL_quitGame ∈ zw := List.mem_filter.mpr ⟨zt_5 _ (List.mem_of_getElem? (i := 63) rfl), rfl⟩
theorem zm512 : Cond.codeWith yL_quitGame cL_quitGame 3 (some .int) [(0, 8, 11, 13)] ∈ zw := List.mem_filter.mpr ⟨zt_5 _ (List.mem_of_getElem? (i := 64) rfl), rfl⟩
theorem zm513 : Cond.methodLink RL 40 yX8_quitGame ∈ zw := List.mem_filter.mpr ⟨zt_5 _ (List.mem_of_getElem? (i := 65) rfl), rfl⟩
theorem zm514 : Cond.instanceMethod yX8_quitGame ∈ zw := List.mem_filter.mpr ⟨zt_5 _ (List.mem_of_getElem? (i := 66) rfl), rfl⟩
theorem zm515 : Cond.selects RX8 yX8_quitGame yX8_quitGame ∈ zw := List.mem_filter.mpr ⟨zt_5 _ (List.mem_of_getElem? (i := 67) rfl), rfl⟩
theorem zm516 : Cond.code yX8_quitGame cX8_quitGame 1 (some .int) ∈ zw := List.mem_filter.mpr ⟨zt_5 _ (List.mem_of_getElem? (i := 68) rfl), rfl⟩
theorem zm517 : Cond.methodLink RX8 116 yX6_breakOff ∈ zw := List.mem_filter.mpr ⟨zt_5 _ (List.mem_of_getElem? (i := 69) rfl), rfl⟩
theorem zm518 : Cond.instanceMethod yX6_breakOff ∈ zw := List.mem_filter.mpr ⟨zt_5 _ (List.mem_of_getElem? (i := 70) rfl), rfl⟩
theorem zm519 : Cond.selects RX6 yX6_breakOff yX6_breakOff ∈ zw := List.mem_filter.mpr ⟨zt_5 _ (List.mem_of_getElem? (i := 71) rfl), rfl⟩
theorem zm520 : Cond.code yX6_breakOff cX6_breakOff 1 (some .int) ∈ zw := List.mem_filter.mpr ⟨zt_5 _ (List.mem_of_getElem? (i := 72) rfl), rfl⟩
theorem zm521 : Cond.methodLink RL 194 yX9_quitGame ∈ zw := List.mem_filter.mpr ⟨zt_7 _ (List.mem_of_getElem? (i := 175) rfl), rfl⟩
theorem zm522 : Cond.instanceMethod yX9_quitGame ∈ zw := List.mem_filter.mpr ⟨zt_7 _ (List.mem_of_getElem? (i := 176) rfl), rfl⟩
theorem zm523 : Cond.selects RX9 yX9_quitGame yX9_quitGame ∈ zw := List.mem_filter.mpr ⟨zt_7 _ (List.mem_of_getElem? (i := 177) rfl), rfl⟩
theorem zm524 : Cond.code yX9_quitGame cX9_quitGame 1 (some .int) ∈ zw := List.mem_filter.mpr ⟨zt_7 _ (List.mem_of_getElem? (i := 178) rfl), rfl⟩
theorem zm525 : Cond.methodLink RX9 106 yX9_quits ∈ zw := List.mem_filter.mpr ⟨zt_7 _ (List.mem_of_getElem? (i := 179) rfl), rfl⟩
theorem zm526 : Cond.instanceMethod yX9_quits ∈ zw := List.mem_filter.mpr ⟨zt_7 _ (List.mem_of_getElem? (i := 181) rfl), rfl⟩
theorem zm527 : Cond.selects RX9 yX9_quits yX9_quits ∈ zw := List.mem_filter.mpr ⟨zp_3 (⟨"PinballScorerModel", "quits", "()I"⟩, 20) (List.mem_of_getElem? (i := 1) rfl), rfl⟩
theorem zm528 : Cond.code yX9_quits cX9_quits 1 (some .int) ∈ zw := List.mem_filter.mpr ⟨zt_7 _ (List.mem_of_getElem? (i := 182) rfl), rfl⟩
theorem zm529 : Cond.methodLink RL 195 yX8_isRunning ∈ zw := List.mem_filter.mpr ⟨zt_2 _ (List.mem_of_getElem? (i := 76) rfl), rfl⟩
theorem zm530 : Cond.instanceMethod yX8_isRunning ∈ zw := List.mem_filter.mpr ⟨zt_2 _ (List.mem_of_getElem? (i := 77) rfl), rfl⟩
theorem zm531 : Cond.selects RX8 yX8_isRunning yX8_isRunning ∈ zw := List.mem_filter.mpr ⟨zt_2 _ (List.mem_of_getElem? (i := 78) rfl), rfl⟩
theorem zm532 : Cond.code yX8_isRunning cX8_isRunning 1 (some .boolean) ∈ zw := List.mem_filter.mpr ⟨zt_2 _ (List.mem_of_getElem? (i := 79) rfl), rfl⟩
theorem zm533 : Cond.methodLink RL 198 yX9_isRunning ∈ zw := List.mem_filter.mpr ⟨zt_8 _ (List.mem_of_getElem? (i := 30) rfl), rfl⟩
theorem zm534 : Cond.instanceMethod yX9_isRunning ∈ zw := List.mem_filter.mpr ⟨zt_8 _ (List.mem_of_getElem? (i := 31) rfl), rfl⟩
theorem zm535 : Cond.selects RX9 yX9_isRunning yX9_isRunning ∈ zw := List.mem_filter.mpr ⟨zt_8 _ (List.mem_of_getElem? (i := 32) rfl), rfl⟩
theorem zm536 : Cond.code yX9_isRunning cX9_isRunning 1 (some .boolean) ∈ zw := List.mem_filter.mpr ⟨zt_8 _ (List.mem_of_getElem? (i := 33) rfl), rfl⟩
theorem zm537 : Cond.methodLink RX9 165 yX9_plain ∈ zw := List.mem_filter.mpr ⟨zt_8 _ (List.mem_of_getElem? (i := 34) rfl), rfl⟩
theorem zm538 : Cond.instanceMethod yX9_plain ∈ zw := List.mem_filter.mpr ⟨zt_8 _ (List.mem_of_getElem? (i := 36) rfl), rfl⟩
theorem zm539 : Cond.selects RX9 yX9_plain yX9_plain ∈ zw := List.mem_filter.mpr ⟨zp_4 (⟨"PinballScorerModel", "plain", "(I)I"⟩, 20) (List.mem_of_getElem? (i := 2) rfl), rfl⟩
theorem zm540 : Cond.code yX9_plain cX9_plain 2 (some .int) ∈ zw := List.mem_filter.mpr ⟨zt_8 _ (List.mem_of_getElem? (i := 37) rfl), rfl⟩
theorem zm541 : Cond.methodLink RL 199 yX8_gameCount ∈ zw := List.mem_filter.mpr ⟨zt_2 _ (List.mem_of_getElem? (i := 80) rfl), rfl⟩
theorem zm542 : Cond.instanceMethod yX8_gameCount ∈ zw := List.mem_filter.mpr ⟨zt_2 _ (List.mem_of_getElem? (i := 81) rfl), rfl⟩
theorem zm543 : Cond.selects RX8 yX8_gameCount yX8_gameCount ∈ zw := List.mem_filter.mpr ⟨zt_2 _ (List.mem_of_getElem? (i := 82) rfl), rfl⟩
theorem zm544 : Cond.code yX8_gameCount cX8_gameCount 1 (some .int) ∈ zw := List.mem_filter.mpr ⟨zt_2 _ (List.mem_of_getElem? (i := 83) rfl), rfl⟩
theorem zm545 : Cond.fieldLink RX8 119 "PinballScorer$Table" "gameCount" "I" ∈ zw := List.mem_filter.mpr ⟨zt_1 _ (List.mem_of_getElem? (i := 162) rfl), rfl⟩
theorem zm546 : Cond.methodLink RL 202 yX9_gameCount ∈ zw := List.mem_filter.mpr ⟨zt_8 _ (List.mem_of_getElem? (i := 38) rfl), rfl⟩
theorem zm547 : Cond.instanceMethod yX9_gameCount ∈ zw := List.mem_filter.mpr ⟨zt_8 _ (List.mem_of_getElem? (i := 39) rfl), rfl⟩
theorem zm548 : Cond.selects RX9 yX9_gameCount yX9_gameCount ∈ zw := List.mem_filter.mpr ⟨zt_8 _ (List.mem_of_getElem? (i := 40) rfl), rfl⟩
theorem zm549 : Cond.code yX9_gameCount cX9_gameCount 1 (some .int) ∈ zw := List.mem_filter.mpr ⟨zt_8 _ (List.mem_of_getElem? (i := 41) rfl), rfl⟩
theorem zm550 : Cond.methodLink RL 203 yX8_playerCount ∈ zw := List.mem_filter.mpr ⟨zt_2 _ (List.mem_of_getElem? (i := 84) rfl), rfl⟩
theorem zm551 : Cond.instanceMethod yX8_playerCount ∈ zw := List.mem_filter.mpr ⟨zt_2 _ (List.mem_of_getElem? (i := 85) rfl), rfl⟩
theorem zm552 : Cond.selects RX8 yX8_playerCount yX8_playerCount ∈ zw := List.mem_filter.mpr ⟨zt_2 _ (List.mem_of_getElem? (i := 86) rfl), rfl⟩
theorem zm553 : Cond.code yX8_playerCount cX8_playerCount 1 (some .int) ∈ zw := List.mem_filter.mpr ⟨zt_2 _ (List.mem_of_getElem? (i := 87) rfl), rfl⟩
theorem zm554 : Cond.methodLink RL 206 yX9_playerCount ∈ zw := List.mem_filter.mpr ⟨zt_8 _ (List.mem_of_getElem? (i := 42) rfl), rfl⟩
theorem zm555 : Cond.instanceMethod yX9_playerCount ∈ zw := List.mem_filter.mpr ⟨zt_8 _ (List.mem_of_getElem? (i := 43) rfl), rfl⟩
theorem zm556 : Cond.selects RX9 yX9_playerCount yX9_playerCount ∈ zw := List.mem_filter.mpr ⟨zt_8 _ (List.mem_of_getElem? (i := 44) rfl), rfl⟩
theorem zm557 : Cond.code yX9_playerCount cX9_playerCount 1 (some .int) ∈ zw := List.mem_filter.mpr ⟨zt_8 _ (List.mem_of_getElem? (i := 45) rfl), rfl⟩
theorem zm558 : Cond.methodLink RL 207 yL_currentPlayer ∈ zw := List.mem_filter.mpr ⟨zt_5 _ (List.mem_of_getElem? (i := 73) rfl), rfl⟩
theorem zm559 : Cond.static yL_currentPlayer ∈ zw := List.mem_filter.mpr ⟨zt_5 _ (List.mem_of_getElem? (i := 74) rfl), rfl⟩
theorem zm560 : Cond.codeWith yL_currentPlayer cL_currentPlayer 3 (some .int) [(0, 8, 11, 13)] ∈ zw := List.mem_filter.mpr ⟨zt_5 _ (List.mem_of_getElem? (i := 75) rfl), rfl⟩
theorem zm561 : Cond.methodLink RL 43 yX8_currentPlayer ∈ zw := List.mem_filter.mpr ⟨zt_5 _ (List.mem_of_getElem? (i := 76) rfl), rfl⟩
theorem zm562 : Cond.instanceMethod yX8_currentPlayer ∈ zw := List.mem_filter.mpr ⟨zt_5 _ (List.mem_of_getElem? (i := 77) rfl), rfl⟩
theorem zm563 : Cond.selects RX8 yX8_currentPlayer yX8_currentPlayer ∈ zw := List.mem_filter.mpr ⟨zt_5 _ (List.mem_of_getElem? (i := 78) rfl), rfl⟩
theorem zm564 : Cond.code yX8_currentPlayer cX8_currentPlayer 1 (some .int) ∈ zw := List.mem_filter.mpr ⟨zt_5 _ (List.mem_of_getElem? (i := 79) rfl), rfl⟩
theorem zm565 : Cond.fieldLink RX8 122 "PinballScorer$Table" "currentPlayer" "I" ∈ zw := List.mem_filter.mpr ⟨zt_1 _ (List.mem_of_getElem? (i := 164) rfl), rfl⟩
theorem zm566 : Cond.methodLink RL 209 yX9_currentPlayer ∈ zw := List.mem_filter.mpr ⟨zt_8 _ (List.mem_of_getElem? (i := 46) rfl), rfl⟩
theorem zm567 : Cond.instanceMethod yX9_currentPlayer ∈ zw := List.mem_filter.mpr ⟨zt_8 _ (List.mem_of_getElem? (i := 47) rfl), rfl⟩
theorem zm568 : Cond.selects RX9 yX9_currentPlayer yX9_currentPlayer ∈ zw := List.mem_filter.mpr ⟨zt_8 _ (List.mem_of_getElem? (i := 48) rfl), rfl⟩
theorem zm569 : Cond.code yX9_currentPlayer cX9_currentPlayer 1 (some .int) ∈ zw := List.mem_filter.mpr ⟨zt_8 _ (List.mem_of_getElem? (i := 49) rfl), rfl⟩
theorem zm570 : Cond.methodLink RX9 168 yX9_running ∈ zw := List.mem_filter.mpr ⟨zt_8 _ (List.mem_of_getElem? (i := 50) rfl), rfl⟩
theorem zm571 : Cond.instanceMethod yX9_running ∈ zw := List.mem_filter.mpr ⟨zt_8 _ (List.mem_of_getElem? (i := 52) rfl), rfl⟩
theorem zm572 : Cond.selects RX9 yX9_running yX9_running ∈ zw := List.mem_filter.mpr ⟨zp_4 (⟨"PinballScorerModel", "running", "(I)I"⟩, 20) (List.mem_of_getElem? (i := 3) rfl), rfl⟩
theorem zm573 : Cond.code yX9_running cX9_running 2 (some .int) ∈ zw := List.mem_filter.mpr ⟨zt_8 _ (List.mem_of_getElem? (i := 53) rfl), rfl⟩
theorem zm574 : Cond.methodLink RL 210 yL_ballNumber ∈ zw := List.mem_filter.mpr ⟨zt_5 _ (List.mem_of_getElem? (i := 80) rfl), rfl⟩
theorem zm575 : Cond.static yL_ballNumber ∈ zw := List.mem_filter.mpr ⟨zt_5 _ (List.mem_of_getElem? (i := 81) rfl), rfl⟩
theorem zm576 : Cond.codeWith yL_ballNumber cL_ballNumber 3 (some .int) [(0, 8, 11, 13)] ∈ zw := List.mem_filter.mpr ⟨zt_5 _ (List.mem_of_getElem? (i := 82) rfl), rfl⟩
theorem zm577 : Cond.methodLink RL 46 yX8_ballNumber ∈ zw := List.mem_filter.mpr ⟨zt_5 _ (List.mem_of_getElem? (i := 83) rfl), rfl⟩
theorem zm578 : Cond.instanceMethod yX8_ballNumber ∈ zw := List.mem_filter.mpr ⟨zt_5 _ (List.mem_of_getElem? (i := 84) rfl), rfl⟩
theorem zm579 : Cond.selects RX8 yX8_ballNumber yX8_ballNumber ∈ zw := List.mem_filter.mpr ⟨zt_5 _ (List.mem_of_getElem? (i := 85) rfl), rfl⟩
theorem zm580 : Cond.code yX8_ballNumber cX8_ballNumber 1 (some .int) ∈ zw := List.mem_filter.mpr ⟨zt_5 _ (List.mem_of_getElem? (i := 86) rfl), rfl⟩
theorem zm581 : Cond.fieldLink RX8 125 "PinballScorer$Table" "ballNumber" "I" ∈ zw := List.mem_filter.mpr ⟨zt_1 _ (List.mem_of_getElem? (i := 166) rfl), rfl⟩
theorem zm582 : Cond.methodLink RL 212 yX9_ballNumber ∈ zw := List.mem_filter.mpr ⟨zt_8 _ (List.mem_of_getElem? (i := 54) rfl), rfl⟩
theorem zm583 : Cond.instanceMethod yX9_ballNumber ∈ zw := List.mem_filter.mpr ⟨zt_8 _ (List.mem_of_getElem? (i := 55) rfl), rfl⟩
theorem zm584 : Cond.selects RX9 yX9_ballNumber yX9_ballNumber ∈ zw := List.mem_filter.mpr ⟨zt_8 _ (List.mem_of_getElem? (i := 56) rfl), rfl⟩
theorem zm585 : Cond.code yX9_ballNumber cX9_ballNumber 1 (some .int) ∈ zw := List.mem_filter.mpr ⟨zt_8 _ (List.mem_of_getElem? (i := 57) rfl), rfl⟩
theorem zm586 : Cond.methodLink RL 213 yL_score ∈ zw := List.mem_filter.mpr ⟨zt_5 _ (List.mem_of_getElem? (i := 87) rfl), rfl⟩
theorem zm587 : Cond.static yL_score ∈ zw := List.mem_filter.mpr ⟨zt_5 _ (List.mem_of_getElem? (i := 88) rfl), rfl⟩
theorem zm588 : Cond.codeWith yL_score cL_score 4 (some .int) [(0, 9, 12, 24)] ∈ zw := List.mem_filter.mpr ⟨zt_5 _ (List.mem_of_getElem? (i := 89) rfl), rfl⟩
theorem zm589 : Cond.methodLink RL 49 yX8_score ∈ zw := List.mem_filter.mpr ⟨zt_5 _ (List.mem_of_getElem? (i := 90) rfl), rfl⟩
theorem zm590 : Cond.instanceMethod yX8_score ∈ zw := List.mem_filter.mpr ⟨zt_5 _ (List.mem_of_getElem? (i := 91) rfl), rfl⟩
theorem zm591 : Cond.selects RX8 yX8_score yX8_score ∈ zw := List.mem_filter.mpr ⟨zt_5 _ (List.mem_of_getElem? (i := 92) rfl), rfl⟩
theorem zm592 : Cond.code yX8_score cX8_score 2 (some .int) ∈ zw := List.mem_filter.mpr ⟨zt_5 _ (List.mem_of_getElem? (i := 93) rfl), rfl⟩
theorem zm593 : Cond.fieldLink RX8 128 "PinballScorer$Table" "scores" "[I" ∈ zw := List.mem_filter.mpr ⟨zt_1 _ (List.mem_of_getElem? (i := 156) rfl), rfl⟩
theorem zm594 : Cond.methodLink RL 215 yX9_score ∈ zw := List.mem_filter.mpr ⟨zt_8 _ (List.mem_of_getElem? (i := 58) rfl), rfl⟩
theorem zm595 : Cond.instanceMethod yX9_score ∈ zw := List.mem_filter.mpr ⟨zt_8 _ (List.mem_of_getElem? (i := 59) rfl), rfl⟩
theorem zm596 : Cond.selects RX9 yX9_score yX9_score ∈ zw := List.mem_filter.mpr ⟨zt_8 _ (List.mem_of_getElem? (i := 60) rfl), rfl⟩
theorem zm597 : Cond.code yX9_score cX9_score 2 (some .int) ∈ zw := List.mem_filter.mpr ⟨zt_8 _ (List.mem_of_getElem? (i := 61) rfl), rfl⟩
theorem zm598 : Cond.methodLink RX9 171 yX9_ofPlayer ∈ zw := List.mem_filter.mpr ⟨zt_8 _ (List.mem_of_getElem? (i := 62) rfl), rfl⟩
theorem zm599 : Cond.instanceMethod yX9_ofPlayer ∈ zw := List.mem_filter.mpr ⟨zt_8 _ (List.mem_of_getElem? (i := 64) rfl), rfl⟩
theorem zm600 : Cond.selects RX9 yX9_ofPlayer yX9_ofPlayer ∈ zw := List.mem_filter.mpr ⟨zp_4 (⟨"PinballScorerModel", "ofPlayer", "(II)I"⟩, 20) (List.mem_of_getElem? (i := 4) rfl), rfl⟩
theorem zm601 : Cond.code yX9_ofPlayer cX9_ofPlayer 3 (some .int) ∈ zw := List.mem_filter.mpr ⟨zt_8 _ (List.mem_of_getElem? (i := 65) rfl), rfl⟩
theorem zm602 : Cond.methodLink RL 216 yL_extraBalls ∈ zw := List.mem_filter.mpr ⟨zt_5 _ (List.mem_of_getElem? (i := 94) rfl), rfl⟩
theorem zm603 : Cond.static yL_extraBalls ∈ zw := List.mem_filter.mpr ⟨zt_5 _ (List.mem_of_getElem? (i := 95) rfl), rfl⟩
theorem zm604 : Cond.codeWith yL_extraBalls cL_extraBalls 4 (some .int) [(0, 9, 12, 24)] ∈ zw := List.mem_filter.mpr ⟨zt_5 _ (List.mem_of_getElem? (i := 96) rfl), rfl⟩
theorem zm605 : Cond.methodLink RL 52 yX8_extraBalls ∈ zw := List.mem_filter.mpr ⟨zt_5 _ (List.mem_of_getElem? (i := 97) rfl), rfl⟩
theorem zm606 : Cond.instanceMethod yX8_extraBalls ∈ zw := List.mem_filter.mpr ⟨zt_5 _ (List.mem_of_getElem? (i := 98) rfl), rfl⟩
theorem zm607 : Cond.selects RX8 yX8_extraBalls yX8_extraBalls ∈ zw := List.mem_filter.mpr ⟨zt_5 _ (List.mem_of_getElem? (i := 99) rfl), rfl⟩
theorem zm608 : Cond.code yX8_extraBalls cX8_extraBalls 2 (some .int) ∈ zw := List.mem_filter.mpr ⟨zt_5 _ (List.mem_of_getElem? (i := 100) rfl), rfl⟩
theorem zm609 : Cond.fieldLink RX8 132 "PinballScorer$Table" "extraBalls" "[I" ∈ zw := List.mem_filter.mpr ⟨zt_1 _ (List.mem_of_getElem? (i := 158) rfl), rfl⟩
theorem zm610 : Cond.methodLink RL 218 yX9_extraBalls ∈ zw := List.mem_filter.mpr ⟨zt_8 _ (List.mem_of_getElem? (i := 66) rfl), rfl⟩
theorem zm611 : Cond.instanceMethod yX9_extraBalls ∈ zw := List.mem_filter.mpr ⟨zt_8 _ (List.mem_of_getElem? (i := 67) rfl), rfl⟩
theorem zm612 : Cond.selects RX9 yX9_extraBalls yX9_extraBalls ∈ zw := List.mem_filter.mpr ⟨zt_8 _ (List.mem_of_getElem? (i := 68) rfl), rfl⟩
theorem zm613 : Cond.code yX9_extraBalls cX9_extraBalls 2 (some .int) ∈ zw := List.mem_filter.mpr ⟨zt_8 _ (List.mem_of_getElem? (i := 69) rfl), rfl⟩
theorem zm614 : Cond.methodLink RL 219 yL_playerAtRank ∈ zw := List.mem_filter.mpr ⟨zt_5 _ (List.mem_of_getElem? (i := 101) rfl), rfl⟩
theorem zm615 : Cond.static yL_playerAtRank ∈ zw := List.mem_filter.mpr ⟨zt_5 _ (List.mem_of_getElem? (i := 102) rfl), rfl⟩
theorem zm616 : Cond.codeWith yL_playerAtRank cL_playerAtRank 4 (some .int) [(0, 9, 12, 18)] ∈ zw := List.mem_filter.mpr ⟨zt_5 _ (List.mem_of_getElem? (i := 103) rfl), rfl⟩
theorem zm617 : Cond.classLink RL 18 "java/util/NoSuchElementException" ∈ zw := List.mem_filter.mpr ⟨zt_4 _ (List.mem_of_getElem? (i := 135) rfl), rfl⟩
theorem zm618 : Cond.methodLink RL 55 yX8_playerAtRank ∈ zw := List.mem_filter.mpr ⟨zt_5 _ (List.mem_of_getElem? (i := 104) rfl), rfl⟩
theorem zm619 : Cond.instanceMethod yX8_playerAtRank ∈ zw := List.mem_filter.mpr ⟨zt_5 _ (List.mem_of_getElem? (i := 105) rfl), rfl⟩
theorem zm620 : Cond.selects RX8 yX8_playerAtRank yX8_playerAtRank ∈ zw := List.mem_filter.mpr ⟨zt_5 _ (List.mem_of_getElem? (i := 106) rfl), rfl⟩
theorem zm621 : Cond.code yX8_playerAtRank cX8_playerAtRank 3 (some .int) ∈ zw := List.mem_filter.mpr ⟨zt_5 _ (List.mem_of_getElem? (i := 107) rfl), rfl⟩
theorem zm622 : Cond.methodLink RX8 135 yX6_playerRanked ∈ zw := List.mem_filter.mpr ⟨zt_5 _ (List.mem_of_getElem? (i := 108) rfl), rfl⟩
theorem zm623 : Cond.instanceMethod yX6_playerRanked ∈ zw := List.mem_filter.mpr ⟨zt_5 _ (List.mem_of_getElem? (i := 109) rfl), rfl⟩
theorem zm624 : Cond.selects RX6 yX6_playerRanked yX6_playerRanked ∈ zw := List.mem_filter.mpr ⟨zt_5 _ (List.mem_of_getElem? (i := 110) rfl), rfl⟩
theorem zm625 : Cond.code yX6_playerRanked cX6_playerRanked 3 (some .int) ∈ zw := List.mem_filter.mpr ⟨zt_5 _ (List.mem_of_getElem? (i := 111) rfl), rfl⟩
theorem zm626 : Cond.methodLink RX6 151 yX6_rankOf ∈ zw := List.mem_filter.mpr ⟨zt_5 _ (List.mem_of_getElem? (i := 112) rfl), rfl⟩
theorem zm627 : Cond.instanceMethod yX6_rankOf ∈ zw := List.mem_filter.mpr ⟨zt_5 _ (List.mem_of_getElem? (i := 114) rfl), rfl⟩
theorem zm628 : Cond.selects RX6 yX6_rankOf yX6_rankOf ∈ zw := List.mem_filter.mpr ⟨zp_1 (⟨"PinballScorer$Table", "rankOf", "(I)I"⟩, 10) (List.mem_of_getElem? (i := 13) rfl), rfl⟩
theorem zm629 : Cond.code yX6_rankOf cX6_rankOf 4 (some .int) ∈ zw := List.mem_filter.mpr ⟨zt_5 _ (List.mem_of_getElem? (i := 115) rfl), rfl⟩
theorem zm630 : Cond.methodLink RX6 154 yX6_isAhead ∈ zw := List.mem_filter.mpr ⟨zt_5 _ (List.mem_of_getElem? (i := 116) rfl), rfl⟩
theorem zm631 : Cond.instanceMethod yX6_isAhead ∈ zw := List.mem_filter.mpr ⟨zt_5 _ (List.mem_of_getElem? (i := 118) rfl), rfl⟩
theorem zm632 : Cond.selects RX6 yX6_isAhead yX6_isAhead ∈ zw := List.mem_filter.mpr ⟨zp_1 (⟨"PinballScorer$Table", "isAhead", "(II)Z"⟩, 10) (List.mem_of_getElem? (i := 14) rfl), rfl⟩
theorem zm633 : Cond.code yX6_isAhead cX6_isAhead 3 (some .boolean) ∈ zw := List.mem_filter.mpr ⟨zt_5 _ (List.mem_of_getElem? (i := 119) rfl), rfl⟩
theorem zm634 : Cond.methodLink RL 221 yX9_playerAtRank ∈ zw := List.mem_filter.mpr ⟨zt_8 _ (List.mem_of_getElem? (i := 70) rfl), rfl⟩
theorem zm635 : Cond.instanceMethod yX9_playerAtRank ∈ zw := List.mem_filter.mpr ⟨zt_8 _ (List.mem_of_getElem? (i := 71) rfl), rfl⟩
theorem zm636 : Cond.selects RX9 yX9_playerAtRank yX9_playerAtRank ∈ zw := List.mem_filter.mpr ⟨zt_8 _ (List.mem_of_getElem? (i := 72) rfl), rfl⟩
theorem zm637 : Cond.code yX9_playerAtRank cX9_playerAtRank 5 (some .int) ∈ zw := List.mem_filter.mpr ⟨zt_8 _ (List.mem_of_getElem? (i := 73) rfl), rfl⟩
theorem zm638 : Cond.methodLink RX9 174 yX9_isAhead ∈ zw := List.mem_filter.mpr ⟨zt_8 _ (List.mem_of_getElem? (i := 74) rfl), rfl⟩
theorem zm639 : Cond.instanceMethod yX9_isAhead ∈ zw := List.mem_filter.mpr ⟨zt_8 _ (List.mem_of_getElem? (i := 76) rfl), rfl⟩
theorem zm640 : Cond.selects RX9 yX9_isAhead yX9_isAhead ∈ zw := List.mem_filter.mpr ⟨zp_4 (⟨"PinballScorerModel", "isAhead", "(II)Z"⟩, 20) (List.mem_of_getElem? (i := 5) rfl), rfl⟩
theorem zm641 : Cond.code yX9_isAhead cX9_isAhead 3 (some .boolean) ∈ zw := List.mem_filter.mpr ⟨zt_8 _ (List.mem_of_getElem? (i := 77) rfl), rfl⟩
theorem zm642 : Cond.methodLink RL 222 yL_multiplier ∈ zw := List.mem_filter.mpr ⟨zt_5 _ (List.mem_of_getElem? (i := 121) rfl), rfl⟩
theorem zm643 : Cond.static yL_multiplier ∈ zw := List.mem_filter.mpr ⟨zt_5 _ (List.mem_of_getElem? (i := 122) rfl), rfl⟩
theorem zm644 : Cond.codeWith yL_multiplier cL_multiplier 3 (some .int) [(0, 8, 11, 13)] ∈ zw := List.mem_filter.mpr ⟨zt_5 _ (List.mem_of_getElem? (i := 123) rfl), rfl⟩
theorem zm645 : Cond.methodLink RL 58 yX8_multiplier ∈ zw := List.mem_filter.mpr ⟨zt_5 _ (List.mem_of_getElem? (i := 124) rfl), rfl⟩
theorem zm646 : Cond.instanceMethod yX8_multiplier ∈ zw := List.mem_filter.mpr ⟨zt_5 _ (List.mem_of_getElem? (i := 125) rfl), rfl⟩
theorem zm647 : Cond.selects RX8 yX8_multiplier yX8_multiplier ∈ zw := List.mem_filter.mpr ⟨zt_5 _ (List.mem_of_getElem? (i := 126) rfl), rfl⟩
theorem zm648 : Cond.code yX8_multiplier cX8_multiplier 1 (some .int) ∈ zw := List.mem_filter.mpr ⟨zt_5 _ (List.mem_of_getElem? (i := 127) rfl), rfl⟩
theorem zm649 : Cond.fieldLink RX8 140 "PinballScorer$Table" "ball" "LPinballScorer$Ball;" ∈ zw := List.mem_filter.mpr ⟨zt_1 _ (List.mem_of_getElem? (i := 168) rfl), rfl⟩
theorem zm650 : Cond.fieldLink RX8 143 "PinballScorer$Ball" "multiplier" "I" ∈ zw := List.mem_filter.mpr ⟨zt_1 _ (List.mem_of_getElem? (i := 54) rfl), rfl⟩
theorem zm651 : Cond.methodLink RL 224 yX9_multiplier ∈ zw := List.mem_filter.mpr ⟨zt_8 _ (List.mem_of_getElem? (i := 78) rfl), rfl⟩
theorem zm652 : Cond.instanceMethod yX9_multiplier ∈ zw := List.mem_filter.mpr ⟨zt_8 _ (List.mem_of_getElem? (i := 79) rfl), rfl⟩
theorem zm653 : Cond.selects RX9 yX9_multiplier yX9_multiplier ∈ zw := List.mem_filter.mpr ⟨zt_8 _ (List.mem_of_getElem? (i := 80) rfl), rfl⟩
theorem zm654 : Cond.code yX9_multiplier cX9_multiplier 1 (some .int) ∈ zw := List.mem_filter.mpr ⟨zt_8 _ (List.mem_of_getElem? (i := 81) rfl), rfl⟩
theorem zm655 : Cond.methodLink RL 225 yL_isLit ∈ zw := List.mem_filter.mpr ⟨zt_5 _ (List.mem_of_getElem? (i := 128) rfl), rfl⟩
theorem zm656 : Cond.static yL_isLit ∈ zw := List.mem_filter.mpr ⟨zt_5 _ (List.mem_of_getElem? (i := 129) rfl), rfl⟩
theorem zm657 : Cond.codeWith yL_isLit cL_isLit 4 (some .int) [(0, 16, 19, 24), (0, 16, 22, 13)] ∈ zw := List.mem_filter.mpr ⟨zt_5 _ (List.mem_of_getElem? (i := 130) rfl), rfl⟩
theorem zm658 : Cond.methodLink RL 61 yX8_isLit ∈ zw := List.mem_filter.mpr ⟨zt_5 _ (List.mem_of_getElem? (i := 131) rfl), rfl⟩
theorem zm659 : Cond.instanceMethod yX8_isLit ∈ zw := List.mem_filter.mpr ⟨zt_5 _ (List.mem_of_getElem? (i := 132) rfl), rfl⟩
theorem zm660 : Cond.selects RX8 yX8_isLit yX8_isLit ∈ zw := List.mem_filter.mpr ⟨zt_5 _ (List.mem_of_getElem? (i := 133) rfl), rfl⟩
theorem zm661 : Cond.code yX8_isLit cX8_isLit 2 (some .boolean) ∈ zw := List.mem_filter.mpr ⟨zt_5 _ (List.mem_of_getElem? (i := 134) rfl), rfl⟩
theorem zm662 : Cond.fieldLink RX8 146 "PinballScorer$Ball" "lit" "[Z" ∈ zw := List.mem_filter.mpr ⟨zt_1 _ (List.mem_of_getElem? (i := 56) rfl), rfl⟩
theorem zm663 : Cond.methodLink RL 227 yX9_isLit ∈ zw := List.mem_filter.mpr ⟨zt_8 _ (List.mem_of_getElem? (i := 82) rfl), rfl⟩
theorem zm664 : Cond.instanceMethod yX9_isLit ∈ zw := List.mem_filter.mpr ⟨zt_8 _ (List.mem_of_getElem? (i := 83) rfl), rfl⟩
theorem zm665 : Cond.selects RX9 yX9_isLit yX9_isLit ∈ zw := List.mem_filter.mpr ⟨zt_8 _ (List.mem_of_getElem? (i := 84) rfl), rfl⟩
theorem zm666 : Cond.code yX9_isLit cX9_isLit 2 (some .boolean) ∈ zw := List.mem_filter.mpr ⟨zt_8 _ (List.mem_of_getElem? (i := 85) rfl), rfl⟩
theorem zm667 : Cond.methodLink RX9 177 yX9_part ∈ zw := List.mem_filter.mpr ⟨zt_8 _ (List.mem_of_getElem? (i := 86) rfl), rfl⟩
theorem zm668 : Cond.instanceMethod yX9_part ∈ zw := List.mem_filter.mpr ⟨zt_8 _ (List.mem_of_getElem? (i := 88) rfl), rfl⟩
theorem zm669 : Cond.selects RX9 yX9_part yX9_part ∈ zw := List.mem_filter.mpr ⟨zp_4 (⟨"PinballScorerModel", "part", "(III)I"⟩, 20) (List.mem_of_getElem? (i := 6) rfl), rfl⟩
theorem zm670 : Cond.code yX9_part cX9_part 4 (some .int) ∈ zw := List.mem_filter.mpr ⟨zt_8 _ (List.mem_of_getElem? (i := 89) rfl), rfl⟩
theorem zm671 : Cond.methodLink RL 228 yL_bumperValue ∈ zw := List.mem_filter.mpr ⟨zt_5 _ (List.mem_of_getElem? (i := 135) rfl), rfl⟩
theorem zm672 : Cond.static yL_bumperValue ∈ zw := List.mem_filter.mpr ⟨zt_5 _ (List.mem_of_getElem? (i := 136) rfl), rfl⟩
theorem zm673 : Cond.codeWith yL_bumperValue cL_bumperValue 4 (some .int) [(0, 9, 12, 24), (0, 9, 15, 13)] ∈ zw := List.mem_filter.mpr ⟨zt_5 _ (List.mem_of_getElem? (i := 137) rfl), rfl⟩
theorem zm674 : Cond.methodLink RL 65 yX8_bumperValue ∈ zw := List.mem_filter.mpr ⟨zt_5 _ (List.mem_of_getElem? (i := 138) rfl), rfl⟩
theorem zm675 : Cond.instanceMethod yX8_bumperValue ∈ zw := List.mem_filter.mpr ⟨zt_5 _ (List.mem_of_getElem? (i := 139) rfl), rfl⟩
theorem zm676 : Cond.selects RX8 yX8_bumperValue yX8_bumperValue ∈ zw := List.mem_filter.mpr ⟨zt_5 _ (List.mem_of_getElem? (i := 140) rfl), rfl⟩
theorem zm677 : Cond.code yX8_bumperValue cX8_bumperValue 2 (some .int) ∈ zw := List.mem_filter.mpr ⟨zt_5 _ (List.mem_of_getElem? (i := 141) rfl), rfl⟩
theorem zm678 : Cond.fieldLink RX8 150 "PinballScorer$Ball" "bumperValues" "[I" ∈ zw := List.mem_filter.mpr ⟨zt_1 _ (List.mem_of_getElem? (i := 58) rfl), rfl⟩
theorem zm679 : Cond.methodLink RL 230 yX9_bumperValue ∈ zw := List.mem_filter.mpr ⟨zt_8 _ (List.mem_of_getElem? (i := 90) rfl), rfl⟩
theorem zm680 : Cond.instanceMethod yX9_bumperValue ∈ zw := List.mem_filter.mpr ⟨zt_8 _ (List.mem_of_getElem? (i := 91) rfl), rfl⟩
theorem zm681 : Cond.selects RX9 yX9_bumperValue yX9_bumperValue ∈ zw := List.mem_filter.mpr ⟨zt_8 _ (List.mem_of_getElem? (i := 92) rfl), rfl⟩
theorem zm682 : Cond.code yX9_bumperValue cX9_bumperValue 2 (some .int) ∈ zw := List.mem_filter.mpr ⟨zt_8 _ (List.mem_of_getElem? (i := 93) rfl), rfl⟩
theorem zm683 : Cond.methodLink RL 231 yL_isDown ∈ zw := List.mem_filter.mpr ⟨zt_5 _ (List.mem_of_getElem? (i := 142) rfl), rfl⟩
theorem zm684 : Cond.static yL_isDown ∈ zw := List.mem_filter.mpr ⟨zt_5 _ (List.mem_of_getElem? (i := 143) rfl), rfl⟩
theorem zm685 : Cond.codeWith yL_isDown cL_isDown 4 (some .int) [(0, 16, 19, 24), (0, 16, 22, 13)] ∈ zw := List.mem_filter.mpr ⟨zt_5 _ (List.mem_of_getElem? (i := 144) rfl), rfl⟩
theorem zm686 : Cond.methodLink RL 68 yX8_isDown ∈ zw := List.mem_filter.mpr ⟨zt_5 _ (List.mem_of_getElem? (i := 145) rfl), rfl⟩
theorem zm687 : Cond.instanceMethod yX8_isDown ∈ zw := List.mem_filter.mpr ⟨zt_5 _ (List.mem_of_getElem? (i := 146) rfl), rfl⟩
theorem zm688 : Cond.selects RX8 yX8_isDown yX8_isDown ∈ zw := List.mem_filter.mpr ⟨zt_5 _ (List.mem_of_getElem? (i := 147) rfl), rfl⟩
theorem zm689 : Cond.code yX8_isDown cX8_isDown 2 (some .boolean) ∈ zw := List.mem_filter.mpr ⟨zt_5 _ (List.mem_of_getElem? (i := 148) rfl), rfl⟩
theorem zm690 : Cond.fieldLink RX8 153 "PinballScorer$Ball" "down" "[Z" ∈ zw := List.mem_filter.mpr ⟨zt_1 _ (List.mem_of_getElem? (i := 60) rfl), rfl⟩
theorem zm691 : Cond.methodLink RL 233 yX9_isDown ∈ zw := List.mem_filter.mpr ⟨zt_8 _ (List.mem_of_getElem? (i := 94) rfl), rfl⟩
theorem zm692 : Cond.instanceMethod yX9_isDown ∈ zw := List.mem_filter.mpr ⟨zt_8 _ (List.mem_of_getElem? (i := 95) rfl), rfl⟩
theorem zm693 : Cond.selects RX9 yX9_isDown yX9_isDown ∈ zw := List.mem_filter.mpr ⟨zt_8 _ (List.mem_of_getElem? (i := 96) rfl), rfl⟩
theorem zm694 : Cond.code yX9_isDown cX9_isDown 2 (some .boolean) ∈ zw := List.mem_filter.mpr ⟨zt_8 _ (List.mem_of_getElem? (i := 97) rfl), rfl⟩
theorem zm695 : Cond.methodLink RL 234 yL_completedBanks ∈ zw := List.mem_filter.mpr ⟨zt_5 _ (List.mem_of_getElem? (i := 149) rfl), rfl⟩
theorem zm696 : Cond.static yL_completedBanks ∈ zw := List.mem_filter.mpr ⟨zt_5 _ (List.mem_of_getElem? (i := 150) rfl), rfl⟩
theorem zm697 : Cond.codeWith yL_completedBanks cL_completedBanks 3 (some .int) [(0, 8, 11, 13)] ∈ zw := List.mem_filter.mpr ⟨zt_5 _ (List.mem_of_getElem? (i := 151) rfl), rfl⟩
theorem zm698 : Cond.methodLink RL 71 yX8_completedBanks ∈ zw := List.mem_filter.mpr ⟨zt_5 _ (List.mem_of_getElem? (i := 152) rfl), rfl⟩
theorem zm699 : Cond.instanceMethod yX8_completedBanks ∈ zw := List.mem_filter.mpr ⟨zt_5 _ (List.mem_of_getElem? (i := 153) rfl), rfl⟩
theorem zm700 : Cond.selects RX8 yX8_completedBanks yX8_completedBanks ∈ zw := List.mem_filter.mpr ⟨zt_5 _ (List.mem_of_getElem? (i := 154) rfl), rfl⟩
theorem zm701 : Cond.code yX8_completedBanks cX8_completedBanks 1 (some .int) ∈ zw := List.mem_filter.mpr ⟨zt_5 _ (List.mem_of_getElem? (i := 155) rfl), rfl⟩
theorem zm702 : Cond.fieldLink RX8 156 "PinballScorer$Ball" "completedBanks" "I" ∈ zw := List.mem_filter.mpr ⟨zt_1 _ (List.mem_of_getElem? (i := 63) rfl), rfl⟩
theorem zm703 : Cond.methodLink RL 236 yX9_completedBanks ∈ zw := List.mem_filter.mpr ⟨zt_8 _ (List.mem_of_getElem? (i := 98) rfl), rfl⟩
theorem zm704 : Cond.instanceMethod yX9_completedBanks ∈ zw := List.mem_filter.mpr ⟨zt_8 _ (List.mem_of_getElem? (i := 99) rfl), rfl⟩
theorem zm705 : Cond.selects RX9 yX9_completedBanks yX9_completedBanks ∈ zw := List.mem_filter.mpr ⟨zt_8 _ (List.mem_of_getElem? (i := 100) rfl), rfl⟩
theorem zm706 : Cond.code yX9_completedBanks cX9_completedBanks 1 (some .int) ∈ zw := List.mem_filter.mpr ⟨zt_8 _ (List.mem_of_getElem? (i := 101) rfl), rfl⟩
theorem zm707 : Cond.methodLink RL 237 yL_bonusUnits ∈ zw := List.mem_filter.mpr ⟨zt_5 _ (List.mem_of_getElem? (i := 156) rfl), rfl⟩
theorem zm708 : Cond.static yL_bonusUnits ∈ zw := List.mem_filter.mpr ⟨zt_5 _ (List.mem_of_getElem? (i := 157) rfl), rfl⟩
theorem zm709 : Cond.codeWith yL_bonusUnits cL_bonusUnits 3 (some .int) [(0, 8, 11, 13)] ∈ zw := List.mem_filter.mpr ⟨zt_5 _ (List.mem_of_getElem? (i := 158) rfl), rfl⟩
theorem zm710 : Cond.methodLink RL 74 yX8_bonusUnits ∈ zw := List.mem_filter.mpr ⟨zt_5 _ (List.mem_of_getElem? (i := 159) rfl), rfl⟩
theorem zm711 : Cond.instanceMethod yX8_bonusUnits ∈ zw := List.mem_filter.mpr ⟨zt_5 _ (List.mem_of_getElem? (i := 160) rfl), rfl⟩
theorem zm712 : Cond.selects RX8 yX8_bonusUnits yX8_bonusUnits ∈ zw := List.mem_filter.mpr ⟨zt_5 _ (List.mem_of_getElem? (i := 161) rfl), rfl⟩
theorem zm713 : Cond.code yX8_bonusUnits cX8_bonusUnits 1 (some .int) ∈ zw := List.mem_filter.mpr ⟨zt_5 _ (List.mem_of_getElem? (i := 162) rfl), rfl⟩
theorem zm714 : Cond.fieldLink RX8 159 "PinballScorer$Ball" "bonusUnits" "I" ∈ zw := List.mem_filter.mpr ⟨zt_1 _ (List.mem_of_getElem? (i := 65) rfl), rfl⟩
theorem zm715 : Cond.methodLink RL 239 yX9_bonusUnits ∈ zw := List.mem_filter.mpr ⟨zt_8 _ (List.mem_of_getElem? (i := 102) rfl), rfl⟩
theorem zm716 : Cond.instanceMethod yX9_bonusUnits ∈ zw := List.mem_filter.mpr ⟨zt_8 _ (List.mem_of_getElem? (i := 103) rfl), rfl⟩
theorem zm717 : Cond.selects RX9 yX9_bonusUnits yX9_bonusUnits ∈ zw := List.mem_filter.mpr ⟨zt_8 _ (List.mem_of_getElem? (i := 104) rfl), rfl⟩
theorem zm718 : Cond.code yX9_bonusUnits cX9_bonusUnits 1 (some .int) ∈ zw := List.mem_filter.mpr ⟨zt_8 _ (List.mem_of_getElem? (i := 105) rfl), rfl⟩
theorem zm719 : Cond.methodLink RL 240 yL_tiltMeter ∈ zw := List.mem_filter.mpr ⟨zt_5 _ (List.mem_of_getElem? (i := 163) rfl), rfl⟩
theorem zm720 : Cond.static yL_tiltMeter ∈ zw := List.mem_filter.mpr ⟨zt_5 _ (List.mem_of_getElem? (i := 164) rfl), rfl⟩
theorem zm721 : Cond.codeWith yL_tiltMeter cL_tiltMeter 3 (some .int) [(0, 8, 11, 13)] ∈ zw := List.mem_filter.mpr ⟨zt_5 _ (List.mem_of_getElem? (i := 165) rfl), rfl⟩
theorem zm722 : Cond.methodLink RL 77 yX8_tiltMeter ∈ zw := List.mem_filter.mpr ⟨zt_5 _ (List.mem_of_getElem? (i := 166) rfl), rfl⟩
theorem zm723 : Cond.instanceMethod yX8_tiltMeter ∈ zw := List.mem_filter.mpr ⟨zt_5 _ (List.mem_of_getElem? (i := 167) rfl), rfl⟩
theorem zm724 : Cond.selects RX8 yX8_tiltMeter yX8_tiltMeter ∈ zw := List.mem_filter.mpr ⟨zt_5 _ (List.mem_of_getElem? (i := 168) rfl), rfl⟩
theorem zm725 : Cond.code yX8_tiltMeter cX8_tiltMeter 1 (some .int) ∈ zw := List.mem_filter.mpr ⟨zt_5 _ (List.mem_of_getElem? (i := 169) rfl), rfl⟩
theorem zm726 : Cond.fieldLink RX8 162 "PinballScorer$Ball" "tiltMeter" "I" ∈ zw := List.mem_filter.mpr ⟨zt_1 _ (List.mem_of_getElem? (i := 67) rfl), rfl⟩
theorem zm727 : Cond.methodLink RL 242 yX9_tiltMeter ∈ zw := List.mem_filter.mpr ⟨zt_8 _ (List.mem_of_getElem? (i := 106) rfl), rfl⟩
theorem zm728 : Cond.instanceMethod yX9_tiltMeter ∈ zw := List.mem_filter.mpr ⟨zt_8 _ (List.mem_of_getElem? (i := 107) rfl), rfl⟩
theorem zm729 : Cond.selects RX9 yX9_tiltMeter yX9_tiltMeter ∈ zw := List.mem_filter.mpr ⟨zt_8 _ (List.mem_of_getElem? (i := 108) rfl), rfl⟩
theorem zm730 : Cond.code yX9_tiltMeter cX9_tiltMeter 1 (some .int) ∈ zw := List.mem_filter.mpr ⟨zt_8 _ (List.mem_of_getElem? (i := 109) rfl), rfl⟩
theorem zm731 : Cond.methodLink RL 243 yL_warnings ∈ zw := List.mem_filter.mpr ⟨zt_5 _ (List.mem_of_getElem? (i := 170) rfl), rfl⟩
theorem zm732 : Cond.static yL_warnings ∈ zw := List.mem_filter.mpr ⟨zt_5 _ (List.mem_of_getElem? (i := 171) rfl), rfl⟩
theorem zm733 : Cond.codeWith yL_warnings cL_warnings 3 (some .int) [(0, 8, 11, 13)] ∈ zw := List.mem_filter.mpr ⟨zt_5 _ (List.mem_of_getElem? (i := 172) rfl), rfl⟩
theorem zm734 : Cond.methodLink RL 80 yX8_warnings ∈ zw := List.mem_filter.mpr ⟨zt_5 _ (List.mem_of_getElem? (i := 173) rfl), rfl⟩
theorem zm735 : Cond.instanceMethod yX8_warnings ∈ zw := List.mem_filter.mpr ⟨zt_5 _ (List.mem_of_getElem? (i := 174) rfl), rfl⟩
theorem zm736 : Cond.selects RX8 yX8_warnings yX8_warnings ∈ zw := List.mem_filter.mpr ⟨zt_5 _ (List.mem_of_getElem? (i := 175) rfl), rfl⟩
theorem zm737 : Cond.code yX8_warnings cX8_warnings 1 (some .int) ∈ zw := List.mem_filter.mpr ⟨zt_5 _ (List.mem_of_getElem? (i := 176) rfl), rfl⟩
theorem zm738 : Cond.fieldLink RX8 165 "PinballScorer$Ball" "warnings" "I" ∈ zw := List.mem_filter.mpr ⟨zt_1 _ (List.mem_of_getElem? (i := 70) rfl), rfl⟩
theorem zm739 : Cond.methodLink RL 245 yX9_warnings ∈ zw := List.mem_filter.mpr ⟨zt_8 _ (List.mem_of_getElem? (i := 110) rfl), rfl⟩
theorem zm740 : Cond.instanceMethod yX9_warnings ∈ zw := List.mem_filter.mpr ⟨zt_8 _ (List.mem_of_getElem? (i := 111) rfl), rfl⟩
theorem zm741 : Cond.selects RX9 yX9_warnings yX9_warnings ∈ zw := List.mem_filter.mpr ⟨zt_8 _ (List.mem_of_getElem? (i := 112) rfl), rfl⟩
theorem zm742 : Cond.code yX9_warnings cX9_warnings 1 (some .int) ∈ zw := List.mem_filter.mpr ⟨zt_8 _ (List.mem_of_getElem? (i := 113) rfl), rfl⟩
theorem zm743 : Cond.methodLink RL 246 yL_isTilted ∈ zw := List.mem_filter.mpr ⟨zt_5 _ (List.mem_of_getElem? (i := 177) rfl), rfl⟩
theorem zm744 : Cond.static yL_isTilted ∈ zw := List.mem_filter.mpr ⟨zt_5 _ (List.mem_of_getElem? (i := 178) rfl), rfl⟩
theorem zm745 : Cond.codeWith yL_isTilted cL_isTilted 3 (some .int) [(0, 15, 18, 13)] ∈ zw := List.mem_filter.mpr ⟨zt_5 _ (List.mem_of_getElem? (i := 179) rfl), rfl⟩
theorem zm746 : Cond.methodLink RL 83 yX8_isTilted ∈ zw := List.mem_filter.mpr ⟨zt_5 _ (List.mem_of_getElem? (i := 180) rfl), rfl⟩
theorem zm747 : Cond.instanceMethod yX8_isTilted ∈ zw := List.mem_filter.mpr ⟨zt_5 _ (List.mem_of_getElem? (i := 181) rfl), rfl⟩
theorem zm748 : Cond.selects RX8 yX8_isTilted yX8_isTilted ∈ zw := List.mem_filter.mpr ⟨zt_5 _ (List.mem_of_getElem? (i := 182) rfl), rfl⟩
theorem zm749 : Cond.code yX8_isTilted cX8_isTilted 1 (some .boolean) ∈ zw := List.mem_filter.mpr ⟨zt_5 _ (List.mem_of_getElem? (i := 183) rfl), rfl⟩
theorem zm750 : Cond.fieldLink RX8 168 "PinballScorer$Ball" "tilted" "Z" ∈ zw := List.mem_filter.mpr ⟨zt_1 _ (List.mem_of_getElem? (i := 75) rfl), rfl⟩
theorem zm751 : Cond.methodLink RL 248 yX9_isTilted ∈ zw := List.mem_filter.mpr ⟨zt_8 _ (List.mem_of_getElem? (i := 114) rfl), rfl⟩
theorem zm752 : Cond.instanceMethod yX9_isTilted ∈ zw := List.mem_filter.mpr ⟨zt_8 _ (List.mem_of_getElem? (i := 115) rfl), rfl⟩
theorem zm753 : Cond.selects RX9 yX9_isTilted yX9_isTilted ∈ zw := List.mem_filter.mpr ⟨zt_8 _ (List.mem_of_getElem? (i := 116) rfl), rfl⟩
theorem zm754 : Cond.code yX9_isTilted cX9_isTilted 1 (some .boolean) ∈ zw := List.mem_filter.mpr ⟨zt_8 _ (List.mem_of_getElem? (i := 117) rfl), rfl⟩
theorem zm755 : Cond.methodLink RL 249 yL_hits ∈ zw := List.mem_filter.mpr ⟨zt_5 _ (List.mem_of_getElem? (i := 184) rfl), rfl⟩
theorem zm756 : Cond.static yL_hits ∈ zw := List.mem_filter.mpr ⟨zt_5 _ (List.mem_of_getElem? (i := 185) rfl), rfl⟩
theorem zm757 : Cond.codeWith yL_hits cL_hits 3 (some .int) [(0, 8, 11, 13)] ∈ zw := List.mem_filter.mpr ⟨zt_5 _ (List.mem_of_getElem? (i := 186) rfl), rfl⟩
theorem zm758 : Cond.methodLink RL 87 yX8_hits ∈ zw := List.mem_filter.mpr ⟨zt_5 _ (List.mem_of_getElem? (i := 187) rfl), rfl⟩
theorem zm759 : Cond.instanceMethod yX8_hits ∈ zw := List.mem_filter.mpr ⟨zt_5 _ (List.mem_of_getElem? (i := 188) rfl), rfl⟩
theorem zm760 : Cond.selects RX8 yX8_hits yX8_hits ∈ zw := List.mem_filter.mpr ⟨zt_5 _ (List.mem_of_getElem? (i := 189) rfl), rfl⟩
theorem zm761 : Cond.code yX8_hits cX8_hits 1 (some .int) ∈ zw := List.mem_filter.mpr ⟨zt_5 _ (List.mem_of_getElem? (i := 190) rfl), rfl⟩
theorem zm762 : Cond.fieldLink RX8 171 "PinballScorer$Ball" "hits" "I" ∈ zw := List.mem_filter.mpr ⟨zt_1 _ (List.mem_of_getElem? (i := 72) rfl), rfl⟩
theorem zm763 : Cond.methodLink RL 251 yX9_hits ∈ zw := List.mem_filter.mpr ⟨zt_8 _ (List.mem_of_getElem? (i := 118) rfl), rfl⟩
theorem zm764 : Cond.instanceMethod yX9_hits ∈ zw := List.mem_filter.mpr ⟨zt_8 _ (List.mem_of_getElem? (i := 119) rfl), rfl⟩
theorem zm765 : Cond.selects RX9 yX9_hits yX9_hits ∈ zw := List.mem_filter.mpr ⟨zt_8 _ (List.mem_of_getElem? (i := 120) rfl), rfl⟩
theorem zm766 : Cond.code yX9_hits cX9_hits 1 (some .int) ∈ zw := List.mem_filter.mpr ⟨zt_8 _ (List.mem_of_getElem? (i := 121) rfl), rfl⟩
theorem zm767 : Cond.methodLink RL 252 yL_wouldBeSaved ∈ zw := List.mem_filter.mpr ⟨zt_5 _ (List.mem_of_getElem? (i := 191) rfl), rfl⟩
theorem zm768 : Cond.static yL_wouldBeSaved ∈ zw := List.mem_filter.mpr ⟨zt_5 _ (List.mem_of_getElem? (i := 192) rfl), rfl⟩
theorem zm769 : Cond.codeWith yL_wouldBeSaved cL_wouldBeSaved 3 (some .int) [(0, 15, 18, 13)] ∈ zw := List.mem_filter.mpr ⟨zt_5 _ (List.mem_of_getElem? (i := 193) rfl), rfl⟩
theorem zm770 : Cond.methodLink RL 90 yX8_wouldBeSaved ∈ zw := List.mem_filter.mpr ⟨zt_5 _ (List.mem_of_getElem? (i := 194) rfl), rfl⟩
theorem zm771 : Cond.instanceMethod yX8_wouldBeSaved ∈ zw := List.mem_filter.mpr ⟨zt_5 _ (List.mem_of_getElem? (i := 195) rfl), rfl⟩
theorem zm772 : Cond.selects RX8 yX8_wouldBeSaved yX8_wouldBeSaved ∈ zw := List.mem_filter.mpr ⟨zt_5 _ (List.mem_of_getElem? (i := 196) rfl), rfl⟩
theorem zm773 : Cond.code yX8_wouldBeSaved cX8_wouldBeSaved 1 (some .boolean) ∈ zw := List.mem_filter.mpr ⟨zt_5 _ (List.mem_of_getElem? (i := 197) rfl), rfl⟩
theorem zm774 : Cond.methodLink RX8 174 yX1_canBeSaved ∈ zw := List.mem_filter.mpr ⟨zt_5 _ (List.mem_of_getElem? (i := 198) rfl), rfl⟩
theorem zm775 : Cond.methodLink RL 254 yX9_wouldBeSaved ∈ zw := List.mem_filter.mpr ⟨zt_8 _ (List.mem_of_getElem? (i := 122) rfl), rfl⟩
theorem zm776 : Cond.instanceMethod yX9_wouldBeSaved ∈ zw := List.mem_filter.mpr ⟨zt_8 _ (List.mem_of_getElem? (i := 123) rfl), rfl⟩
theorem zm777 : Cond.selects RX9 yX9_wouldBeSaved yX9_wouldBeSaved ∈ zw := List.mem_filter.mpr ⟨zt_8 _ (List.mem_of_getElem? (i := 124) rfl), rfl⟩
theorem zm778 : Cond.code yX9_wouldBeSaved cX9_wouldBeSaved 1 (some .boolean) ∈ zw := List.mem_filter.mpr ⟨zt_8 _ (List.mem_of_getElem? (i := 125) rfl), rfl⟩
theorem zm779 : Cond.methodLink RL 255 yL_laneRun ∈ zw := List.mem_filter.mpr ⟨zt_5 _ (List.mem_of_getElem? (i := 199) rfl), rfl⟩
theorem zm780 : Cond.static yL_laneRun ∈ zw := List.mem_filter.mpr ⟨zt_5 _ (List.mem_of_getElem? (i := 200) rfl), rfl⟩
theorem zm781 : Cond.codeWith yL_laneRun cL_laneRun 3 (some .int) [(0, 8, 11, 13)] ∈ zw := List.mem_filter.mpr ⟨zt_5 _ (List.mem_of_getElem? (i := 201) rfl), rfl⟩
theorem zm782 : Cond.methodLink RL 93 yX8_laneRun ∈ zw := List.mem_filter.mpr ⟨zt_5 _ (List.mem_of_getElem? (i := 202) rfl), rfl⟩
theorem zm783 : Cond.instanceMethod yX8_laneRun ∈ zw := List.mem_filter.mpr ⟨zt_5 _ (List.mem_of_getElem? (i := 203) rfl), rfl⟩
theorem zm784 : Cond.selects RX8 yX8_laneRun yX8_laneRun ∈ zw := List.mem_filter.mpr ⟨zt_5 _ (List.mem_of_getElem? (i := 204) rfl), rfl⟩
theorem zm785 : Cond.code yX8_laneRun cX8_laneRun 1 (some .int) ∈ zw := List.mem_filter.mpr ⟨zt_5 _ (List.mem_of_getElem? (i := 205) rfl), rfl⟩
theorem zm786 : Cond.methodLink RX8 177 yX8_simulatedLanes ∈ zw := List.mem_filter.mpr ⟨zt_2 _ (List.mem_of_getElem? (i := 112) rfl), rfl⟩
theorem zm787 : Cond.instanceMethod yX8_simulatedLanes ∈ zw := List.mem_filter.mpr ⟨zt_2 _ (List.mem_of_getElem? (i := 114) rfl), rfl⟩
theorem zm788 : Cond.selects RX8 yX8_simulatedLanes yX8_simulatedLanes ∈ zw := List.mem_filter.mpr ⟨zp_1 (⟨"PinballScorer", "simulatedLanes", "()I"⟩, 11) (List.mem_of_getElem? (i := 1) rfl), rfl⟩
theorem zm789 : Cond.code yX8_simulatedLanes cX8_simulatedLanes 3 (some .int) ∈ zw := List.mem_filter.mpr ⟨zt_2 _ (List.mem_of_getElem? (i := 115) rfl), rfl⟩
theorem zm790 : Cond.methodLink RX8 357 yX1_copyFrom ∈ zw := List.mem_filter.mpr ⟨zt_2 _ (List.mem_of_getElem? (i := 116) rfl), rfl⟩
theorem zm791 : Cond.methodLink RX8 360 yX1_strikeLane ∈ zw := List.mem_filter.mpr ⟨zt_2 _ (List.mem_of_getElem? (i := 126) rfl), rfl⟩
theorem zm792 : Cond.methodLink RL 257 yX9_laneRun ∈ zw := List.mem_filter.mpr ⟨zt_8 _ (List.mem_of_getElem? (i := 126) rfl), rfl⟩
theorem zm793 : Cond.instanceMethod yX9_laneRun ∈ zw := List.mem_filter.mpr ⟨zt_8 _ (List.mem_of_getElem? (i := 127) rfl), rfl⟩
theorem zm794 : Cond.selects RX9 yX9_laneRun yX9_laneRun ∈ zw := List.mem_filter.mpr ⟨zt_8 _ (List.mem_of_getElem? (i := 128) rfl), rfl⟩
theorem zm795 : Cond.code yX9_laneRun cX9_laneRun 1 (some .int) ∈ zw := List.mem_filter.mpr ⟨zt_8 _ (List.mem_of_getElem? (i := 129) rfl), rfl⟩
theorem zm796 : Cond.methodLink RX9 181 yX9_lanes ∈ zw := List.mem_filter.mpr ⟨zt_8 _ (List.mem_of_getElem? (i := 130) rfl), rfl⟩
theorem zm797 : Cond.instanceMethod yX9_lanes ∈ zw := List.mem_filter.mpr ⟨zt_8 _ (List.mem_of_getElem? (i := 132) rfl), rfl⟩
theorem zm798 : Cond.selects RX9 yX9_lanes yX9_lanes ∈ zw := List.mem_filter.mpr ⟨zp_4 (⟨"PinballScorerModel", "lanes", "()I"⟩, 20) (List.mem_of_getElem? (i := 7) rfl), rfl⟩
theorem zm799 : Cond.code yX9_lanes cX9_lanes 3 (some .int) ∈ zw := List.mem_filter.mpr ⟨zt_8 _ (List.mem_of_getElem? (i := 133) rfl), rfl⟩
theorem zm800 : Cond.methodLink RL 258 yL_laneRunByCounting ∈ zw := List.mem_filter.mpr ⟨zt_5 _ (List.mem_of_getElem? (i := 206) rfl), rfl⟩
theorem zm801 : Cond.static yL_laneRunByCounting ∈ zw := List.mem_filter.mpr ⟨zt_5 _ (List.mem_of_getElem? (i := 207) rfl), rfl⟩
theorem zm802 : Cond.codeWith yL_laneRunByCounting cL_laneRunByCounting 3 (some .int) [(0, 8, 11, 13)] ∈ zw := List.mem_filter.mpr ⟨zt_5 _ (List.mem_of_getElem? (i := 208) rfl), rfl⟩
theorem zm803 : Cond.methodLink RL 96 yX8_laneRunByCounting ∈ zw := List.mem_filter.mpr ⟨zt_5 _ (List.mem_of_getElem? (i := 209) rfl), rfl⟩
theorem zm804 : Cond.instanceMethod yX8_laneRunByCounting ∈ zw := List.mem_filter.mpr ⟨zt_5 _ (List.mem_of_getElem? (i := 210) rfl), rfl⟩
theorem zm805 : Cond.selects RX8 yX8_laneRunByCounting yX8_laneRunByCounting ∈ zw := List.mem_filter.mpr ⟨zt_5 _ (List.mem_of_getElem? (i := 211) rfl), rfl⟩
theorem zm806 : Cond.code yX8_laneRunByCounting cX8_laneRunByCounting 1 (some .int) ∈ zw := List.mem_filter.mpr ⟨zt_5 _ (List.mem_of_getElem? (i := 212) rfl), rfl⟩
theorem zm807 : Cond.methodLink RX8 180 yX1_countedLanes ∈ zw := List.mem_filter.mpr ⟨zt_2 _ (List.mem_of_getElem? (i := 146) rfl), rfl⟩
theorem zm808 : Cond.instanceMethod yX1_countedLanes ∈ zw := List.mem_filter.mpr ⟨zt_2 _ (List.mem_of_getElem? (i := 147) rfl), rfl⟩
theorem zm809 : Cond.selects RX1 yX1_countedLanes yX1_countedLanes ∈ zw := List.mem_filter.mpr ⟨zt_2 _ (List.mem_of_getElem? (i := 148) rfl), rfl⟩
theorem zm810 : Cond.code yX1_countedLanes cX1_countedLanes 6 (some .int) ∈ zw := List.mem_filter.mpr ⟨zt_2 _ (List.mem_of_getElem? (i := 149) rfl), rfl⟩
theorem zm811 : Cond.methodLink RL 260 yX9_laneRunByCounting ∈ zw := List.mem_filter.mpr ⟨zt_8 _ (List.mem_of_getElem? (i := 134) rfl), rfl⟩
theorem zm812 : Cond.instanceMethod yX9_laneRunByCounting ∈ zw := List.mem_filter.mpr ⟨zt_8 _ (List.mem_of_getElem? (i := 135) rfl), rfl⟩
theorem zm813 : Cond.selects RX9 yX9_laneRunByCounting yX9_laneRunByCounting ∈ zw := List.mem_filter.mpr ⟨zt_8 _ (List.mem_of_getElem? (i := 136) rfl), rfl⟩
theorem zm814 : Cond.code yX9_laneRunByCounting cX9_laneRunByCounting 1 (some .int) ∈ zw := List.mem_filter.mpr ⟨zt_8 _ (List.mem_of_getElem? (i := 137) rfl), rfl⟩
theorem zm815 : Cond.methodLink RL 261 yL_bumperRun ∈ zw := List.mem_filter.mpr ⟨zt_5 _ (List.mem_of_getElem? (i := 213) rfl), rfl⟩
theorem zm816 : Cond.static yL_bumperRun ∈ zw := List.mem_filter.mpr ⟨zt_5 _ (List.mem_of_getElem? (i := 214) rfl), rfl⟩
theorem zm817 : Cond.codeWith yL_bumperRun cL_bumperRun 5 (some .int) [(0, 10, 13, 24), (0, 10, 17, 35), (0, 10, 21, 13)] ∈ zw := List.mem_filter.mpr ⟨zt_5 _ (List.mem_of_getElem? (i := 215) rfl), rfl⟩
theorem zm818 : Cond.methodLink RL 99 yX8_bumperRun ∈ zw := List.mem_filter.mpr ⟨zt_5 _ (List.mem_of_getElem? (i := 216) rfl), rfl⟩
theorem zm819 : Cond.instanceMethod yX8_bumperRun ∈ zw := List.mem_filter.mpr ⟨zt_5 _ (List.mem_of_getElem? (i := 217) rfl), rfl⟩
theorem zm820 : Cond.selects RX8 yX8_bumperRun yX8_bumperRun ∈ zw := List.mem_filter.mpr ⟨zt_5 _ (List.mem_of_getElem? (i := 218) rfl), rfl⟩
theorem zm821 : Cond.code yX8_bumperRun cX8_bumperRun 3 (some .int) ∈ zw := List.mem_filter.mpr ⟨zt_5 _ (List.mem_of_getElem? (i := 219) rfl), rfl⟩
theorem zm822 : Cond.methodLink RX8 183 yX8_requireBumperRun ∈ zw := List.mem_filter.mpr ⟨zt_5 _ (List.mem_of_getElem? (i := 220) rfl), rfl⟩
theorem zm823 : Cond.instanceMethod yX8_requireBumperRun ∈ zw := List.mem_filter.mpr ⟨zt_5 _ (List.mem_of_getElem? (i := 222) rfl), rfl⟩
theorem zm824 : Cond.selects RX8 yX8_requireBumperRun yX8_requireBumperRun ∈ zw := List.mem_filter.mpr ⟨zp_1 (⟨"PinballScorer", "requireBumperRun", "(II)V"⟩, 11) (List.mem_of_getElem? (i := 15) rfl), rfl⟩
theorem zm825 : Cond.code yX8_requireBumperRun cX8_requireBumperRun 3 none ∈ zw := List.mem_filter.mpr ⟨zt_5 _ (List.mem_of_getElem? (i := 223) rfl), rfl⟩
theorem zm826 : Cond.methodLink RX8 186 yX8_simulatedBumper ∈ zw := List.mem_filter.mpr ⟨zt_2 _ (List.mem_of_getElem? (i := 150) rfl), rfl⟩
theorem zm827 : Cond.instanceMethod yX8_simulatedBumper ∈ zw := List.mem_filter.mpr ⟨zt_2 _ (List.mem_of_getElem? (i := 152) rfl), rfl⟩
theorem zm828 : Cond.selects RX8 yX8_simulatedBumper yX8_simulatedBumper ∈ zw := List.mem_filter.mpr ⟨zp_1 (⟨"PinballScorer", "simulatedBumper", "(II)I"⟩, 11) (List.mem_of_getElem? (i := 3) rfl), rfl⟩
theorem zm829 : Cond.code yX8_simulatedBumper cX8_simulatedBumper 5 (some .int) ∈ zw := List.mem_filter.mpr ⟨zt_2 _ (List.mem_of_getElem? (i := 153) rfl), rfl⟩
theorem zm830 : Cond.methodLink RX8 363 yX1_strikeBumper ∈ zw := List.mem_filter.mpr ⟨zt_2 _ (List.mem_of_getElem? (i := 154) rfl), rfl⟩
theorem zm831 : Cond.methodLink RL 264 yX9_bumperRun ∈ zw := List.mem_filter.mpr ⟨zt_8 _ (List.mem_of_getElem? (i := 138) rfl), rfl⟩
theorem zm832 : Cond.instanceMethod yX9_bumperRun ∈ zw := List.mem_filter.mpr ⟨zt_8 _ (List.mem_of_getElem? (i := 139) rfl), rfl⟩
theorem zm833 : Cond.selects RX9 yX9_bumperRun yX9_bumperRun ∈ zw := List.mem_filter.mpr ⟨zt_8 _ (List.mem_of_getElem? (i := 140) rfl), rfl⟩
theorem zm834 : Cond.code yX9_bumperRun cX9_bumperRun 3 (some .int) ∈ zw := List.mem_filter.mpr ⟨zt_8 _ (List.mem_of_getElem? (i := 141) rfl), rfl⟩
theorem zm835 : Cond.methodLink RX9 184 yX9_bumpers ∈ zw := List.mem_filter.mpr ⟨zt_8 _ (List.mem_of_getElem? (i := 142) rfl), rfl⟩
theorem zm836 : Cond.instanceMethod yX9_bumpers ∈ zw := List.mem_filter.mpr ⟨zt_8 _ (List.mem_of_getElem? (i := 144) rfl), rfl⟩
theorem zm837 : Cond.selects RX9 yX9_bumpers yX9_bumpers ∈ zw := List.mem_filter.mpr ⟨zp_4 (⟨"PinballScorerModel", "bumpers", "(II)I"⟩, 20) (List.mem_of_getElem? (i := 8) rfl), rfl⟩
theorem zm838 : Cond.code yX9_bumpers cX9_bumpers 6 (some .int) ∈ zw := List.mem_filter.mpr ⟨zt_8 _ (List.mem_of_getElem? (i := 145) rfl), rfl⟩
theorem zm839 : Cond.methodLink RL 265 yL_bumperRunBySeries ∈ zw := List.mem_filter.mpr ⟨zt_5 _ (List.mem_of_getElem? (i := 225) rfl), rfl⟩
theorem zm840 : Cond.static yL_bumperRunBySeries ∈ zw := List.mem_filter.mpr ⟨zt_5 _ (List.mem_of_getElem? (i := 226) rfl), rfl⟩
theorem zm841 : Cond.codeWith yL_bumperRunBySeries cL_bumperRunBySeries 5 (some .int) [(0, 10, 13, 24), (0, 10, 17, 35), (0, 10, 21, 13)] ∈ zw := List.mem_filter.mpr ⟨zt_5 _ (List.mem_of_getElem? (i := 227) rfl), rfl⟩
theorem zm842 : Cond.methodLink RL 103 yX8_bumperRunBySeries ∈ zw := List.mem_filter.mpr ⟨zt_5 _ (List.mem_of_getElem? (i := 228) rfl), rfl⟩
theorem zm843 : Cond.instanceMethod yX8_bumperRunBySeries ∈ zw := List.mem_filter.mpr ⟨zt_5 _ (List.mem_of_getElem? (i := 229) rfl), rfl⟩
theorem zm844 : Cond.selects RX8 yX8_bumperRunBySeries yX8_bumperRunBySeries ∈ zw := List.mem_filter.mpr ⟨zt_5 _ (List.mem_of_getElem? (i := 230) rfl), rfl⟩
theorem zm845 : Cond.code yX8_bumperRunBySeries cX8_bumperRunBySeries 3 (some .int) ∈ zw := List.mem_filter.mpr ⟨zt_5 _ (List.mem_of_getElem? (i := 231) rfl), rfl⟩
theorem zm846 : Cond.methodLink RX8 190 yX1_bumperSeries ∈ zw := List.mem_filter.mpr ⟨zt_2 _ (List.mem_of_getElem? (i := 158) rfl), rfl⟩
theorem zm847 : Cond.instanceMethod yX1_bumperSeries ∈ zw := List.mem_filter.mpr ⟨zt_2 _ (List.mem_of_getElem? (i := 159) rfl), rfl⟩
theorem zm848 : Cond.selects RX1 yX1_bumperSeries yX1_bumperSeries ∈ zw := List.mem_filter.mpr ⟨zt_2 _ (List.mem_of_getElem? (i := 160) rfl), rfl⟩
theorem zm849 : Cond.code yX1_bumperSeries cX1_bumperSeries 6 (some .int) ∈ zw := List.mem_filter.mpr ⟨zt_2 _ (List.mem_of_getElem? (i := 161) rfl), rfl⟩
theorem zm850 : Cond.methodLink RL 267 yX9_bumperRunBySeries ∈ zw := List.mem_filter.mpr ⟨zt_8 _ (List.mem_of_getElem? (i := 146) rfl), rfl⟩
theorem zm851 : Cond.instanceMethod yX9_bumperRunBySeries ∈ zw := List.mem_filter.mpr ⟨zt_8 _ (List.mem_of_getElem? (i := 147) rfl), rfl⟩
theorem zm852 : Cond.selects RX9 yX9_bumperRunBySeries yX9_bumperRunBySeries ∈ zw := List.mem_filter.mpr ⟨zt_8 _ (List.mem_of_getElem? (i := 148) rfl), rfl⟩
theorem zm853 : Cond.code yX9_bumperRunBySeries cX9_bumperRunBySeries 3 (some .int) ∈ zw := List.mem_filter.mpr ⟨zt_8 _ (List.mem_of_getElem? (i := 149) rfl), rfl⟩
theorem zm854 : Cond.methodLink RL 268 yL_bonusIfDrained ∈ zw := List.mem_filter.mpr ⟨zt_5 _ (List.mem_of_getElem? (i := 232) rfl), rfl⟩
theorem zm855 : Cond.static yL_bonusIfDrained ∈ zw := List.mem_filter.mpr ⟨zt_5 _ (List.mem_of_getElem? (i := 233) rfl), rfl⟩
theorem zm856 : Cond.codeWith yL_bonusIfDrained cL_bonusIfDrained 3 (some .int) [(0, 8, 11, 13)] ∈ zw := List.mem_filter.mpr ⟨zt_5 _ (List.mem_of_getElem? (i := 234) rfl), rfl⟩
theorem zm857 : Cond.methodLink RL 106 yX8_bonusIfDrained ∈ zw := List.mem_filter.mpr ⟨zt_5 _ (List.mem_of_getElem? (i := 235) rfl), rfl⟩
theorem zm858 : Cond.instanceMethod yX8_bonusIfDrained ∈ zw := List.mem_filter.mpr ⟨zt_5 _ (List.mem_of_getElem? (i := 236) rfl), rfl⟩
theorem zm859 : Cond.selects RX8 yX8_bonusIfDrained yX8_bonusIfDrained ∈ zw := List.mem_filter.mpr ⟨zt_5 _ (List.mem_of_getElem? (i := 237) rfl), rfl⟩
theorem zm860 : Cond.code yX8_bonusIfDrained cX8_bonusIfDrained 1 (some .int) ∈ zw := List.mem_filter.mpr ⟨zt_5 _ (List.mem_of_getElem? (i := 238) rfl), rfl⟩
theorem zm861 : Cond.methodLink RX8 193 yX1_bonusPoints ∈ zw := List.mem_filter.mpr ⟨zt_5 _ (List.mem_of_getElem? (i := 239) rfl), rfl⟩
theorem zm862 : Cond.methodLink RL 270 yX9_bonusIfDrained ∈ zw := List.mem_filter.mpr ⟨zt_8 _ (List.mem_of_getElem? (i := 150) rfl), rfl⟩
theorem zm863 : Cond.instanceMethod yX9_bonusIfDrained ∈ zw := List.mem_filter.mpr ⟨zt_8 _ (List.mem_of_getElem? (i := 151) rfl), rfl⟩
theorem zm864 : Cond.selects RX9 yX9_bonusIfDrained yX9_bonusIfDrained ∈ zw := List.mem_filter.mpr ⟨zt_8 _ (List.mem_of_getElem? (i := 152) rfl), rfl⟩
theorem zm865 : Cond.code yX9_bonusIfDrained cX9_bonusIfDrained 1 (some .int) ∈ zw := List.mem_filter.mpr ⟨zt_8 _ (List.mem_of_getElem? (i := 153) rfl), rfl⟩
theorem zm866 : Cond.methodLink RL 271 yL_nextPlayer ∈ zw := List.mem_filter.mpr ⟨zt_6 _ (List.mem_of_getElem? (i := 0) rfl), rfl⟩
theorem zm867 : Cond.static yL_nextPlayer ∈ zw := List.mem_filter.mpr ⟨zt_6 _ (List.mem_of_getElem? (i := 1) rfl), rfl⟩
theorem zm868 : Cond.codeWith yL_nextPlayer cL_nextPlayer 3 (some .int) [(0, 8, 11, 13), (0, 8, 14, 18)] ∈ zw := List.mem_filter.mpr ⟨zt_6 _ (List.mem_of_getElem? (i := 2) rfl), rfl⟩
theorem zm869 : Cond.methodLink RL 109 yX8_nextPlayer ∈ zw := List.mem_filter.mpr ⟨zt_6 _ (List.mem_of_getElem? (i := 3) rfl), rfl⟩
theorem zm870 : Cond.instanceMethod yX8_nextPlayer ∈ zw := List.mem_filter.mpr ⟨zt_6 _ (List.mem_of_getElem? (i := 4) rfl), rfl⟩
theorem zm871 : Cond.selects RX8 yX8_nextPlayer yX8_nextPlayer ∈ zw := List.mem_filter.mpr ⟨zt_6 _ (List.mem_of_getElem? (i := 5) rfl), rfl⟩
theorem zm872 : Cond.code yX8_nextPlayer cX8_nextPlayer 2 (some .int) ∈ zw := List.mem_filter.mpr ⟨zt_6 _ (List.mem_of_getElem? (i := 6) rfl), rfl⟩
theorem zm873 : Cond.methodLink RX8 196 yX6_playerAfterDrain ∈ zw := List.mem_filter.mpr ⟨zt_6 _ (List.mem_of_getElem? (i := 7) rfl), rfl⟩
theorem zm874 : Cond.instanceMethod yX6_playerAfterDrain ∈ zw := List.mem_filter.mpr ⟨zt_6 _ (List.mem_of_getElem? (i := 8) rfl), rfl⟩
theorem zm875 : Cond.selects RX6 yX6_playerAfterDrain yX6_playerAfterDrain ∈ zw := List.mem_filter.mpr ⟨zt_6 _ (List.mem_of_getElem? (i := 9) rfl), rfl⟩
theorem zm876 : Cond.code yX6_playerAfterDrain cX6_playerAfterDrain 1 (some .int) ∈ zw := List.mem_filter.mpr ⟨zt_6 _ (List.mem_of_getElem? (i := 10) rfl), rfl⟩
theorem zm877 : Cond.methodLink RL 273 yX9_nextPlayer ∈ zw := List.mem_filter.mpr ⟨zt_8 _ (List.mem_of_getElem? (i := 154) rfl), rfl⟩
theorem zm878 : Cond.instanceMethod yX9_nextPlayer ∈ zw := List.mem_filter.mpr ⟨zt_8 _ (List.mem_of_getElem? (i := 155) rfl), rfl⟩
theorem zm879 : Cond.selects RX9 yX9_nextPlayer yX9_nextPlayer ∈ zw := List.mem_filter.mpr ⟨zt_8 _ (List.mem_of_getElem? (i := 156) rfl), rfl⟩
theorem zm880 : Cond.code yX9_nextPlayer cX9_nextPlayer 4 (some .int) ∈ zw := List.mem_filter.mpr ⟨zt_8 _ (List.mem_of_getElem? (i := 157) rfl), rfl⟩
theorem zm881 : Cond.methodLink RL 274 yX8_recordCount ∈ zw := List.mem_filter.mpr ⟨zt_2 _ (List.mem_of_getElem? (i := 88) rfl), rfl⟩
theorem zm882 : Cond.instanceMethod yX8_recordCount ∈ zw := List.mem_filter.mpr ⟨zt_2 _ (List.mem_of_getElem? (i := 89) rfl), rfl⟩
theorem zm883 : Cond.selects RX8 yX8_recordCount yX8_recordCount ∈ zw := List.mem_filter.mpr ⟨zt_2 _ (List.mem_of_getElem? (i := 90) rfl), rfl⟩
theorem zm884 : Cond.code yX8_recordCount cX8_recordCount 1 (some .int) ∈ zw := List.mem_filter.mpr ⟨zt_2 _ (List.mem_of_getElem? (i := 91) rfl), rfl⟩
theorem zm885 : Cond.fieldLink RX8 201 "PinballScorer$Table" "records" "LPinballScorer$Records;" ∈ zw := List.mem_filter.mpr ⟨zt_1 _ (List.mem_of_getElem? (i := 170) rfl), rfl⟩
theorem zm886 : Cond.fieldLink RX8 205 "PinballScorer$Records" "count" "I" ∈ zw := List.mem_filter.mpr ⟨zt_1 _ (List.mem_of_getElem? (i := 116) rfl), rfl⟩
theorem zm887 : Cond.methodLink RL 277 yX9_recordCount ∈ zw := List.mem_filter.mpr ⟨zt_8 _ (List.mem_of_getElem? (i := 158) rfl), rfl⟩
theorem zm888 : Cond.instanceMethod yX9_recordCount ∈ zw := List.mem_filter.mpr ⟨zt_8 _ (List.mem_of_getElem? (i := 159) rfl), rfl⟩
theorem zm889 : Cond.selects RX9 yX9_recordCount yX9_recordCount ∈ zw := List.mem_filter.mpr ⟨zt_8 _ (List.mem_of_getElem? (i := 160) rfl), rfl⟩
theorem zm890 : Cond.code yX9_recordCount cX9_recordCount 1 (some .int) ∈ zw := List.mem_filter.mpr ⟨zt_8 _ (List.mem_of_getElem? (i := 161) rfl), rfl⟩
theorem zm891 : Cond.methodLink RL 278 yL_recordScore ∈ zw := List.mem_filter.mpr ⟨zt_6 _ (List.mem_of_getElem? (i := 12) rfl), rfl⟩
theorem zm892 : Cond.static yL_recordScore ∈ zw := List.mem_filter.mpr ⟨zt_6 _ (List.mem_of_getElem? (i := 13) rfl), rfl⟩
theorem zm893 : Cond.codeWith yL_recordScore cL_recordScore 4 (some .int) [(0, 9, 12, 18)] ∈ zw := List.mem_filter.mpr ⟨zt_6 _ (List.mem_of_getElem? (i := 14) rfl), rfl⟩
theorem zm894 : Cond.methodLink RL 112 yX8_recordScore ∈ zw := List.mem_filter.mpr ⟨zt_6 _ (List.mem_of_getElem? (i := 15) rfl), rfl⟩
theorem zm895 : Cond.instanceMethod yX8_recordScore ∈ zw := List.mem_filter.mpr ⟨zt_6 _ (List.mem_of_getElem? (i := 16) rfl), rfl⟩
theorem zm896 : Cond.selects RX8 yX8_recordScore yX8_recordScore ∈ zw := List.mem_filter.mpr ⟨zt_6 _ (List.mem_of_getElem? (i := 17) rfl), rfl⟩
theorem zm897 : Cond.code yX8_recordScore cX8_recordScore 2 (some .int) ∈ zw := List.mem_filter.mpr ⟨zt_6 _ (List.mem_of_getElem? (i := 18) rfl), rfl⟩
theorem zm898 : Cond.fieldLink RX8 214 "PinballScorer$Records" "scores" "[I" ∈ zw := List.mem_filter.mpr ⟨zt_1 _ (List.mem_of_getElem? (i := 110) rfl), rfl⟩
theorem zm899 : Cond.methodLink RX8 210 yX8_requireRecord ∈ zw := List.mem_filter.mpr ⟨zt_6 _ (List.mem_of_getElem? (i := 19) rfl), rfl⟩
theorem zm900 : Cond.instanceMethod yX8_requireRecord ∈ zw := List.mem_filter.mpr ⟨zt_6 _ (List.mem_of_getElem? (i := 21) rfl), rfl⟩
theorem zm901 : Cond.selects RX8 yX8_requireRecord yX8_requireRecord ∈ zw := List.mem_filter.mpr ⟨zp_2 (⟨"PinballScorer", "requireRecord", "(I)V"⟩, 11) (List.mem_of_getElem? (i := 0) rfl), rfl⟩
theorem zm902 : Cond.code yX8_requireRecord cX8_requireRecord 2 none ∈ zw := List.mem_filter.mpr ⟨zt_6 _ (List.mem_of_getElem? (i := 22) rfl), rfl⟩
theorem zm903 : Cond.methodLink RL 280 yX9_recordScore ∈ zw := List.mem_filter.mpr ⟨zt_8 _ (List.mem_of_getElem? (i := 162) rfl), rfl⟩
theorem zm904 : Cond.instanceMethod yX9_recordScore ∈ zw := List.mem_filter.mpr ⟨zt_8 _ (List.mem_of_getElem? (i := 163) rfl), rfl⟩
theorem zm905 : Cond.selects RX9 yX9_recordScore yX9_recordScore ∈ zw := List.mem_filter.mpr ⟨zt_8 _ (List.mem_of_getElem? (i := 164) rfl), rfl⟩
theorem zm906 : Cond.code yX9_recordScore cX9_recordScore 2 (some .int) ∈ zw := List.mem_filter.mpr ⟨zt_8 _ (List.mem_of_getElem? (i := 165) rfl), rfl⟩
theorem zm907 : Cond.methodLink RX9 187 yX9_record ∈ zw := List.mem_filter.mpr ⟨zt_8 _ (List.mem_of_getElem? (i := 166) rfl), rfl⟩
theorem zm908 : Cond.instanceMethod yX9_record ∈ zw := List.mem_filter.mpr ⟨zt_8 _ (List.mem_of_getElem? (i := 168) rfl), rfl⟩
theorem zm909 : Cond.selects RX9 yX9_record yX9_record ∈ zw := List.mem_filter.mpr ⟨zp_4 (⟨"PinballScorerModel", "record", "(II)I"⟩, 20) (List.mem_of_getElem? (i := 9) rfl), rfl⟩
theorem zm910 : Cond.code yX9_record cX9_record 3 (some .int) ∈ zw := List.mem_filter.mpr ⟨zt_8 _ (List.mem_of_getElem? (i := 169) rfl), rfl⟩
theorem zm911 : Cond.methodLink RL 281 yL_recordPlayer ∈ zw := List.mem_filter.mpr ⟨zt_6 _ (List.mem_of_getElem? (i := 24) rfl), rfl⟩
theorem zm912 : Cond.static yL_recordPlayer ∈ zw := List.mem_filter.mpr ⟨zt_6 _ (List.mem_of_getElem? (i := 25) rfl), rfl⟩
theorem zm913 : Cond.codeWith yL_recordPlayer cL_recordPlayer 4 (some .int) [(0, 9, 12, 18)] ∈ zw := List.mem_filter.mpr ⟨zt_6 _ (List.mem_of_getElem? (i := 26) rfl), rfl⟩
theorem zm914 : Cond.methodLink RL 115 yX8_recordPlayer ∈ zw := List.mem_filter.mpr ⟨zt_6 _ (List.mem_of_getElem? (i := 27) rfl), rfl⟩
theorem zm915 : Cond.instanceMethod yX8_recordPlayer ∈ zw := List.mem_filter.mpr ⟨zt_6 _ (List.mem_of_getElem? (i := 28) rfl), rfl⟩
theorem zm916 : Cond.selects RX8 yX8_recordPlayer yX8_recordPlayer ∈ zw := List.mem_filter.mpr ⟨zt_6 _ (List.mem_of_getElem? (i := 29) rfl), rfl⟩
theorem zm917 : Cond.code yX8_recordPlayer cX8_recordPlayer 2 (some .int) ∈ zw := List.mem_filter.mpr ⟨zt_6 _ (List.mem_of_getElem? (i := 30) rfl), rfl⟩
theorem zm918 : Cond.fieldLink RX8 215 "PinballScorer$Records" "players" "[I" ∈ zw := List.mem_filter.mpr ⟨zt_1 _ (List.mem_of_getElem? (i := 112) rfl), rfl⟩
theorem zm919 : Cond.methodLink RL 283 yX9_recordPlayer ∈ zw := List.mem_filter.mpr ⟨zt_8 _ (List.mem_of_getElem? (i := 170) rfl), rfl⟩
theorem zm920 : Cond.instanceMethod yX9_recordPlayer ∈ zw := List.mem_filter.mpr ⟨zt_8 _ (List.mem_of_getElem? (i := 171) rfl), rfl⟩
theorem zm921 : Cond.selects RX9 yX9_recordPlayer yX9_recordPlayer ∈ zw := List.mem_filter.mpr ⟨zt_8 _ (List.mem_of_getElem? (i := 172) rfl), rfl⟩
theorem zm922 : Cond.code yX9_recordPlayer cX9_recordPlayer 2 (some .int) ∈ zw := List.mem_filter.mpr ⟨zt_8 _ (List.mem_of_getElem? (i := 173) rfl), rfl⟩
theorem zm923 : Cond.methodLink RL 284 yL_recordGame ∈ zw := List.mem_filter.mpr ⟨zt_6 _ (List.mem_of_getElem? (i := 31) rfl), rfl⟩
theorem zm924 : Cond.static yL_recordGame ∈ zw := List.mem_filter.mpr ⟨zt_6 _ (List.mem_of_getElem? (i := 32) rfl), rfl⟩
theorem zm925 : Cond.codeWith yL_recordGame cL_recordGame 4 (some .int) [(0, 9, 12, 18)] ∈ zw := List.mem_filter.mpr ⟨zt_6 _ (List.mem_of_getElem? (i := 33) rfl), rfl⟩
theorem zm926 : Cond.methodLink RL 118 yX8_recordGame ∈ zw := List.mem_filter.mpr ⟨zt_6 _ (List.mem_of_getElem? (i := 34) rfl), rfl⟩
theorem zm927 : Cond.instanceMethod yX8_recordGame ∈ zw := List.mem_filter.mpr ⟨zt_6 _ (List.mem_of_getElem? (i := 35) rfl), rfl⟩
theorem zm928 : Cond.selects RX8 yX8_recordGame yX8_recordGame ∈ zw := List.mem_filter.mpr ⟨zt_6 _ (List.mem_of_getElem? (i := 36) rfl), rfl⟩
theorem zm929 : Cond.code yX8_recordGame cX8_recordGame 2 (some .int) ∈ zw := List.mem_filter.mpr ⟨zt_6 _ (List.mem_of_getElem? (i := 37) rfl), rfl⟩
theorem zm930 : Cond.fieldLink RX8 218 "PinballScorer$Records" "games" "[I" ∈ zw := List.mem_filter.mpr ⟨zt_1 _ (List.mem_of_getElem? (i := 114) rfl), rfl⟩
theorem zm931 : Cond.methodLink RL 286 yX9_recordGame ∈ zw := List.mem_filter.mpr ⟨zt_8 _ (List.mem_of_getElem? (i := 174) rfl), rfl⟩
theorem zm932 : Cond.instanceMethod yX9_recordGame ∈ zw := List.mem_filter.mpr ⟨zt_8 _ (List.mem_of_getElem? (i := 175) rfl), rfl⟩
theorem zm933 : Cond.selects RX9 yX9_recordGame yX9_recordGame ∈ zw := List.mem_filter.mpr ⟨zt_8 _ (List.mem_of_getElem? (i := 176) rfl), rfl⟩
theorem zm934 : Cond.code yX9_recordGame cX9_recordGame 2 (some .int) ∈ zw := List.mem_filter.mpr ⟨zt_8 _ (List.mem_of_getElem? (i := 177) rfl), rfl⟩
theorem zm935 : Cond.methodLink RL 287 yX8_pointsTotal ∈ zw := List.mem_filter.mpr ⟨zt_2 _ (List.mem_of_getElem? (i := 92) rfl), rfl⟩
theorem zm936 : Cond.instanceMethod yX8_pointsTotal ∈ zw := List.mem_filter.mpr ⟨zt_2 _ (List.mem_of_getElem? (i := 93) rfl), rfl⟩
theorem zm937 : Cond.selects RX8 yX8_pointsTotal yX8_pointsTotal ∈ zw := List.mem_filter.mpr ⟨zt_2 _ (List.mem_of_getElem? (i := 94) rfl), rfl⟩
theorem zm938 : Cond.code yX8_pointsTotal cX8_pointsTotal 1 (some .int) ∈ zw := List.mem_filter.mpr ⟨zt_2 _ (List.mem_of_getElem? (i := 95) rfl), rfl⟩
theorem zm939 : Cond.fieldLink RX8 221 "PinballScorer$Table" "totals" "LPinballScorer$Totals;" ∈ zw := List.mem_filter.mpr ⟨zt_1 _ (List.mem_of_getElem? (i := 172) rfl), rfl⟩
theorem zm940 : Cond.fieldLink RX8 225 "PinballScorer$Totals" "allPoints" "I" ∈ zw := List.mem_filter.mpr ⟨zt_1 _ (List.mem_of_getElem? (i := 137) rfl), rfl⟩
theorem zm941 : Cond.methodLink RL 290 yX9_pointsTotal ∈ zw := List.mem_filter.mpr ⟨zt_8 _ (List.mem_of_getElem? (i := 178) rfl), rfl⟩
theorem zm942 : Cond.instanceMethod yX9_pointsTotal ∈ zw := List.mem_filter.mpr ⟨zt_8 _ (List.mem_of_getElem? (i := 179) rfl), rfl⟩
theorem zm943 : Cond.selects RX9 yX9_pointsTotal yX9_pointsTotal ∈ zw := List.mem_filter.mpr ⟨zt_8 _ (List.mem_of_getElem? (i := 180) rfl), rfl⟩
theorem zm944 : Cond.code yX9_pointsTotal cX9_pointsTotal 1 (some .int) ∈ zw := List.mem_filter.mpr ⟨zt_8 _ (List.mem_of_getElem? (i := 181) rfl), rfl⟩
theorem zm945 : Cond.methodLink RL 291 yL_pointsOf ∈ zw := List.mem_filter.mpr ⟨zt_6 _ (List.mem_of_getElem? (i := 38) rfl), rfl⟩
theorem zm946 : Cond.static yL_pointsOf ∈ zw := List.mem_filter.mpr ⟨zt_6 _ (List.mem_of_getElem? (i := 39) rfl), rfl⟩
theorem zm947 : Cond.codeWith yL_pointsOf cL_pointsOf 4 (some .int) [(0, 9, 12, 35)] ∈ zw := List.mem_filter.mpr ⟨zt_6 _ (List.mem_of_getElem? (i := 40) rfl), rfl⟩
theorem zm948 : Cond.methodLink RL 121 yX8_pointsOf ∈ zw := List.mem_filter.mpr ⟨zt_6 _ (List.mem_of_getElem? (i := 41) rfl), rfl⟩
theorem zm949 : Cond.instanceMethod yX8_pointsOf ∈ zw := List.mem_filter.mpr ⟨zt_6 _ (List.mem_of_getElem? (i := 42) rfl), rfl⟩
theorem zm950 : Cond.selects RX8 yX8_pointsOf yX8_pointsOf ∈ zw := List.mem_filter.mpr ⟨zt_6 _ (List.mem_of_getElem? (i := 43) rfl), rfl⟩
theorem zm951 : Cond.code yX8_pointsOf cX8_pointsOf 3 (some .int) ∈ zw := List.mem_filter.mpr ⟨zt_6 _ (List.mem_of_getElem? (i := 44) rfl), rfl⟩
theorem zm952 : Cond.fieldLink RX8 236 "PinballScorer$Totals" "points" "[I" ∈ zw := List.mem_filter.mpr ⟨zt_1 _ (List.mem_of_getElem? (i := 134) rfl), rfl⟩
theorem zm953 : Cond.methodLink RX8 230 yX8_kindIndex ∈ zw := List.mem_filter.mpr ⟨zt_6 _ (List.mem_of_getElem? (i := 45) rfl), rfl⟩
theorem zm954 : Cond.static yX8_kindIndex ∈ zw := List.mem_filter.mpr ⟨zt_6 _ (List.mem_of_getElem? (i := 46) rfl), rfl⟩
theorem zm955 : Cond.code yX8_kindIndex cX8_kindIndex 1 (some .int) ∈ zw := List.mem_filter.mpr ⟨zt_6 _ (List.mem_of_getElem? (i := 47) rfl), rfl⟩
theorem zm956 : Cond.methodLink RL 294 yX9_pointsOf ∈ zw := List.mem_filter.mpr ⟨zt_8 _ (List.mem_of_getElem? (i := 182) rfl), rfl⟩
theorem zm957 : Cond.instanceMethod yX9_pointsOf ∈ zw := List.mem_filter.mpr ⟨zt_8 _ (List.mem_of_getElem? (i := 183) rfl), rfl⟩
theorem zm958 : Cond.selects RX9 yX9_pointsOf yX9_pointsOf ∈ zw := List.mem_filter.mpr ⟨zt_8 _ (List.mem_of_getElem? (i := 184) rfl), rfl⟩
theorem zm959 : Cond.code yX9_pointsOf cX9_pointsOf 2 (some .int) ∈ zw := List.mem_filter.mpr ⟨zt_8 _ (List.mem_of_getElem? (i := 185) rfl), rfl⟩
theorem zm960 : Cond.methodLink RL 295 yX8_drainedBalls ∈ zw := List.mem_filter.mpr ⟨zt_2 _ (List.mem_of_getElem? (i := 96) rfl), rfl⟩
theorem zm961 : Cond.instanceMethod yX8_drainedBalls ∈ zw := List.mem_filter.mpr ⟨zt_2 _ (List.mem_of_getElem? (i := 97) rfl), rfl⟩
theorem zm962 : Cond.selects RX8 yX8_drainedBalls yX8_drainedBalls ∈ zw := List.mem_filter.mpr ⟨zt_2 _ (List.mem_of_getElem? (i := 98) rfl), rfl⟩
theorem zm963 : Cond.code yX8_drainedBalls cX8_drainedBalls 1 (some .int) ∈ zw := List.mem_filter.mpr ⟨zt_2 _ (List.mem_of_getElem? (i := 99) rfl), rfl⟩
theorem zm964 : Cond.fieldLink RX8 239 "PinballScorer$Totals" "drainedBalls" "I" ∈ zw := List.mem_filter.mpr ⟨zt_1 _ (List.mem_of_getElem? (i := 140) rfl), rfl⟩
theorem zm965 : Cond.methodLink RL 298 yX9_drainedBalls ∈ zw := List.mem_filter.mpr ⟨zt_8 _ (List.mem_of_getElem? (i := 186) rfl), rfl⟩
theorem zm966 : Cond.instanceMethod yX9_drainedBalls ∈ zw := List.mem_filter.mpr ⟨zt_8 _ (List.mem_of_getElem? (i := 187) rfl), rfl⟩
theorem zm967 : Cond.selects RX9 yX9_drainedBalls yX9_drainedBalls ∈ zw := List.mem_filter.mpr ⟨zt_8 _ (List.mem_of_getElem? (i := 188) rfl), rfl⟩
theorem zm968 : Cond.code yX9_drainedBalls cX9_drainedBalls 1 (some .int) ∈ zw := List.mem_filter.mpr ⟨zt_8 _ (List.mem_of_getElem? (i := 189) rfl), rfl⟩
theorem zm969 : Cond.methodLink RL 299 yX8_tiltedBalls ∈ zw := List.mem_filter.mpr ⟨zt_2 _ (List.mem_of_getElem? (i := 100) rfl), rfl⟩
theorem zm970 : Cond.instanceMethod yX8_tiltedBalls ∈ zw := List.mem_filter.mpr ⟨zt_2 _ (List.mem_of_getElem? (i := 101) rfl), rfl⟩
theorem zm971 : Cond.selects RX8 yX8_tiltedBalls yX8_tiltedBalls ∈ zw := List.mem_filter.mpr ⟨zt_2 _ (List.mem_of_getElem? (i := 102) rfl), rfl⟩
theorem zm972 : Cond.code yX8_tiltedBalls cX8_tiltedBalls 1 (some .int) ∈ zw := List.mem_filter.mpr ⟨zt_2 _ (List.mem_of_getElem? (i := 103) rfl), rfl⟩
theorem zm973 : Cond.fieldLink RX8 242 "PinballScorer$Totals" "tiltedBalls" "I" ∈ zw := List.mem_filter.mpr ⟨zt_1 _ (List.mem_of_getElem? (i := 143) rfl), rfl⟩
theorem zm974 : Cond.methodLink RL 302 yX9_tiltedBalls ∈ zw := List.mem_filter.mpr ⟨zt_8 _ (List.mem_of_getElem? (i := 190) rfl), rfl⟩
theorem zm975 : Cond.instanceMethod yX9_tiltedBalls ∈ zw := List.mem_filter.mpr ⟨zt_8 _ (List.mem_of_getElem? (i := 191) rfl), rfl⟩
theorem zm976 : Cond.selects RX9 yX9_tiltedBalls yX9_tiltedBalls ∈ zw := List.mem_filter.mpr ⟨zt_8 _ (List.mem_of_getElem? (i := 192) rfl), rfl⟩
theorem zm977 : Cond.code yX9_tiltedBalls cX9_tiltedBalls 1 (some .int) ∈ zw := List.mem_filter.mpr ⟨zt_8 _ (List.mem_of_getElem? (i := 193) rfl), rfl⟩
theorem zm978 : Cond.methodLink RL 303 yL_meanScore ∈ zw := List.mem_filter.mpr ⟨zt_6 _ (List.mem_of_getElem? (i := 49) rfl), rfl⟩
theorem zm979 : Cond.static yL_meanScore ∈ zw := List.mem_filter.mpr ⟨zt_6 _ (List.mem_of_getElem? (i := 50) rfl), rfl⟩
theorem zm980 : Cond.codeWith yL_meanScore cL_meanScore 3 (some .int) [(0, 7, 10, 129)] ∈ zw := List.mem_filter.mpr ⟨zt_6 _ (List.mem_of_getElem? (i := 51) rfl), rfl⟩
theorem zm981 : Cond.classLink RL 129 "java/lang/ArithmeticException" ∈ zw := List.mem_filter.mpr ⟨zt_6 _ (List.mem_of_getElem? (i := 52) rfl), rfl⟩
theorem zm982 : Cond.methodLink RL 125 yX8_meanScore ∈ zw := List.mem_filter.mpr ⟨zt_6 _ (List.mem_of_getElem? (i := 66) rfl), rfl⟩
theorem zm983 : Cond.instanceMethod yX8_meanScore ∈ zw := List.mem_filter.mpr ⟨zt_6 _ (List.mem_of_getElem? (i := 67) rfl), rfl⟩
theorem zm984 : Cond.selects RX8 yX8_meanScore yX8_meanScore ∈ zw := List.mem_filter.mpr ⟨zt_6 _ (List.mem_of_getElem? (i := 68) rfl), rfl⟩
theorem zm985 : Cond.code yX8_meanScore cX8_meanScore 1 (some .double) ∈ zw := List.mem_filter.mpr ⟨zt_6 _ (List.mem_of_getElem? (i := 69) rfl), rfl⟩
theorem zm986 : Cond.classLink RX8 245 "java/lang/ArithmeticException" ∈ zw := List.mem_filter.mpr ⟨zt_6 _ (List.mem_of_getElem? (i := 70) rfl), rfl⟩
theorem zm987 : Cond.initialized "java/lang/ArithmeticException" ∈ zw := List.mem_filter.mpr ⟨zt_1 _ (List.mem_of_getElem? (i := 23) rfl), rfl⟩
theorem zm988 : Cond.methodLink RX8 248 yX6_scoreSum ∈ zw := List.mem_filter.mpr ⟨zt_6 _ (List.mem_of_getElem? (i := 72) rfl), rfl⟩
theorem zm989 : Cond.instanceMethod yX6_scoreSum ∈ zw := List.mem_filter.mpr ⟨zt_6 _ (List.mem_of_getElem? (i := 73) rfl), rfl⟩
theorem zm990 : Cond.selects RX6 yX6_scoreSum yX6_scoreSum ∈ zw := List.mem_filter.mpr ⟨zt_6 _ (List.mem_of_getElem? (i := 74) rfl), rfl⟩
theorem zm991 : Cond.code yX6_scoreSum cX6_scoreSum 3 (some .int) ∈ zw := List.mem_filter.mpr ⟨zt_6 _ (List.mem_of_getElem? (i := 75) rfl), rfl⟩
theorem zm992 : Cond.methodLink RL 306 yX9_meanScore ∈ zw := List.mem_filter.mpr ⟨zt_8 _ (List.mem_of_getElem? (i := 194) rfl), rfl⟩
theorem zm993 : Cond.instanceMethod yX9_meanScore ∈ zw := List.mem_filter.mpr ⟨zt_8 _ (List.mem_of_getElem? (i := 195) rfl), rfl⟩
theorem zm994 : Cond.selects RX9 yX9_meanScore yX9_meanScore ∈ zw := List.mem_filter.mpr ⟨zt_8 _ (List.mem_of_getElem? (i := 196) rfl), rfl⟩
theorem zm995 : Cond.code yX9_meanScore cX9_meanScore 4 (some .double) ∈ zw := List.mem_filter.mpr ⟨zt_8 _ (List.mem_of_getElem? (i := 197) rfl), rfl⟩
theorem zm996 : Cond.methodLink RL 307 yL_tiltRate ∈ zw := List.mem_filter.mpr ⟨zt_6 _ (List.mem_of_getElem? (i := 76) rfl), rfl⟩
theorem zm997 : Cond.static yL_tiltRate ∈ zw := List.mem_filter.mpr ⟨zt_6 _ (List.mem_of_getElem? (i := 77) rfl), rfl⟩
theorem zm998 : Cond.codeWith yL_tiltRate cL_tiltRate 3 (some .int) [(0, 8, 11, 129)] ∈ zw := List.mem_filter.mpr ⟨zt_6 _ (List.mem_of_getElem? (i := 78) rfl), rfl⟩
theorem zm999 : Cond.methodLink RL 131 yX8_tiltRate ∈ zw := List.mem_filter.mpr ⟨zt_6 _ (List.mem_of_getElem? (i := 79) rfl), rfl⟩
theorem zm1000 : Cond.instanceMethod yX8_tiltRate ∈ zw := List.mem_filter.mpr ⟨zt_6 _ (List.mem_of_getElem? (i := 80) rfl), rfl⟩
theorem zm1001 : Cond.selects RX8 yX8_tiltRate yX8_tiltRate ∈ zw := List.mem_filter.mpr ⟨zt_6 _ (List.mem_of_getElem? (i := 81) rfl), rfl⟩
theorem zm1002 : Cond.code yX8_tiltRate cX8_tiltRate 1 (some .float) ∈ zw := List.mem_filter.mpr ⟨zt_6 _ (List.mem_of_getElem? (i := 82) rfl), rfl⟩
theorem zm1003 : Cond.methodLink RL 309 yX9_tiltRate ∈ zw := List.mem_filter.mpr ⟨zt_8 _ (List.mem_of_getElem? (i := 198) rfl), rfl⟩
theorem zm1004 : Cond.instanceMethod yX9_tiltRate ∈ zw := List.mem_filter.mpr ⟨zt_8 _ (List.mem_of_getElem? (i := 199) rfl), rfl⟩
theorem zm1005 : Cond.selects RX9 yX9_tiltRate yX9_tiltRate ∈ zw := List.mem_filter.mpr ⟨zt_8 _ (List.mem_of_getElem? (i := 200) rfl), rfl⟩
theorem zm1006 : Cond.code yX9_tiltRate cX9_tiltRate 1 (some .float) ∈ zw := List.mem_filter.mpr ⟨zt_8 _ (List.mem_of_getElem? (i := 201) rfl), rfl⟩
theorem zm1007 : Cond.methodLink RL 310 yX8_isConsistent ∈ zw := List.mem_filter.mpr ⟨zt_2 _ (List.mem_of_getElem? (i := 104) rfl), rfl⟩
theorem zm1008 : Cond.instanceMethod yX8_isConsistent ∈ zw := List.mem_filter.mpr ⟨zt_2 _ (List.mem_of_getElem? (i := 105) rfl), rfl⟩
theorem zm1009 : Cond.selects RX8 yX8_isConsistent yX8_isConsistent ∈ zw := List.mem_filter.mpr ⟨zt_2 _ (List.mem_of_getElem? (i := 106) rfl), rfl⟩
theorem zm1010 : Cond.code yX8_isConsistent cX8_isConsistent 1 (some .boolean) ∈ zw := List.mem_filter.mpr ⟨zt_2 _ (List.mem_of_getElem? (i := 107) rfl), rfl⟩
theorem zm1011 : Cond.methodLink RX8 253 yX8_predictionsAgree ∈ zw := List.mem_filter.mpr ⟨zt_2 _ (List.mem_of_getElem? (i := 108) rfl), rfl⟩
theorem zm1012 : Cond.instanceMethod yX8_predictionsAgree ∈ zw := List.mem_filter.mpr ⟨zt_2 _ (List.mem_of_getElem? (i := 110) rfl), rfl⟩
theorem zm1013 : Cond.selects RX8 yX8_predictionsAgree yX8_predictionsAgree ∈ zw := List.mem_filter.mpr ⟨zp_1 (⟨"PinballScorer", "predictionsAgree", "()Z"⟩, 11) (List.mem_of_getElem? (i := 0) rfl), rfl⟩
theorem zm1014 : Cond.code yX8_predictionsAgree cX8_predictionsAgree 3 (some .boolean) ∈ zw := List.mem_filter.mpr ⟨zt_2 _ (List.mem_of_getElem? (i := 111) rfl), rfl⟩
theorem zm1015 : Cond.methodLink RX8 256 yX7_addUp ∈ zw := List.mem_filter.mpr ⟨zt_2 _ (List.mem_of_getElem? (i := 162) rfl), rfl⟩
theorem zm1016 : Cond.instanceMethod yX7_addUp ∈ zw := List.mem_filter.mpr ⟨zt_2 _ (List.mem_of_getElem? (i := 163) rfl), rfl⟩
theorem zm1017 : Cond.selects RX7 yX7_addUp yX7_addUp ∈ zw := List.mem_filter.mpr ⟨zt_2 _ (List.mem_of_getElem? (i := 164) rfl), rfl⟩
theorem zm1018 : Cond.code yX7_addUp cX7_addUp 6 (some .boolean) ∈ zw := List.mem_filter.mpr ⟨zt_2 _ (List.mem_of_getElem? (i := 165) rfl), rfl⟩
theorem zm1019 : Cond.methodLink RX8 259 yX4_areSorted ∈ zw := List.mem_filter.mpr ⟨zt_2 _ (List.mem_of_getElem? (i := 166) rfl), rfl⟩
theorem zm1020 : Cond.instanceMethod yX4_areSorted ∈ zw := List.mem_filter.mpr ⟨zt_2 _ (List.mem_of_getElem? (i := 167) rfl), rfl⟩
theorem zm1021 : Cond.selects RX4 yX4_areSorted yX4_areSorted ∈ zw := List.mem_filter.mpr ⟨zt_2 _ (List.mem_of_getElem? (i := 168) rfl), rfl⟩
theorem zm1022 : Cond.code yX4_areSorted cX4_areSorted 2 (some .boolean) ∈ zw := List.mem_filter.mpr ⟨zt_2 _ (List.mem_of_getElem? (i := 169) rfl), rfl⟩
theorem zm1023 : Cond.methodLink RX4 37 yX4_isBefore ∈ zw := List.mem_filter.mpr ⟨zt_2 _ (List.mem_of_getElem? (i := 170) rfl), rfl⟩
theorem zm1024 : Cond.instanceMethod yX4_isBefore ∈ zw := List.mem_filter.mpr ⟨zt_2 _ (List.mem_of_getElem? (i := 172) rfl), rfl⟩
theorem zm1025 : Cond.selects RX4 yX4_isBefore yX4_isBefore ∈ zw := List.mem_filter.mpr ⟨zp_1 (⟨"PinballScorer$Records", "isBefore", "(II)Z"⟩, 4) (List.mem_of_getElem? (i := 4) rfl), rfl⟩
theorem zm1026 : Cond.code yX4_isBefore cX4_isBefore 3 (some .boolean) ∈ zw := List.mem_filter.mpr ⟨zt_2 _ (List.mem_of_getElem? (i := 173) rfl), rfl⟩
theorem zm1027 : Cond.methodLink RL 313 yX9_isConsistent ∈ zw := List.mem_filter.mpr ⟨zt_8 _ (List.mem_of_getElem? (i := 202) rfl), rfl⟩
theorem zm1028 : Cond.instanceMethod yX9_isConsistent ∈ zw := List.mem_filter.mpr ⟨zt_8 _ (List.mem_of_getElem? (i := 203) rfl), rfl⟩
theorem zm1029 : Cond.selects RX9 yX9_isConsistent yX9_isConsistent ∈ zw := List.mem_filter.mpr ⟨zt_8 _ (List.mem_of_getElem? (i := 204) rfl), rfl⟩
theorem zm1030 : Cond.code yX9_isConsistent cX9_isConsistent 1 (some .boolean) ∈ zw := List.mem_filter.mpr ⟨zt_8 _ (List.mem_of_getElem? (i := 205) rfl), rfl⟩
theorem zm1031 : Cond.methodLink RL 314 yL_renderBall ∈ zw := List.mem_filter.mpr ⟨zt_6 _ (List.mem_of_getElem? (i := 84) rfl), rfl⟩
theorem zm1032 : Cond.static yL_renderBall ∈ zw := List.mem_filter.mpr ⟨zt_6 _ (List.mem_of_getElem? (i := 85) rfl), rfl⟩
theorem zm1033 : Cond.codeWith yL_renderBall cL_renderBall 3 (some .int) [(0, 8, 11, 13)] ∈ zw := List.mem_filter.mpr ⟨zt_6 _ (List.mem_of_getElem? (i := 86) rfl), rfl⟩
theorem zm1034 : Cond.methodLink RL 135 yX8_renderBall ∈ zw := List.mem_filter.mpr ⟨zt_6 _ (List.mem_of_getElem? (i := 87) rfl), rfl⟩
theorem zm1035 : Cond.instanceMethod yX8_renderBall ∈ zw := List.mem_filter.mpr ⟨zt_6 _ (List.mem_of_getElem? (i := 88) rfl), rfl⟩
theorem zm1036 : Cond.selects RX8 yX8_renderBall yX8_renderBall ∈ zw := List.mem_filter.mpr ⟨zt_6 _ (List.mem_of_getElem? (i := 89) rfl), rfl⟩
theorem zm1037 : Cond.code yX8_renderBall cX8_renderBall 1 (some .int) ∈ zw := List.mem_filter.mpr ⟨zt_6 _ (List.mem_of_getElem? (i := 90) rfl), rfl⟩
theorem zm1038 : Cond.methodLink RX8 262 yJ4_setLength_d00df ∈ zw := List.mem_filter.mpr ⟨zt_2 _ (List.mem_of_getElem? (i := 178) rfl), rfl⟩
theorem zm1039 : Cond.instanceMethod yJ4_setLength_d00df ∈ zw := List.mem_filter.mpr ⟨zt_2 _ (List.mem_of_getElem? (i := 179) rfl), rfl⟩
theorem zm1040 : Cond.selects RJ4 yJ4_setLength_d00df yJ4_setLength_d00df ∈ zw := List.mem_filter.mpr ⟨zt_2 _ (List.mem_of_getElem? (i := 180) rfl), rfl⟩
theorem zm1041 : Cond.code yJ4_setLength_d00df cJ4_setLength_d00df 2 none ∈ zw := List.mem_filter.mpr ⟨zt_2 _ (List.mem_of_getElem? (i := 181) rfl), rfl⟩
theorem zm1042 : Cond.methodLink RJ4 333 yJ5_setLength_d00df ∈ zw := List.mem_filter.mpr ⟨zt_2 _ (List.mem_of_getElem? (i := 182) rfl), rfl⟩
theorem zm1043 : Cond.sameMethod "java/lang/AbstractStringBuilder" "java/lang/AbstractStringBuilder" "setLength" "(I)V" ∈ zw := List.mem_filter.mpr ⟨zt_9 _ (List.mem_of_getElem? (i := 50) rfl), rfl⟩
theorem zm1044 : Cond.superclass RJ4 RJ5 ∈ zw := List.mem_filter.mpr ⟨zt_2 _ (List.mem_of_getElem? (i := 7) rfl), rfl⟩
theorem zm1045 : Cond.instanceMethod yJ5_setLength_d00df ∈ zw := List.mem_filter.mpr ⟨zt_2 _ (List.mem_of_getElem? (i := 183) rfl), rfl⟩
theorem zm1046 : Cond.code yJ5_setLength_d00df cJ5_setLength_d00df 2 none ∈ zw := List.mem_filter.mpr ⟨zt_2 _ (List.mem_of_getElem? (i := 184) rfl), rfl⟩
theorem zm1047 : Cond.classLink RJ5 129 RJx7c733 ∈ zw := List.mem_filter.mpr ⟨zt_2 _ (List.mem_of_getElem? (i := 185) rfl), rfl⟩
theorem zm1048 : Cond.instantiable RJx7c733 6 ∈ zw := List.mem_filter.mpr ⟨zt_2 _ (List.mem_of_getElem? (i := 186) rfl), rfl⟩
theorem zm1049 : Cond.initialized RJx7c733 ∈ zw := List.mem_filter.mpr ⟨zt_1 _ (List.mem_of_getElem? (i := 24) rfl), rfl⟩
theorem zm1050 : Cond.fieldLink RJ5 79 "java/lang/AbstractStringBuilder" "count" "I" ∈ zw := List.mem_filter.mpr ⟨zt_1 _ (List.mem_of_getElem? (i := 238) rfl), rfl⟩
theorem zm1051 : Cond.fieldLink RJ5 73 "java/lang/AbstractStringBuilder" "maybeLatin1" "Z" ∈ zw := List.mem_filter.mpr ⟨zt_1 _ (List.mem_of_getElem? (i := 236) rfl), rfl⟩
theorem zm1052 : Cond.methodLink RJ5 100 ⟨"java/lang/AbstractStringBuilder", "ensureCapacityInternal", "(I)V"⟩ ∈ zw := List.mem_filter.mpr ⟨zt_2 _ (List.mem_of_getElem? (i := 204) rfl), rfl⟩
theorem zm1053 : Cond.sameMethod "java/lang/AbstractStringBuilder" "java/lang/AbstractStringBuilder" "ensureCapacityInternal" "(I)V" ∈ zw := List.mem_filter.mpr ⟨zt_9 _ (List.mem_of_getElem? (i := 53) rfl), rfl⟩
theorem zm1055 : Cond.instanceMethod yJ5_ensureCapacityInternal_d00df ∈ zw := List.mem_filter.mpr ⟨zt_2 _ (List.mem_of_getElem? (i := 206) rfl), rfl⟩
theorem zm1056 : Cond.code yJ5_ensureCapacityInternal_d00df cJ5_ensureCapacityInternal_d00df 3 none ∈ zw := List.mem_filter.mpr ⟨zt_2 _ (List.mem_of_getElem? (i := 207) rfl), rfl⟩
theorem zm1057 : Cond.methodLink RJ5 104 ⟨"java/lang/AbstractStringBuilder", "newCapacity", "(I)I"⟩ ∈ zw := List.mem_filter.mpr ⟨zt_2 _ (List.mem_of_getElem? (i := 208) rfl), rfl⟩
theorem zm1058 : Cond.sameMethod "java/lang/AbstractStringBuilder" "java/lang/AbstractStringBuilder" "newCapacity" "(I)I" ∈ zw := List.mem_filter.mpr ⟨zt_9 _ (List.mem_of_getElem? (i := 54) rfl), rfl⟩
theorem zm1060 : Cond.instanceMethod yJ5_newCapacity_0f7a4 ∈ zw := List.mem_filter.mpr ⟨zt_2 _ (List.mem_of_getElem? (i := 210) rfl), rfl⟩
theorem zm1061 : Cond.code yJ5_newCapacity_0f7a4 cJ5_newCapacity_0f7a4 6 (some .int) ∈ zw := List.mem_filter.mpr ⟨zt_2 _ (List.mem_of_getElem? (i := 211) rfl), rfl⟩
theorem zm1062 : Cond.constant RJ5 39 (2147483647) ∈ zw := List.mem_filter.mpr ⟨zt_2 _ (List.mem_of_getElem? (i := 220) rfl), rfl⟩
theorem zm1063 : Cond.methodLink RJ5 114 yJ8_newLength_cabcc ∈ zw := List.mem_filter.mpr ⟨zt_2 _ (List.mem_of_getElem? (i := 212) rfl), rfl⟩
theorem zm1064 : Cond.static yJ8_newLength_cabcc ∈ zw := List.mem_filter.mpr ⟨zt_2 _ (List.mem_of_getElem? (i := 213) rfl), rfl⟩
theorem zm1065 : Cond.initialized RJ8 ∈ zw := List.mem_filter.mpr ⟨zt_1 _ (List.mem_of_getElem? (i := 25) rfl), rfl⟩
theorem zm1066 : Cond.code yJ8_newLength_cabcc cJ8_newLength_cabcc 4 (some .int) ∈ zw := List.mem_filter.mpr ⟨zt_2 _ (List.mem_of_getElem? (i := 214) rfl), rfl⟩
theorem zm1067 : Cond.methodLink RJ8 194 Lib.Math.max.name ∈ zw := List.mem_filter.mpr ⟨zt_2 _ (List.mem_of_getElem? (i := 215) rfl), rfl⟩
theorem zm1068 : Cond.constant RJ8 200 (2147483639) ∈ zw := List.mem_filter.mpr ⟨zt_2 _ (List.mem_of_getElem? (i := 216) rfl), rfl⟩
theorem zm1069 : Cond.methodLink RJ8 201 yJ8_hugeLength_7cf53 ∈ zw := List.mem_filter.mpr ⟨zt_2 _ (List.mem_of_getElem? (i := 217) rfl), rfl⟩
theorem zm1070 : Cond.static yJ8_hugeLength_7cf53 ∈ zw := List.mem_filter.mpr ⟨zt_2 _ (List.mem_of_getElem? (i := 218) rfl), rfl⟩
theorem zm1071 : Cond.code yJ8_hugeLength_7cf53 cJ8_hugeLength_7cf53 3 (some .int) ∈ zw := List.mem_filter.mpr ⟨zt_2 _ (List.mem_of_getElem? (i := 219) rfl), rfl⟩
theorem zm1072 : Cond.methodLink RJ5 108 yJ7_copyOf_9075b ∈ zw := List.mem_filter.mpr ⟨zt_2 _ (List.mem_of_getElem? (i := 221) rfl), rfl⟩
theorem zm1073 : Cond.static yJ7_copyOf_9075b ∈ zw := List.mem_filter.mpr ⟨zt_2 _ (List.mem_of_getElem? (i := 222) rfl), rfl⟩
theorem zm1074 : Cond.initialized RJ7 ∈ zw := List.mem_filter.mpr ⟨zt_1 _ (List.mem_of_getElem? (i := 26) rfl), rfl⟩
theorem zm1075 : Cond.code yJ7_copyOf_9075b cJ7_copyOf_9075b 3 (some (.array .byte)) ∈ zw := List.mem_filter.mpr ⟨zt_2 _ (List.mem_of_getElem? (i := 223) rfl), rfl⟩
theorem zm1076 : Cond.methodLink RJ7 310 ⟨"[B", "clone", "()Ljava/lang/Object;"⟩ ∈ zw := List.mem_filter.mpr ⟨zt_2 _ (List.mem_of_getElem? (i := 224) rfl), rfl⟩
theorem zm1077 : Cond.sameMethod "[B" "java/lang/Object" "clone" "()Ljava/lang/Object;" ∈ zw := List.mem_filter.mpr ⟨zt_2 _ (List.mem_of_getElem? (i := 225) rfl), rfl⟩
theorem zm1078 : Cond.native ⟨"java/lang/Object", "clone", "()Ljava/lang/Object;"⟩ ∈ zw := List.mem_filter.mpr ⟨zt_2 _ (List.mem_of_getElem? (i := 226) rfl), rfl⟩
theorem zm1079 : Cond.instanceMethod ⟨"java/lang/Object", "clone", "()Ljava/lang/Object;"⟩ ∈ zw := List.mem_filter.mpr ⟨zt_2 _ (List.mem_of_getElem? (i := 227) rfl), rfl⟩
theorem zm1080 : Cond.selects "[B" ⟨"[B", "clone", "()Ljava/lang/Object;"⟩ ⟨"java/lang/Object", "clone", "()Ljava/lang/Object;"⟩ ∈ zw := List.mem_filter.mpr ⟨zt_2 _ (List.mem_of_getElem? (i := 228) rfl), rfl⟩
theorem zm1081 : Cond.classLink RJ7 311 "[B" ∈ zw := List.mem_filter.mpr ⟨zt_2 _ (List.mem_of_getElem? (i := 230) rfl), rfl⟩
theorem zm1082 : Cond.methodLink RJ7 304 Lib.Math.min.name ∈ zw := List.mem_filter.mpr ⟨zt_2 _ (List.mem_of_getElem? (i := 231) rfl), rfl⟩
theorem zm1083 : Cond.methodLink RJ7 150 arraycopyName ∈ zw := List.mem_filter.mpr ⟨zt_2 _ (List.mem_of_getElem? (i := 232) rfl), rfl⟩
theorem zm1084 : Cond.methodLink RJ5 83 ⟨"java/lang/AbstractStringBuilder", "isLatin1", "()Z"⟩ ∈ zw := List.mem_filter.mpr ⟨zt_2 _ (List.mem_of_getElem? (i := 233) rfl), rfl⟩
theorem zm1085 : Cond.sameMethod "java/lang/AbstractStringBuilder" "java/lang/AbstractStringBuilder" "isLatin1" "()Z" ∈ zw := List.mem_filter.mpr ⟨zt_2 _ (List.mem_of_getElem? (i := 235) rfl), rfl⟩
theorem zm1086 : Cond.selects RJ4 ⟨"java/lang/AbstractStringBuilder", "isLatin1", "()Z"⟩ yJ5_isLatin1_aae02 ∈ zw := List.mem_filter.mpr ⟨zt_2 _ (List.mem_of_getElem? (i := 236) rfl), rfl⟩
theorem zm1087 : Cond.instanceMethod yJ5_isLatin1_aae02 ∈ zw := List.mem_filter.mpr ⟨zt_2 _ (List.mem_of_getElem? (i := 234) rfl), rfl⟩
theorem zm1088 : Cond.code yJ5_isLatin1_aae02 cJ5_isLatin1_aae02 1 (some .boolean) ∈ zw := List.mem_filter.mpr ⟨zt_2 _ (List.mem_of_getElem? (i := 237) rfl), rfl⟩
theorem zm1089 : Cond.methodLink RJ5 133 yJ1_fillNull_b72d1 ∈ zw := List.mem_filter.mpr ⟨zt_3 _ (List.mem_of_getElem? (i := 239) rfl), rfl⟩
theorem zm1090 : Cond.static yJ1_fillNull_b72d1 ∈ zw := List.mem_filter.mpr ⟨zt_4 _ (List.mem_of_getElem? (i := 0) rfl), rfl⟩
theorem zm1091 : Cond.initialized RJ1 ∈ zw := List.mem_filter.mpr ⟨zt_1 _ (List.mem_of_getElem? (i := 28) rfl), rfl⟩
theorem zm1092 : Cond.code yJ1_fillNull_b72d1 cJ1_fillNull_b72d1 3 none ∈ zw := List.mem_filter.mpr ⟨zt_4 _ (List.mem_of_getElem? (i := 1) rfl), rfl⟩
theorem zm1093 : Cond.methodLink RJ1 236 yJ7_fill_eb02e ∈ zw := List.mem_filter.mpr ⟨zt_4 _ (List.mem_of_getElem? (i := 2) rfl), rfl⟩
theorem zm1094 : Cond.static yJ7_fill_eb02e ∈ zw := List.mem_filter.mpr ⟨zt_4 _ (List.mem_of_getElem? (i := 3) rfl), rfl⟩
theorem zm1095 : Cond.code yJ7_fill_eb02e cJ7_fill_eb02e 5 none ∈ zw := List.mem_filter.mpr ⟨zt_4 _ (List.mem_of_getElem? (i := 4) rfl), rfl⟩
theorem zm1096 : Cond.methodLink RJ7 13 yJ7_rangeCheck_23922 ∈ zw := List.mem_filter.mpr ⟨zt_4 _ (List.mem_of_getElem? (i := 5) rfl), rfl⟩
theorem zm1097 : Cond.static yJ7_rangeCheck_23922 ∈ zw := List.mem_filter.mpr ⟨zt_4 _ (List.mem_of_getElem? (i := 6) rfl), rfl⟩
theorem zm1098 : Cond.code yJ7_rangeCheck_23922 cJ7_rangeCheck_23922 3 none ∈ zw := List.mem_filter.mpr ⟨zt_4 _ (List.mem_of_getElem? (i := 7) rfl), rfl⟩
theorem zm1099 : Cond.classLink RJ7 45 RJ4 ∈ zw := List.mem_filter.mpr ⟨zt_3 _ (List.mem_of_getElem? (i := 173) rfl), rfl⟩
theorem zm1100 : Cond.classLink RJ7 68 RJx00060 ∈ zw := List.mem_filter.mpr ⟨zt_4 _ (List.mem_of_getElem? (i := 11) rfl), rfl⟩
theorem zm1101 : Cond.instantiable RJx00060 6 ∈ zw := List.mem_filter.mpr ⟨zt_4 _ (List.mem_of_getElem? (i := 12) rfl), rfl⟩
theorem zm1102 : Cond.initialized RJx00060 ∈ zw := List.mem_filter.mpr ⟨zt_1 _ (List.mem_of_getElem? (i := 21) rfl), rfl⟩
theorem zm1103 : Cond.methodLink RJ5 137 yJ2_fillNull_b72d1 ∈ zw := List.mem_filter.mpr ⟨zt_4 _ (List.mem_of_getElem? (i := 34) rfl), rfl⟩
theorem zm1104 : Cond.static yJ2_fillNull_b72d1 ∈ zw := List.mem_filter.mpr ⟨zt_4 _ (List.mem_of_getElem? (i := 35) rfl), rfl⟩
theorem zm1105 : Cond.code yJ2_fillNull_b72d1 cJ2_fillNull_b72d1 3 none ∈ zw := List.mem_filter.mpr ⟨zt_4 _ (List.mem_of_getElem? (i := 36) rfl), rfl⟩
theorem zm1106 : Cond.methodLink RJ2 380 yJ7_fill_eb02e ∈ zw := List.mem_filter.mpr ⟨zt_4 _ (List.mem_of_getElem? (i := 37) rfl), rfl⟩
theorem zm1107 : Cond.methodLink RX8 265 yX1_describe ∈ zw := List.mem_filter.mpr ⟨zt_6 _ (List.mem_of_getElem? (i := 91) rfl), rfl⟩
theorem zm1108 : Cond.instanceMethod yX1_describe ∈ zw := List.mem_filter.mpr ⟨zt_6 _ (List.mem_of_getElem? (i := 92) rfl), rfl⟩
theorem zm1109 : Cond.selects RX1 yX1_describe yX1_describe ∈ zw := List.mem_filter.mpr ⟨zt_6 _ (List.mem_of_getElem? (i := 93) rfl), rfl⟩
theorem zm1110 : Cond.code yX1_describe cX1_describe 6 none ∈ zw := List.mem_filter.mpr ⟨zt_6 _ (List.mem_of_getElem? (i := 94) rfl), rfl⟩
theorem zm1111 : Cond.methodLink RX1 78 yJ4_append_cf468 ∈ zw := List.mem_filter.mpr ⟨zt_6 _ (List.mem_of_getElem? (i := 95) rfl), rfl⟩
theorem zm1112 : Cond.instanceMethod yJ4_append_cf468 ∈ zw := List.mem_filter.mpr ⟨zt_4 _ (List.mem_of_getElem? (i := 43) rfl), rfl⟩
theorem zm1113 : Cond.selects RJ4 yJ4_append_cf468 yJ4_append_cf468 ∈ zw := List.mem_filter.mpr ⟨zt_4 _ (List.mem_of_getElem? (i := 44) rfl), rfl⟩
theorem zm1114 : Cond.code yJ4_append_cf468 cJ4_append_cf468 2 (some (.object "java/lang/StringBuilder")) ∈ zw := List.mem_filter.mpr ⟨zt_4 _ (List.mem_of_getElem? (i := 45) rfl), rfl⟩
theorem zm1115 : Cond.methodLink RJ4 50 yJ5_append_3fe6f ∈ zw := List.mem_filter.mpr ⟨zt_4 _ (List.mem_of_getElem? (i := 46) rfl), rfl⟩
theorem zm1116 : Cond.sameMethod "java/lang/AbstractStringBuilder" "java/lang/AbstractStringBuilder" "append" "(C)Ljava/lang/AbstractStringBuilder;" ∈ zw := List.mem_filter.mpr ⟨zt_9 _ (List.mem_of_getElem? (i := 60) rfl), rfl⟩
theorem zm1117 : Cond.instanceMethod yJ5_append_3fe6f ∈ zw := List.mem_filter.mpr ⟨zt_4 _ (List.mem_of_getElem? (i := 47) rfl), rfl⟩
theorem zm1118 : Cond.code yJ5_append_3fe6f cJ5_append_3fe6f 2 (some (.object "java/lang/AbstractStringBuilder")) ∈ zw := List.mem_filter.mpr ⟨zt_4 _ (List.mem_of_getElem? (i := 48) rfl), rfl⟩
theorem zm1119 : Cond.methodLink RJ5 191 yJ1_canEncode_fc78d ∈ zw := List.mem_filter.mpr ⟨zt_4 _ (List.mem_of_getElem? (i := 49) rfl), rfl⟩
theorem zm1120 : Cond.static yJ1_canEncode_fc78d ∈ zw := List.mem_filter.mpr ⟨zt_4 _ (List.mem_of_getElem? (i := 50) rfl), rfl⟩
theorem zm1121 : Cond.code yJ1_canEncode_fc78d cJ1_canEncode_fc78d 1 (some .boolean) ∈ zw := List.mem_filter.mpr ⟨zt_4 _ (List.mem_of_getElem? (i := 51) rfl), rfl⟩
theorem zm1122 : Cond.methodLink RJ5 195 ⟨"java/lang/AbstractStringBuilder", "inflate", "()V"⟩ ∈ zw := List.mem_filter.mpr ⟨zt_3 _ (List.mem_of_getElem? (i := 42) rfl), rfl⟩
theorem zm1123 : Cond.sameMethod "java/lang/AbstractStringBuilder" "java/lang/AbstractStringBuilder" "inflate" "()V" ∈ zw := List.mem_filter.mpr ⟨zt_9 _ (List.mem_of_getElem? (i := 57) rfl), rfl⟩
theorem zm1125 : Cond.instanceMethod yJ5_inflate_da8c8 ∈ zw := List.mem_filter.mpr ⟨zt_3 _ (List.mem_of_getElem? (i := 44) rfl), rfl⟩
theorem zm1126 : Cond.code yJ5_inflate_da8c8 cJ5_inflate_da8c8 2 none ∈ zw := List.mem_filter.mpr ⟨zt_3 _ (List.mem_of_getElem? (i := 45) rfl), rfl⟩
theorem zm1127 : Cond.methodLink RJ5 125 yJ1_inflate_0e8fd ∈ zw := List.mem_filter.mpr ⟨zt_3 _ (List.mem_of_getElem? (i := 46) rfl), rfl⟩
theorem zm1128 : Cond.static yJ1_inflate_0e8fd ∈ zw := List.mem_filter.mpr ⟨zt_3 _ (List.mem_of_getElem? (i := 47) rfl), rfl⟩
theorem zm1129 : Cond.code yJ1_inflate_0e8fd cJ1_inflate_0e8fd 5 none ∈ zw := List.mem_filter.mpr ⟨zt_3 _ (List.mem_of_getElem? (i := 48) rfl), rfl⟩
theorem zm1130 : Cond.methodLink RJ1 240 yJ2_inflate_0e8fd ∈ zw := List.mem_filter.mpr ⟨zt_3 _ (List.mem_of_getElem? (i := 49) rfl), rfl⟩
theorem zm1131 : Cond.static yJ2_inflate_0e8fd ∈ zw := List.mem_filter.mpr ⟨zt_3 _ (List.mem_of_getElem? (i := 50) rfl), rfl⟩
theorem zm1132 : Cond.code yJ2_inflate_0e8fd cJ2_inflate_0e8fd 6 none ∈ zw := List.mem_filter.mpr ⟨zt_3 _ (List.mem_of_getElem? (i := 51) rfl), rfl⟩
theorem zm1133 : Cond.methodLink RJ2 173 yJ2_checkBoundsOffCount_d044e ∈ zw := List.mem_filter.mpr ⟨zt_3 _ (List.mem_of_getElem? (i := 52) rfl), rfl⟩
theorem zm1134 : Cond.static yJ2_checkBoundsOffCount_d044e ∈ zw := List.mem_filter.mpr ⟨zt_3 _ (List.mem_of_getElem? (i := 53) rfl), rfl⟩
theorem zm1135 : Cond.code yJ2_checkBoundsOffCount_d044e cJ2_checkBoundsOffCount_d044e 3 none ∈ zw := List.mem_filter.mpr ⟨zt_3 _ (List.mem_of_getElem? (i := 54) rfl), rfl⟩
theorem zm1136 : Cond.methodLink RJ2 48 yJ2_length_9d52b ∈ zw := List.mem_filter.mpr ⟨zt_3 _ (List.mem_of_getElem? (i := 4) rfl), rfl⟩
theorem zm1137 : Cond.static yJ2_length_9d52b ∈ zw := List.mem_filter.mpr ⟨zt_3 _ (List.mem_of_getElem? (i := 5) rfl), rfl⟩
theorem zm1138 : Cond.code yJ2_length_9d52b cJ2_length_9d52b 1 (some .int) ∈ zw := List.mem_filter.mpr ⟨zt_3 _ (List.mem_of_getElem? (i := 6) rfl), rfl⟩
theorem zm1139 : Cond.methodLink RJ2 419 yJ0_checkBoundsOffCount_cabcc ∈ zw := List.mem_filter.mpr ⟨zt_3 _ (List.mem_of_getElem? (i := 55) rfl), rfl⟩
theorem zm1140 : Cond.static yJ0_checkBoundsOffCount_cabcc ∈ zw := List.mem_filter.mpr ⟨zt_3 _ (List.mem_of_getElem? (i := 56) rfl), rfl⟩
theorem zm1141 : Cond.initialized RJ0 ∈ zw := List.mem_filter.mpr ⟨zt_1 _ (List.mem_of_getElem? (i := 9) rfl), rfl⟩
theorem zm1142 : Cond.code yJ0_checkBoundsOffCount_cabcc cJ0_checkBoundsOffCount_cabcc 3 (some .int) ∈ zw := List.mem_filter.mpr ⟨zt_3 _ (List.mem_of_getElem? (i := 57) rfl), rfl⟩
theorem zm1143 : Cond.fieldLink RJ0 1053 "jdk/internal/util/Preconditions" "SIOOBE_FORMATTER" "Ljava/util/function/BiFunction;" ∈ zw := List.mem_filter.mpr ⟨zt_3 _ (List.mem_of_getElem? (i := 10) rfl), rfl⟩
theorem zm1144 : Cond.methodLink RJ0 1065 yJ3_checkFromIndexSize_8c36e ∈ zw := List.mem_filter.mpr ⟨zt_3 _ (List.mem_of_getElem? (i := 58) rfl), rfl⟩
theorem zm1145 : Cond.static yJ3_checkFromIndexSize_8c36e ∈ zw := List.mem_filter.mpr ⟨zt_3 _ (List.mem_of_getElem? (i := 59) rfl), rfl⟩
theorem zm1146 : Cond.initialized RJ3 ∈ zw := List.mem_filter.mpr ⟨zt_1 _ (List.mem_of_getElem? (i := 27) rfl), rfl⟩
theorem zm1147 : Cond.code yJ3_checkFromIndexSize_8c36e cJ3_checkFromIndexSize_8c36e 4 (some .int) ∈ zw := List.mem_filter.mpr ⟨zt_3 _ (List.mem_of_getElem? (i := 60) rfl), rfl⟩
theorem zm1148 : Cond.methodLink RJ2 111 yJ2_putChar_b72d1 ∈ zw := List.mem_filter.mpr ⟨zt_3 _ (List.mem_of_getElem? (i := 15) rfl), rfl⟩
theorem zm1149 : Cond.static yJ2_putChar_b72d1 ∈ zw := List.mem_filter.mpr ⟨zt_3 _ (List.mem_of_getElem? (i := 16) rfl), rfl⟩
theorem zm1150 : Cond.code yJ2_putChar_b72d1 cJ2_putChar_b72d1 3 none ∈ zw := List.mem_filter.mpr ⟨zt_3 _ (List.mem_of_getElem? (i := 17) rfl), rfl⟩
theorem zm1151 : Cond.fieldLink RJ2 44 "java/lang/StringUTF16" "$assertionsDisabled" "Z" ∈ zw := List.mem_filter.mpr ⟨zt_3 _ (List.mem_of_getElem? (i := 18) rfl), rfl⟩
theorem zm1152 : Cond.fieldLink RJ2 59 "java/lang/StringUTF16" "HI_BYTE_SHIFT" "I" ∈ zw := List.mem_filter.mpr ⟨zt_3 _ (List.mem_of_getElem? (i := 20) rfl), rfl⟩
theorem zm1153 : Cond.fieldLink RJ2 63 "java/lang/StringUTF16" "LO_BYTE_SHIFT" "I" ∈ zw := List.mem_filter.mpr ⟨zt_3 _ (List.mem_of_getElem? (i := 22) rfl), rfl⟩
theorem zm1154 : Cond.methodLink RJ5 197 yJ2_putCharSB_b72d1 ∈ zw := List.mem_filter.mpr ⟨zt_4 _ (List.mem_of_getElem? (i := 52) rfl), rfl⟩
theorem zm1155 : Cond.static yJ2_putCharSB_b72d1 ∈ zw := List.mem_filter.mpr ⟨zt_4 _ (List.mem_of_getElem? (i := 53) rfl), rfl⟩
theorem zm1156 : Cond.code yJ2_putCharSB_b72d1 cJ2_putCharSB_b72d1 3 none ∈ zw := List.mem_filter.mpr ⟨zt_4 _ (List.mem_of_getElem? (i := 54) rfl), rfl⟩
theorem zm1157 : Cond.methodLink RJ2 67 yJ2_checkIndex_2214a ∈ zw := List.mem_filter.mpr ⟨zt_4 _ (List.mem_of_getElem? (i := 55) rfl), rfl⟩
theorem zm1158 : Cond.static yJ2_checkIndex_2214a ∈ zw := List.mem_filter.mpr ⟨zt_4 _ (List.mem_of_getElem? (i := 56) rfl), rfl⟩
theorem zm1159 : Cond.code yJ2_checkIndex_2214a cJ2_checkIndex_2214a 2 none ∈ zw := List.mem_filter.mpr ⟨zt_4 _ (List.mem_of_getElem? (i := 57) rfl), rfl⟩
theorem zm1160 : Cond.methodLink RJ2 414 yJ0_checkIndex_df160 ∈ zw := List.mem_filter.mpr ⟨zt_4 _ (List.mem_of_getElem? (i := 58) rfl), rfl⟩
theorem zm1161 : Cond.static yJ0_checkIndex_df160 ∈ zw := List.mem_filter.mpr ⟨zt_4 _ (List.mem_of_getElem? (i := 59) rfl), rfl⟩
theorem zm1162 : Cond.code yJ0_checkIndex_df160 cJ0_checkIndex_df160 2 none ∈ zw := List.mem_filter.mpr ⟨zt_4 _ (List.mem_of_getElem? (i := 60) rfl), rfl⟩
theorem zm1163 : Cond.methodLink RJ0 1059 yJ3_checkIndex_8e157 ∈ zw := List.mem_filter.mpr ⟨zt_4 _ (List.mem_of_getElem? (i := 61) rfl), rfl⟩
theorem zm1164 : Cond.static yJ3_checkIndex_8e157 ∈ zw := List.mem_filter.mpr ⟨zt_4 _ (List.mem_of_getElem? (i := 62) rfl), rfl⟩
theorem zm1165 : Cond.code yJ3_checkIndex_8e157 cJ3_checkIndex_8e157 3 (some .int) ∈ zw := List.mem_filter.mpr ⟨zt_4 _ (List.mem_of_getElem? (i := 63) rfl), rfl⟩
theorem zm1166 : Cond.methodLink RX1 84 yJ4_append_bf812 ∈ zw := List.mem_filter.mpr ⟨zt_6 _ (List.mem_of_getElem? (i := 96) rfl), rfl⟩
theorem zm1167 : Cond.instanceMethod yJ4_append_bf812 ∈ zw := List.mem_filter.mpr ⟨zt_3 _ (List.mem_of_getElem? (i := 68) rfl), rfl⟩
theorem zm1168 : Cond.selects RJ4 yJ4_append_bf812 yJ4_append_bf812 ∈ zw := List.mem_filter.mpr ⟨zt_3 _ (List.mem_of_getElem? (i := 69) rfl), rfl⟩
theorem zm1169 : Cond.code yJ4_append_bf812 cJ4_append_bf812 2 (some (.object "java/lang/StringBuilder")) ∈ zw := List.mem_filter.mpr ⟨zt_3 _ (List.mem_of_getElem? (i := 70) rfl), rfl⟩
theorem zm1170 : Cond.methodLink RJ4 53 yJ5_append_c97b9 ∈ zw := List.mem_filter.mpr ⟨zt_3 _ (List.mem_of_getElem? (i := 71) rfl), rfl⟩
theorem zm1171 : Cond.sameMethod "java/lang/AbstractStringBuilder" "java/lang/AbstractStringBuilder" "append" "(I)Ljava/lang/AbstractStringBuilder;" ∈ zw := List.mem_filter.mpr ⟨zt_9 _ (List.mem_of_getElem? (i := 58) rfl), rfl⟩
theorem zm1172 : Cond.instanceMethod yJ5_append_c97b9 ∈ zw := List.mem_filter.mpr ⟨zt_3 _ (List.mem_of_getElem? (i := 72) rfl), rfl⟩
theorem zm1173 : Cond.code yJ5_append_c97b9 cJ5_append_c97b9 4 (some (.object "java/lang/AbstractStringBuilder")) ∈ zw := List.mem_filter.mpr ⟨zt_3 _ (List.mem_of_getElem? (i := 73) rfl), rfl⟩
theorem zm1174 : Cond.methodLink RJ5 245 yJ6_stringSize_0f7a4 ∈ zw := List.mem_filter.mpr ⟨zt_3 _ (List.mem_of_getElem? (i := 74) rfl), rfl⟩
theorem zm1175 : Cond.static yJ6_stringSize_0f7a4 ∈ zw := List.mem_filter.mpr ⟨zt_3 _ (List.mem_of_getElem? (i := 75) rfl), rfl⟩
theorem zm1176 : Cond.initialized RJ6 ∈ zw := List.mem_filter.mpr ⟨zt_1 _ (List.mem_of_getElem? (i := 30) rfl), rfl⟩
theorem zm1177 : Cond.code yJ6_stringSize_0f7a4 cJ6_stringSize_0f7a4 4 (some .int) ∈ zw := List.mem_filter.mpr ⟨zt_3 _ (List.mem_of_getElem? (i := 76) rfl), rfl⟩
theorem zm1178 : Cond.methodLink RJ5 248 yJ6_getChars_ba4f3 ∈ zw := List.mem_filter.mpr ⟨zt_3 _ (List.mem_of_getElem? (i := 77) rfl), rfl⟩
theorem zm1179 : Cond.static yJ6_getChars_ba4f3 ∈ zw := List.mem_filter.mpr ⟨zt_3 _ (List.mem_of_getElem? (i := 78) rfl), rfl⟩
theorem zm1180 : Cond.code yJ6_getChars_ba4f3 cJ6_getChars_ba4f3 7 (some .int) ∈ zw := List.mem_filter.mpr ⟨zt_3 _ (List.mem_of_getElem? (i := 79) rfl), rfl⟩
theorem zm1181 : Cond.fieldLink RJ6 83 "java/lang/Integer" "DigitOnes" "[B" ∈ zw := List.mem_filter.mpr ⟨zt_3 _ (List.mem_of_getElem? (i := 80) rfl), rfl⟩
theorem zm1182 : Cond.fieldLink RJ6 87 "java/lang/Integer" "DigitTens" "[B" ∈ zw := List.mem_filter.mpr ⟨zt_3 _ (List.mem_of_getElem? (i := 82) rfl), rfl⟩
theorem zm1183 : Cond.methodLink RJ5 251 yJ2_getChars_46870 ∈ zw := List.mem_filter.mpr ⟨zt_3 _ (List.mem_of_getElem? (i := 84) rfl), rfl⟩
theorem zm1184 : Cond.static yJ2_getChars_46870 ∈ zw := List.mem_filter.mpr ⟨zt_3 _ (List.mem_of_getElem? (i := 85) rfl), rfl⟩
theorem zm1185 : Cond.code yJ2_getChars_46870 cJ2_getChars_46870 5 (some .int) ∈ zw := List.mem_filter.mpr ⟨zt_3 _ (List.mem_of_getElem? (i := 86) rfl), rfl⟩
theorem zm1186 : Cond.methodLink RJ2 96 yJ2_checkBoundsBeginEnd_d044e ∈ zw := List.mem_filter.mpr ⟨zt_3 _ (List.mem_of_getElem? (i := 1) rfl), rfl⟩
theorem zm1187 : Cond.static yJ2_checkBoundsBeginEnd_d044e ∈ zw := List.mem_filter.mpr ⟨zt_3 _ (List.mem_of_getElem? (i := 2) rfl), rfl⟩
theorem zm1188 : Cond.code yJ2_checkBoundsBeginEnd_d044e cJ2_checkBoundsBeginEnd_d044e 3 none ∈ zw := List.mem_filter.mpr ⟨zt_3 _ (List.mem_of_getElem? (i := 3) rfl), rfl⟩
theorem zm1189 : Cond.methodLink RJ2 241 yJ0_checkBoundsBeginEnd_23922 ∈ zw := List.mem_filter.mpr ⟨zt_3 _ (List.mem_of_getElem? (i := 7) rfl), rfl⟩
theorem zm1190 : Cond.static yJ0_checkBoundsBeginEnd_23922 ∈ zw := List.mem_filter.mpr ⟨zt_3 _ (List.mem_of_getElem? (i := 8) rfl), rfl⟩
theorem zm1191 : Cond.code yJ0_checkBoundsBeginEnd_23922 cJ0_checkBoundsBeginEnd_23922 3 none ∈ zw := List.mem_filter.mpr ⟨zt_3 _ (List.mem_of_getElem? (i := 9) rfl), rfl⟩
theorem zm1192 : Cond.methodLink RJ0 1062 yJ3_checkFromToIndex_8c36e ∈ zw := List.mem_filter.mpr ⟨zt_3 _ (List.mem_of_getElem? (i := 12) rfl), rfl⟩
theorem zm1193 : Cond.static yJ3_checkFromToIndex_8c36e ∈ zw := List.mem_filter.mpr ⟨zt_3 _ (List.mem_of_getElem? (i := 13) rfl), rfl⟩
theorem zm1194 : Cond.code yJ3_checkFromToIndex_8c36e cJ3_checkFromToIndex_8c36e 4 (some .int) ∈ zw := List.mem_filter.mpr ⟨zt_3 _ (List.mem_of_getElem? (i := 14) rfl), rfl⟩
theorem zm1195 : Cond.methodLink RJ2 393 yJ2_getChars_ba4f3 ∈ zw := List.mem_filter.mpr ⟨zt_3 _ (List.mem_of_getElem? (i := 87) rfl), rfl⟩
theorem zm1196 : Cond.static yJ2_getChars_ba4f3 ∈ zw := List.mem_filter.mpr ⟨zt_3 _ (List.mem_of_getElem? (i := 88) rfl), rfl⟩
theorem zm1197 : Cond.code yJ2_getChars_ba4f3 cJ2_getChars_ba4f3 7 (some .int) ∈ zw := List.mem_filter.mpr ⟨zt_3 _ (List.mem_of_getElem? (i := 89) rfl), rfl⟩
theorem zm1198 : Cond.fieldLink RJ2 403 "java/lang/Integer" "DigitOnes" "[B" ∈ zw := List.mem_filter.mpr ⟨zt_3 _ (List.mem_of_getElem? (i := 90) rfl), rfl⟩
theorem zm1199 : Cond.fieldLink RJ2 407 "java/lang/Integer" "DigitTens" "[B" ∈ zw := List.mem_filter.mpr ⟨zt_3 _ (List.mem_of_getElem? (i := 91) rfl), rfl⟩
theorem zm1200 : Cond.methodLink RX8 269 yJ4_length_8abf5 ∈ zw := List.mem_filter.mpr ⟨zt_4 _ (List.mem_of_getElem? (i := 65) rfl), rfl⟩
theorem zm1201 : Cond.instanceMethod yJ4_length_8abf5 ∈ zw := List.mem_filter.mpr ⟨zt_3 _ (List.mem_of_getElem? (i := 114) rfl), rfl⟩
theorem zm1202 : Cond.selects RJ4 yJ4_length_8abf5 yJ4_length_8abf5 ∈ zw := List.mem_filter.mpr ⟨zt_9 _ (List.mem_of_getElem? (i := 61) rfl), rfl⟩
theorem zm1203 : Cond.code yJ4_length_8abf5 cJ4_length_8abf5 1 (some .int) ∈ zw := List.mem_filter.mpr ⟨zt_3 _ (List.mem_of_getElem? (i := 115) rfl), rfl⟩
theorem zm1204 : Cond.methodLink RJ4 343 yJ5_length_8abf5 ∈ zw := List.mem_filter.mpr ⟨zt_3 _ (List.mem_of_getElem? (i := 116) rfl), rfl⟩
theorem zm1205 : Cond.sameMethod "java/lang/AbstractStringBuilder" "java/lang/AbstractStringBuilder" "length" "()I" ∈ zw := List.mem_filter.mpr ⟨zt_3 _ (List.mem_of_getElem? (i := 112) rfl), rfl⟩
theorem zm1206 : Cond.instanceMethod yJ5_length_8abf5 ∈ zw := List.mem_filter.mpr ⟨zt_3 _ (List.mem_of_getElem? (i := 111) rfl), rfl⟩
theorem zm1207 : Cond.code yJ5_length_8abf5 cJ5_length_8abf5 1 (some .int) ∈ zw := List.mem_filter.mpr ⟨zt_3 _ (List.mem_of_getElem? (i := 117) rfl), rfl⟩
theorem zm1208 : Cond.methodLink RL 316 yX9_renderBall ∈ zw := List.mem_filter.mpr ⟨zt_8 _ (List.mem_of_getElem? (i := 206) rfl), rfl⟩
theorem zm1209 : Cond.instanceMethod yX9_renderBall ∈ zw := List.mem_filter.mpr ⟨zt_8 _ (List.mem_of_getElem? (i := 207) rfl), rfl⟩
theorem zm1210 : Cond.selects RX9 yX9_renderBall yX9_renderBall ∈ zw := List.mem_filter.mpr ⟨zt_8 _ (List.mem_of_getElem? (i := 208) rfl), rfl⟩
theorem zm1211 : Cond.code yX9_renderBall cX9_renderBall 2 (some .int) ∈ zw := List.mem_filter.mpr ⟨zt_8 _ (List.mem_of_getElem? (i := 209) rfl), rfl⟩
theorem zm1212 : Cond.methodLink RX9 190 yX9_write ∈ zw := List.mem_filter.mpr ⟨zt_8 _ (List.mem_of_getElem? (i := 210) rfl), rfl⟩
theorem zm1213 : Cond.instanceMethod yX9_write ∈ zw := List.mem_filter.mpr ⟨zt_8 _ (List.mem_of_getElem? (i := 212) rfl), rfl⟩
theorem zm1214 : Cond.selects RX9 yX9_write yX9_write ∈ zw := List.mem_filter.mpr ⟨zp_4 (⟨"PinballScorerModel", "write", "(I)V"⟩, 20) (List.mem_of_getElem? (i := 10) rfl), rfl⟩
theorem zm1215 : Cond.code yX9_write cX9_write 2 none ∈ zw := List.mem_filter.mpr ⟨zt_8 _ (List.mem_of_getElem? (i := 213) rfl), rfl⟩
theorem zm1216 : Cond.methodLink RX9 193 yX9_writeNumber ∈ zw := List.mem_filter.mpr ⟨zt_8 _ (List.mem_of_getElem? (i := 214) rfl), rfl⟩
theorem zm1217 : Cond.instanceMethod yX9_writeNumber ∈ zw := List.mem_filter.mpr ⟨zt_8 _ (List.mem_of_getElem? (i := 216) rfl), rfl⟩
theorem zm1218 : Cond.selects RX9 yX9_writeNumber yX9_writeNumber ∈ zw := List.mem_filter.mpr ⟨zp_4 (⟨"PinballScorerModel", "writeNumber", "(I)V"⟩, 20) (List.mem_of_getElem? (i := 11) rfl), rfl⟩
theorem zm1219 : Cond.code yX9_writeNumber cX9_writeNumber 3 none ∈ zw := List.mem_filter.mpr ⟨zt_8 _ (List.mem_of_getElem? (i := 217) rfl), rfl⟩
theorem zm1220 : Cond.methodLink RL 317 yX8_renderRecords ∈ zw := List.mem_filter.mpr ⟨zt_2 _ (List.mem_of_getElem? (i := 174) rfl), rfl⟩
theorem zm1221 : Cond.instanceMethod yX8_renderRecords ∈ zw := List.mem_filter.mpr ⟨zt_2 _ (List.mem_of_getElem? (i := 175) rfl), rfl⟩
theorem zm1222 : Cond.selects RX8 yX8_renderRecords yX8_renderRecords ∈ zw := List.mem_filter.mpr ⟨zt_2 _ (List.mem_of_getElem? (i := 176) rfl), rfl⟩
theorem zm1223 : Cond.code yX8_renderRecords cX8_renderRecords 1 (some .int) ∈ zw := List.mem_filter.mpr ⟨zt_2 _ (List.mem_of_getElem? (i := 177) rfl), rfl⟩
theorem zm1224 : Cond.methodLink RX8 272 yX4_describe ∈ zw := List.mem_filter.mpr ⟨zt_4 _ (List.mem_of_getElem? (i := 38) rfl), rfl⟩
theorem zm1225 : Cond.instanceMethod yX4_describe ∈ zw := List.mem_filter.mpr ⟨zt_4 _ (List.mem_of_getElem? (i := 39) rfl), rfl⟩
theorem zm1226 : Cond.selects RX4 yX4_describe yX4_describe ∈ zw := List.mem_filter.mpr ⟨zt_4 _ (List.mem_of_getElem? (i := 40) rfl), rfl⟩
theorem zm1227 : Cond.code yX4_describe cX4_describe 3 none ∈ zw := List.mem_filter.mpr ⟨zt_4 _ (List.mem_of_getElem? (i := 41) rfl), rfl⟩
theorem zm1228 : Cond.methodLink RX4 41 yJ4_append_cf468 ∈ zw := List.mem_filter.mpr ⟨zt_4 _ (List.mem_of_getElem? (i := 42) rfl), rfl⟩
theorem zm1229 : Cond.methodLink RX4 47 yJ4_append_bf812 ∈ zw := List.mem_filter.mpr ⟨zt_4 _ (List.mem_of_getElem? (i := 64) rfl), rfl⟩
theorem zm1230 : Cond.methodLink RL 320 yX9_renderRecords ∈ zw := List.mem_filter.mpr ⟨zt_8 _ (List.mem_of_getElem? (i := 218) rfl), rfl⟩
theorem zm1231 : Cond.instanceMethod yX9_renderRecords ∈ zw := List.mem_filter.mpr ⟨zt_8 _ (List.mem_of_getElem? (i := 219) rfl), rfl⟩
theorem zm1232 : Cond.selects RX9 yX9_renderRecords yX9_renderRecords ∈ zw := List.mem_filter.mpr ⟨zt_8 _ (List.mem_of_getElem? (i := 220) rfl), rfl⟩
theorem zm1233 : Cond.code yX9_renderRecords cX9_renderRecords 2 (some .int) ∈ zw := List.mem_filter.mpr ⟨zt_8 _ (List.mem_of_getElem? (i := 221) rfl), rfl⟩
theorem zm1234 : Cond.methodLink RL 321 yL_outputAt ∈ zw := List.mem_filter.mpr ⟨zt_6 _ (List.mem_of_getElem? (i := 97) rfl), rfl⟩
theorem zm1235 : Cond.static yL_outputAt ∈ zw := List.mem_filter.mpr ⟨zt_6 _ (List.mem_of_getElem? (i := 98) rfl), rfl⟩
theorem zm1236 : Cond.codeWith yL_outputAt cL_outputAt 4 (some .int) [(0, 9, 12, 24)] ∈ zw := List.mem_filter.mpr ⟨zt_6 _ (List.mem_of_getElem? (i := 99) rfl), rfl⟩
theorem zm1237 : Cond.methodLink RL 138 yX8_outputAt ∈ zw := List.mem_filter.mpr ⟨zt_6 _ (List.mem_of_getElem? (i := 100) rfl), rfl⟩
theorem zm1238 : Cond.instanceMethod yX8_outputAt ∈ zw := List.mem_filter.mpr ⟨zt_6 _ (List.mem_of_getElem? (i := 101) rfl), rfl⟩
theorem zm1239 : Cond.selects RX8 yX8_outputAt yX8_outputAt ∈ zw := List.mem_filter.mpr ⟨zt_6 _ (List.mem_of_getElem? (i := 102) rfl), rfl⟩
theorem zm1240 : Cond.code yX8_outputAt cX8_outputAt 2 (some .char) ∈ zw := List.mem_filter.mpr ⟨zt_6 _ (List.mem_of_getElem? (i := 103) rfl), rfl⟩
theorem zm1241 : Cond.methodLink RX8 273 yJ4_charAt_5068e ∈ zw := List.mem_filter.mpr ⟨zt_6 _ (List.mem_of_getElem? (i := 104) rfl), rfl⟩
theorem zm1242 : Cond.instanceMethod yJ4_charAt_5068e ∈ zw := List.mem_filter.mpr ⟨zt_6 _ (List.mem_of_getElem? (i := 105) rfl), rfl⟩
theorem zm1243 : Cond.selects RJ4 yJ4_charAt_5068e yJ4_charAt_5068e ∈ zw := List.mem_filter.mpr ⟨zt_6 _ (List.mem_of_getElem? (i := 106) rfl), rfl⟩
theorem zm1244 : Cond.code yJ4_charAt_5068e cJ4_charAt_5068e 2 (some .char) ∈ zw := List.mem_filter.mpr ⟨zt_6 _ (List.mem_of_getElem? (i := 107) rfl), rfl⟩
theorem zm1245 : Cond.methodLink RJ4 329 yJ5_charAt_5068e ∈ zw := List.mem_filter.mpr ⟨zt_6 _ (List.mem_of_getElem? (i := 108) rfl), rfl⟩
theorem zm1246 : Cond.sameMethod "java/lang/AbstractStringBuilder" "java/lang/AbstractStringBuilder" "charAt" "(I)C" ∈ zw := List.mem_filter.mpr ⟨zt_9 _ (List.mem_of_getElem? (i := 62) rfl), rfl⟩
theorem zm1247 : Cond.instanceMethod yJ5_charAt_5068e ∈ zw := List.mem_filter.mpr ⟨zt_6 _ (List.mem_of_getElem? (i := 109) rfl), rfl⟩
theorem zm1248 : Cond.code yJ5_charAt_5068e cJ5_charAt_5068e 5 (some .char) ∈ zw := List.mem_filter.mpr ⟨zt_6 _ (List.mem_of_getElem? (i := 110) rfl), rfl⟩
theorem zm1249 : Cond.methodLink RJ5 138 Lib.Math.min.name ∈ zw := List.mem_filter.mpr ⟨zt_6 _ (List.mem_of_getElem? (i := 111) rfl), rfl⟩
theorem zm1250 : Cond.methodLink RJ5 144 yJ0_checkIndex_df160 ∈ zw := List.mem_filter.mpr ⟨zt_6 _ (List.mem_of_getElem? (i := 112) rfl), rfl⟩
theorem zm1251 : Cond.methodLink RJ5 148 yJ2_getChar_3b067 ∈ zw := List.mem_filter.mpr ⟨zt_6 _ (List.mem_of_getElem? (i := 113) rfl), rfl⟩
theorem zm1252 : Cond.static yJ2_getChar_3b067 ∈ zw := List.mem_filter.mpr ⟨zt_3 _ (List.mem_of_getElem? (i := 211) rfl), rfl⟩
theorem zm1253 : Cond.code yJ2_getChar_3b067 cJ2_getChar_3b067 2 (some .char) ∈ zw := List.mem_filter.mpr ⟨zt_3 _ (List.mem_of_getElem? (i := 212) rfl), rfl⟩
theorem zm1254 : Cond.methodLink RL 323 yX9_outputAt ∈ zw := List.mem_filter.mpr ⟨zt_8 _ (List.mem_of_getElem? (i := 222) rfl), rfl⟩
theorem zm1255 : Cond.instanceMethod yX9_outputAt ∈ zw := List.mem_filter.mpr ⟨zt_8 _ (List.mem_of_getElem? (i := 223) rfl), rfl⟩
theorem zm1256 : Cond.selects RX9 yX9_outputAt yX9_outputAt ∈ zw := List.mem_filter.mpr ⟨zt_8 _ (List.mem_of_getElem? (i := 224) rfl), rfl⟩
theorem zm1257 : Cond.code yX9_outputAt cX9_outputAt 2 (some .char) ∈ zw := List.mem_filter.mpr ⟨zt_8 _ (List.mem_of_getElem? (i := 225) rfl), rfl⟩
theorem zm1258 : Cond.methodLink RL 324 yL_type ∈ zw := List.mem_filter.mpr ⟨zt_6 _ (List.mem_of_getElem? (i := 114) rfl), rfl⟩
theorem zm1259 : Cond.static yL_type ∈ zw := List.mem_filter.mpr ⟨zt_6 _ (List.mem_of_getElem? (i := 115) rfl), rfl⟩
theorem zm1260 : Cond.codeWith yL_type cL_type 4 (some .int) [(0, 9, 12, 35), (0, 9, 15, 13)] ∈ zw := List.mem_filter.mpr ⟨zt_6 _ (List.mem_of_getElem? (i := 116) rfl), rfl⟩
theorem zm1261 : Cond.methodLink RL 142 yX8_type ∈ zw := List.mem_filter.mpr ⟨zt_6 _ (List.mem_of_getElem? (i := 117) rfl), rfl⟩
theorem zm1262 : Cond.instanceMethod yX8_type ∈ zw := List.mem_filter.mpr ⟨zt_6 _ (List.mem_of_getElem? (i := 118) rfl), rfl⟩
theorem zm1263 : Cond.selects RX8 yX8_type yX8_type ∈ zw := List.mem_filter.mpr ⟨zt_6 _ (List.mem_of_getElem? (i := 119) rfl), rfl⟩
theorem zm1264 : Cond.code yX8_type cX8_type 2 (some .int) ∈ zw := List.mem_filter.mpr ⟨zt_6 _ (List.mem_of_getElem? (i := 120) rfl), rfl⟩
theorem zm1265 : Cond.fieldLink RX8 279 "PinballScorer$Script" "length" "I" ∈ zw := List.mem_filter.mpr ⟨zt_2 _ (List.mem_of_getElem? (i := 19) rfl), rfl⟩
theorem zm1266 : Cond.methodLink RX8 283 yX5_append ∈ zw := List.mem_filter.mpr ⟨zt_6 _ (List.mem_of_getElem? (i := 123) rfl), rfl⟩
theorem zm1267 : Cond.instanceMethod yX5_append ∈ zw := List.mem_filter.mpr ⟨zt_6 _ (List.mem_of_getElem? (i := 124) rfl), rfl⟩
theorem zm1268 : Cond.selects RX5 yX5_append yX5_append ∈ zw := List.mem_filter.mpr ⟨zt_6 _ (List.mem_of_getElem? (i := 125) rfl), rfl⟩
theorem zm1269 : Cond.code yX5_append cX5_append 2 (some .int) ∈ zw := List.mem_filter.mpr ⟨zt_6 _ (List.mem_of_getElem? (i := 126) rfl), rfl⟩
theorem zm1270 : Cond.fieldLink RX5 25 "PinballScorer$Script" "length" "I" ∈ zw := List.mem_filter.mpr ⟨zt_2 _ (List.mem_of_getElem? (i := 18) rfl), rfl⟩
theorem zm1271 : Cond.methodLink RL 326 yX9_type ∈ zw := List.mem_filter.mpr ⟨zt_8 _ (List.mem_of_getElem? (i := 226) rfl), rfl⟩
theorem zm1272 : Cond.instanceMethod yX9_type ∈ zw := List.mem_filter.mpr ⟨zt_8 _ (List.mem_of_getElem? (i := 227) rfl), rfl⟩
theorem zm1273 : Cond.selects RX9 yX9_type yX9_type ∈ zw := List.mem_filter.mpr ⟨zt_8 _ (List.mem_of_getElem? (i := 228) rfl), rfl⟩
theorem zm1274 : Cond.code yX9_type cX9_type 2 (some .int) ∈ zw := List.mem_filter.mpr ⟨zt_8 _ (List.mem_of_getElem? (i := 229) rfl), rfl⟩
theorem zm1275 : Cond.methodLink RL 327 yL_runScript ∈ zw := List.mem_filter.mpr ⟨zt_6 _ (List.mem_of_getElem? (i := 127) rfl), rfl⟩
theorem zm1276 : Cond.static yL_runScript ∈ zw := List.mem_filter.mpr ⟨zt_6 _ (List.mem_of_getElem? (i := 128) rfl), rfl⟩
theorem zm1277 : Cond.codeWith yL_runScript cL_runScript 3 (some .int) [(0, 8, 11, 35), (0, 8, 14, 13)] ∈ zw := List.mem_filter.mpr ⟨zt_6 _ (List.mem_of_getElem? (i := 129) rfl), rfl⟩
theorem zm1278 : Cond.methodLink RL 145 yX8_runScript ∈ zw := List.mem_filter.mpr ⟨zt_6 _ (List.mem_of_getElem? (i := 130) rfl), rfl⟩
theorem zm1279 : Cond.instanceMethod yX8_runScript ∈ zw := List.mem_filter.mpr ⟨zt_6 _ (List.mem_of_getElem? (i := 131) rfl), rfl⟩
theorem zm1280 : Cond.selects RX8 yX8_runScript yX8_runScript ∈ zw := List.mem_filter.mpr ⟨zt_6 _ (List.mem_of_getElem? (i := 132) rfl), rfl⟩
theorem zm1281 : Cond.code yX8_runScript cX8_runScript 3 (some .int) ∈ zw := List.mem_filter.mpr ⟨zt_6 _ (List.mem_of_getElem? (i := 133) rfl), rfl⟩
theorem zm1282 : Cond.fieldLink RX8 289 "PinballScorer" "hasErrorPosition" "Z" ∈ zw := List.mem_filter.mpr ⟨zt_2 _ (List.mem_of_getElem? (i := 49) rfl), rfl⟩
theorem zm1283 : Cond.fieldLink RX8 292 "PinballScorer$Script" "position" "I" ∈ zw := List.mem_filter.mpr ⟨zt_2 _ (List.mem_of_getElem? (i := 21) rfl), rfl⟩
theorem zm1284 : Cond.fieldLink RX8 295 "PinballScorer" "errorPosition" "I" ∈ zw := List.mem_filter.mpr ⟨zt_2 _ (List.mem_of_getElem? (i := 50) rfl), rfl⟩
theorem zm1285 : Cond.fieldLink RX8 306 "PinballScorer$Script" "commandCount" "I" ∈ zw := List.mem_filter.mpr ⟨zt_2 _ (List.mem_of_getElem? (i := 27) rfl), rfl⟩
theorem zm1286 : Cond.fieldLink RX8 316 "PinballScorer" "hasFailedCommand" "Z" ∈ zw := List.mem_filter.mpr ⟨zt_2 _ (List.mem_of_getElem? (i := 51) rfl), rfl⟩
theorem zm1287 : Cond.fieldLink RX8 319 "PinballScorer" "failedCommand" "I" ∈ zw := List.mem_filter.mpr ⟨zt_2 _ (List.mem_of_getElem? (i := 52) rfl), rfl⟩
theorem zm1288 : Cond.methodLink RX8 286 yX5_parse ∈ zw := List.mem_filter.mpr ⟨zt_6 _ (List.mem_of_getElem? (i := 134) rfl), rfl⟩
theorem zm1289 : Cond.instanceMethod yX5_parse ∈ zw := List.mem_filter.mpr ⟨zt_6 _ (List.mem_of_getElem? (i := 135) rfl), rfl⟩
theorem zm1290 : Cond.selects RX5 yX5_parse yX5_parse ∈ zw := List.mem_filter.mpr ⟨zt_6 _ (List.mem_of_getElem? (i := 136) rfl), rfl⟩
theorem zm1291 : Cond.code yX5_parse cX5_parse 2 (some .boolean) ∈ zw := List.mem_filter.mpr ⟨zt_6 _ (List.mem_of_getElem? (i := 137) rfl), rfl⟩
theorem zm1292 : Cond.fieldLink RX5 29 "PinballScorer$Script" "position" "I" ∈ zw := List.mem_filter.mpr ⟨zt_2 _ (List.mem_of_getElem? (i := 20) rfl), rfl⟩
theorem zm1293 : Cond.fieldLink RX5 32 "PinballScorer$Script" "commandCount" "I" ∈ zw := List.mem_filter.mpr ⟨zt_2 _ (List.mem_of_getElem? (i := 26) rfl), rfl⟩
theorem zm1294 : Cond.methodLink RX5 35 yX5_readCommand ∈ zw := List.mem_filter.mpr ⟨zt_6 _ (List.mem_of_getElem? (i := 138) rfl), rfl⟩
theorem zm1295 : Cond.instanceMethod yX5_readCommand ∈ zw := List.mem_filter.mpr ⟨zt_6 _ (List.mem_of_getElem? (i := 140) rfl), rfl⟩
theorem zm1296 : Cond.selects RX5 yX5_readCommand yX5_readCommand ∈ zw := List.mem_filter.mpr ⟨zp_2 (⟨"PinballScorer$Script", "readCommand", "()Z"⟩, 6) (List.mem_of_getElem? (i := 1) rfl), rfl⟩
theorem zm1297 : Cond.code yX5_readCommand cX5_readCommand 3 (some .boolean) ∈ zw := List.mem_filter.mpr ⟨zt_6 _ (List.mem_of_getElem? (i := 141) rfl), rfl⟩
theorem zm1298 : Cond.fieldLink RX5 47 "PinballScorer$Command" "word" "Ljava/lang/String;" ∈ zw := List.mem_filter.mpr ⟨zt_9 _ (List.mem_of_getElem? (i := 84) rfl), rfl⟩
theorem zm1299 : Cond.fieldLink RX5 55 "PinballScorer$Command" "takesDigit" "Z" ∈ zw := List.mem_filter.mpr ⟨zt_9 _ (List.mem_of_getElem? (i := 85) rfl), rfl⟩
theorem zm1300 : Cond.methodLink RX5 43 yX5_commandAhead ∈ zw := List.mem_filter.mpr ⟨zt_6 _ (List.mem_of_getElem? (i := 142) rfl), rfl⟩
theorem zm1301 : Cond.instanceMethod yX5_commandAhead ∈ zw := List.mem_filter.mpr ⟨zt_6 _ (List.mem_of_getElem? (i := 144) rfl), rfl⟩
theorem zm1302 : Cond.selects RX5 yX5_commandAhead yX5_commandAhead ∈ zw := List.mem_filter.mpr ⟨zp_2 (⟨"PinballScorer$Script", "commandAhead", "()LPinballScorer$Command;"⟩, 6) (List.mem_of_getElem? (i := 2) rfl), rfl⟩
theorem zm1303 : Cond.code yX5_commandAhead cX5_commandAhead 5 (some (.object "PinballScorer$Command")) ∈ zw := List.mem_filter.mpr ⟨zt_6 _ (List.mem_of_getElem? (i := 145) rfl), rfl⟩
theorem zm1304 : Cond.methodLink RX5 65 yJ0_indexOf_0f7a4 ∈ zw := List.mem_filter.mpr ⟨zt_6 _ (List.mem_of_getElem? (i := 148) rfl), rfl⟩
theorem zm1305 : Cond.instanceMethod yJ0_indexOf_0f7a4 ∈ zw := List.mem_filter.mpr ⟨zt_6 _ (List.mem_of_getElem? (i := 149) rfl), rfl⟩
theorem zm1306 : Cond.selects RJ0 yJ0_indexOf_0f7a4 yJ0_indexOf_0f7a4 ∈ zw := List.mem_filter.mpr ⟨zt_6 _ (List.mem_of_getElem? (i := 150) rfl), rfl⟩
theorem zm1307 : Cond.code yJ0_indexOf_0f7a4 cJ0_indexOf_0f7a4 2 (some .int) ∈ zw := List.mem_filter.mpr ⟨zt_6 _ (List.mem_of_getElem? (i := 151) rfl), rfl⟩
theorem zm1308 : Cond.methodLink RJ0 633 yJ0_indexOf_7cf53 ∈ zw := List.mem_filter.mpr ⟨zt_6 _ (List.mem_of_getElem? (i := 152) rfl), rfl⟩
theorem zm1309 : Cond.instanceMethod yJ0_indexOf_7cf53 ∈ zw := List.mem_filter.mpr ⟨zt_6 _ (List.mem_of_getElem? (i := 153) rfl), rfl⟩
theorem zm1310 : Cond.selects RJ0 yJ0_indexOf_7cf53 yJ0_indexOf_7cf53 ∈ zw := List.mem_filter.mpr ⟨zt_6 _ (List.mem_of_getElem? (i := 154) rfl), rfl⟩
theorem zm1311 : Cond.code yJ0_indexOf_7cf53 cJ0_indexOf_7cf53 3 (some .int) ∈ zw := List.mem_filter.mpr ⟨zt_6 _ (List.mem_of_getElem? (i := 155) rfl), rfl⟩
theorem zm1312 : Cond.fieldLink RJ0 9 "java/lang/String" "value" "[B" ∈ zw := List.mem_filter.mpr ⟨zt_3 _ (List.mem_of_getElem? (i := 217) rfl), rfl⟩
theorem zm1313 : Cond.methodLink RJ0 492 yJ0_isLatin1_aae02 ∈ zw := List.mem_filter.mpr ⟨zt_6 _ (List.mem_of_getElem? (i := 156) rfl), rfl⟩
theorem zm1314 : Cond.instanceMethod yJ0_isLatin1_aae02 ∈ zw := List.mem_filter.mpr ⟨zt_6 _ (List.mem_of_getElem? (i := 157) rfl), rfl⟩
theorem zm1315 : Cond.selects RJ0 yJ0_isLatin1_aae02 yJ0_isLatin1_aae02 ∈ zw := List.mem_filter.mpr ⟨zt_6 _ (List.mem_of_getElem? (i := 158) rfl), rfl⟩
theorem zm1316 : Cond.code yJ0_isLatin1_aae02 cJ0_isLatin1_aae02 1 (some .boolean) ∈ zw := List.mem_filter.mpr ⟨zt_6 _ (List.mem_of_getElem? (i := 159) rfl), rfl⟩
theorem zm1317 : Cond.fieldLink RJ0 38 "java/lang/String" "COMPACT_STRINGS" "Z" ∈ zw := List.mem_filter.mpr ⟨zt_3 _ (List.mem_of_getElem? (i := 32) rfl), rfl⟩
theorem zm1318 : Cond.fieldLink RJ0 15 "java/lang/String" "coder" "B" ∈ zw := List.mem_filter.mpr ⟨zt_3 _ (List.mem_of_getElem? (i := 218) rfl), rfl⟩
theorem zm1319 : Cond.methodLink RJ0 505 yJ0_length_8abf5 ∈ zw := List.mem_filter.mpr ⟨zt_6 _ (List.mem_of_getElem? (i := 160) rfl), rfl⟩
theorem zm1320 : Cond.instanceMethod yJ0_length_8abf5 ∈ zw := List.mem_filter.mpr ⟨zt_3 _ (List.mem_of_getElem? (i := 25) rfl), rfl⟩
theorem zm1321 : Cond.selects RJ0 yJ0_length_8abf5 yJ0_length_8abf5 ∈ zw := List.mem_filter.mpr ⟨zt_3 _ (List.mem_of_getElem? (i := 26) rfl), rfl⟩
theorem zm1322 : Cond.code yJ0_length_8abf5 cJ0_length_8abf5 1 (some .int) ∈ zw := List.mem_filter.mpr ⟨zt_3 _ (List.mem_of_getElem? (i := 27) rfl), rfl⟩
theorem zm1323 : Cond.methodLink RJ0 335 yJ0_coder_7d493 ∈ zw := List.mem_filter.mpr ⟨zt_3 _ (List.mem_of_getElem? (i := 28) rfl), rfl⟩
theorem zm1324 : Cond.instanceMethod yJ0_coder_7d493 ∈ zw := List.mem_filter.mpr ⟨zt_3 _ (List.mem_of_getElem? (i := 29) rfl), rfl⟩
theorem zm1325 : Cond.selects RJ0 yJ0_coder_7d493 yJ0_coder_7d493 ∈ zw := List.mem_filter.mpr ⟨zt_3 _ (List.mem_of_getElem? (i := 30) rfl), rfl⟩
theorem zm1326 : Cond.code yJ0_coder_7d493 cJ0_coder_7d493 1 (some .byte) ∈ zw := List.mem_filter.mpr ⟨zt_3 _ (List.mem_of_getElem? (i := 31) rfl), rfl⟩
theorem zm1327 : Cond.methodLink RJ0 637 yJ1_indexOf_4cfef ∈ zw := List.mem_filter.mpr ⟨zt_6 _ (List.mem_of_getElem? (i := 161) rfl), rfl⟩
theorem zm1328 : Cond.static yJ1_indexOf_4cfef ∈ zw := List.mem_filter.mpr ⟨zt_6 _ (List.mem_of_getElem? (i := 162) rfl), rfl⟩
theorem zm1329 : Cond.code yJ1_indexOf_4cfef cJ1_indexOf_4cfef 4 (some .int) ∈ zw := List.mem_filter.mpr ⟨zt_6 _ (List.mem_of_getElem? (i := 163) rfl), rfl⟩
theorem zm1330 : Cond.methodLink RJ1 92 Lib.Math.max.name ∈ zw := List.mem_filter.mpr ⟨zt_6 _ (List.mem_of_getElem? (i := 167) rfl), rfl⟩
theorem zm1331 : Cond.methodLink RJ1 38 Lib.Math.min.name ∈ zw := List.mem_filter.mpr ⟨zt_6 _ (List.mem_of_getElem? (i := 168) rfl), rfl⟩
theorem zm1332 : Cond.methodLink RJ1 88 yJ1_canEncode_9a6ad ∈ zw := List.mem_filter.mpr ⟨zt_6 _ (List.mem_of_getElem? (i := 164) rfl), rfl⟩
theorem zm1333 : Cond.static yJ1_canEncode_9a6ad ∈ zw := List.mem_filter.mpr ⟨zt_6 _ (List.mem_of_getElem? (i := 165) rfl), rfl⟩
theorem zm1334 : Cond.code yJ1_canEncode_9a6ad cJ1_canEncode_9a6ad 1 (some .boolean) ∈ zw := List.mem_filter.mpr ⟨zt_6 _ (List.mem_of_getElem? (i := 166) rfl), rfl⟩
theorem zm1335 : Cond.methodLink RJ1 95 yJ1_indexOfChar_4cfef ∈ zw := List.mem_filter.mpr ⟨zt_6 _ (List.mem_of_getElem? (i := 169) rfl), rfl⟩
theorem zm1336 : Cond.static yJ1_indexOfChar_4cfef ∈ zw := List.mem_filter.mpr ⟨zt_6 _ (List.mem_of_getElem? (i := 170) rfl), rfl⟩
theorem zm1337 : Cond.code yJ1_indexOfChar_4cfef cJ1_indexOfChar_4cfef 6 (some .int) ∈ zw := List.mem_filter.mpr ⟨zt_6 _ (List.mem_of_getElem? (i := 171) rfl), rfl⟩
theorem zm1338 : Cond.methodLink RJ0 640 yJ2_indexOf_4cfef ∈ zw := List.mem_filter.mpr ⟨zt_6 _ (List.mem_of_getElem? (i := 172) rfl), rfl⟩
theorem zm1339 : Cond.static yJ2_indexOf_4cfef ∈ zw := List.mem_filter.mpr ⟨zt_6 _ (List.mem_of_getElem? (i := 173) rfl), rfl⟩
theorem zm1340 : Cond.code yJ2_indexOf_4cfef cJ2_indexOf_4cfef 4 (some .int) ∈ zw := List.mem_filter.mpr ⟨zt_6 _ (List.mem_of_getElem? (i := 174) rfl), rfl⟩
theorem zm1341 : Cond.methodLink RJ2 224 Lib.Math.max.name ∈ zw := List.mem_filter.mpr ⟨zt_6 _ (List.mem_of_getElem? (i := 175) rfl), rfl⟩
theorem zm1342 : Cond.methodLink RJ2 183 Lib.Math.min.name ∈ zw := List.mem_filter.mpr ⟨zt_6 _ (List.mem_of_getElem? (i := 176) rfl), rfl⟩
theorem zm1343 : Cond.constant RJ2 227 (65536) ∈ zw := List.mem_filter.mpr ⟨zt_6 _ (List.mem_of_getElem? (i := 177) rfl), rfl⟩
theorem zm1344 : Cond.methodLink RJ2 228 yJ2_indexOfChar_4cfef ∈ zw := List.mem_filter.mpr ⟨zt_6 _ (List.mem_of_getElem? (i := 178) rfl), rfl⟩
theorem zm1345 : Cond.static yJ2_indexOfChar_4cfef ∈ zw := List.mem_filter.mpr ⟨zt_6 _ (List.mem_of_getElem? (i := 179) rfl), rfl⟩
theorem zm1346 : Cond.code yJ2_indexOfChar_4cfef cJ2_indexOfChar_4cfef 4 (some .int) ∈ zw := List.mem_filter.mpr ⟨zt_6 _ (List.mem_of_getElem? (i := 180) rfl), rfl⟩
theorem zm1347 : Cond.methodLink RJ2 244 yJ2_indexOfCharUnsafe_4cfef ∈ zw := List.mem_filter.mpr ⟨zt_6 _ (List.mem_of_getElem? (i := 181) rfl), rfl⟩
theorem zm1348 : Cond.static yJ2_indexOfCharUnsafe_4cfef ∈ zw := List.mem_filter.mpr ⟨zt_6 _ (List.mem_of_getElem? (i := 182) rfl), rfl⟩
theorem zm1349 : Cond.code yJ2_indexOfCharUnsafe_4cfef cJ2_indexOfCharUnsafe_4cfef 5 (some .int) ∈ zw := List.mem_filter.mpr ⟨zt_6 _ (List.mem_of_getElem? (i := 183) rfl), rfl⟩
theorem zm1350 : Cond.methodLink RJ2 71 yJ2_getChar_3b067 ∈ zw := List.mem_filter.mpr ⟨zt_3 _ (List.mem_of_getElem? (i := 210) rfl), rfl⟩
theorem zm1351 : Cond.methodLink RJ2 232 yJ2_indexOfSupplementary_4cfef ∈ zw := List.mem_filter.mpr ⟨zt_6 _ (List.mem_of_getElem? (i := 184) rfl), rfl⟩
theorem zm1352 : Cond.static yJ2_indexOfSupplementary_4cfef ∈ zw := List.mem_filter.mpr ⟨zt_6 _ (List.mem_of_getElem? (i := 185) rfl), rfl⟩
theorem zm1353 : Cond.code yJ2_indexOfSupplementary_4cfef cJ2_indexOfSupplementary_4cfef 7 (some .int) ∈ zw := List.mem_filter.mpr ⟨zt_6 _ (List.mem_of_getElem? (i := 186) rfl), rfl⟩
theorem zm1354 : Cond.methodLink RJ2 164 yJ11_isValidCodePoint_9a6ad ∈ zw := List.mem_filter.mpr ⟨zt_6 _ (List.mem_of_getElem? (i := 187) rfl), rfl⟩
theorem zm1355 : Cond.static yJ11_isValidCodePoint_9a6ad ∈ zw := List.mem_filter.mpr ⟨zt_6 _ (List.mem_of_getElem? (i := 188) rfl), rfl⟩
theorem zm1356 : Cond.initialized RJ11 ∈ zw := List.mem_filter.mpr ⟨zt_1 _ (List.mem_of_getElem? (i := 31) rfl), rfl⟩
theorem zm1357 : Cond.code yJ11_isValidCodePoint_9a6ad cJ11_isValidCodePoint_9a6ad 2 (some .boolean) ∈ zw := List.mem_filter.mpr ⟨zt_6 _ (List.mem_of_getElem? (i := 189) rfl), rfl⟩
theorem zm1358 : Cond.methodLink RJ2 157 yJ11_highSurrogate_5068e ∈ zw := List.mem_filter.mpr ⟨zt_6 _ (List.mem_of_getElem? (i := 190) rfl), rfl⟩
theorem zm1359 : Cond.static yJ11_highSurrogate_5068e ∈ zw := List.mem_filter.mpr ⟨zt_6 _ (List.mem_of_getElem? (i := 191) rfl), rfl⟩
theorem zm1360 : Cond.code yJ11_highSurrogate_5068e cJ11_highSurrogate_5068e 1 (some .char) ∈ zw := List.mem_filter.mpr ⟨zt_6 _ (List.mem_of_getElem? (i := 192) rfl), rfl⟩
theorem zm1361 : Cond.constant RJ11 110 (55232) ∈ zw := List.mem_filter.mpr ⟨zt_6 _ (List.mem_of_getElem? (i := 193) rfl), rfl⟩
theorem zm1362 : Cond.methodLink RJ2 161 yJ11_lowSurrogate_5068e ∈ zw := List.mem_filter.mpr ⟨zt_6 _ (List.mem_of_getElem? (i := 194) rfl), rfl⟩
theorem zm1363 : Cond.static yJ11_lowSurrogate_5068e ∈ zw := List.mem_filter.mpr ⟨zt_6 _ (List.mem_of_getElem? (i := 195) rfl), rfl⟩
theorem zm1364 : Cond.code yJ11_lowSurrogate_5068e cJ11_lowSurrogate_5068e 1 (some .char) ∈ zw := List.mem_filter.mpr ⟨zt_6 _ (List.mem_of_getElem? (i := 196) rfl), rfl⟩
theorem zm1365 : Cond.constant RJ11 76 (56320) ∈ zw := List.mem_filter.mpr ⟨zt_6 _ (List.mem_of_getElem? (i := 197) rfl), rfl⟩
theorem zm1366 : Cond.methodLink RX5 51 yX5_readWord ∈ zw := List.mem_filter.mpr ⟨zt_6 _ (List.mem_of_getElem? (i := 198) rfl), rfl⟩
theorem zm1367 : Cond.instanceMethod yX5_readWord ∈ zw := List.mem_filter.mpr ⟨zt_6 _ (List.mem_of_getElem? (i := 200) rfl), rfl⟩
theorem zm1368 : Cond.selects RX5 yX5_readWord yX5_readWord ∈ zw := List.mem_filter.mpr ⟨zp_2 (⟨"PinballScorer$Script", "readWord", "(Ljava/lang/String;)Z"⟩, 6) (List.mem_of_getElem? (i := 3) rfl), rfl⟩
theorem zm1369 : Cond.code yX5_readWord cX5_readWord 3 (some .boolean) ∈ zw := List.mem_filter.mpr ⟨zt_6 _ (List.mem_of_getElem? (i := 201) rfl), rfl⟩
theorem zm1370 : Cond.methodLink RX5 71 yJ0_length_8abf5 ∈ zw := List.mem_filter.mpr ⟨zt_6 _ (List.mem_of_getElem? (i := 202) rfl), rfl⟩
theorem zm1371 : Cond.methodLink RX5 74 yJ0_charAt_5068e ∈ zw := List.mem_filter.mpr ⟨zt_6 _ (List.mem_of_getElem? (i := 203) rfl), rfl⟩
theorem zm1372 : Cond.instanceMethod yJ0_charAt_5068e ∈ zw := List.mem_filter.mpr ⟨zt_6 _ (List.mem_of_getElem? (i := 204) rfl), rfl⟩
theorem zm1373 : Cond.selects RJ0 yJ0_charAt_5068e yJ0_charAt_5068e ∈ zw := List.mem_filter.mpr ⟨zt_6 _ (List.mem_of_getElem? (i := 205) rfl), rfl⟩
theorem zm1374 : Cond.code yJ0_charAt_5068e cJ0_charAt_5068e 2 (some .char) ∈ zw := List.mem_filter.mpr ⟨zt_6 _ (List.mem_of_getElem? (i := 206) rfl), rfl⟩
theorem zm1375 : Cond.methodLink RJ0 495 yJ1_charAt_3b067 ∈ zw := List.mem_filter.mpr ⟨zt_6 _ (List.mem_of_getElem? (i := 207) rfl), rfl⟩
theorem zm1376 : Cond.static yJ1_charAt_3b067 ∈ zw := List.mem_filter.mpr ⟨zt_6 _ (List.mem_of_getElem? (i := 208) rfl), rfl⟩
theorem zm1377 : Cond.code yJ1_charAt_3b067 cJ1_charAt_3b067 2 (some .char) ∈ zw := List.mem_filter.mpr ⟨zt_6 _ (List.mem_of_getElem? (i := 209) rfl), rfl⟩
theorem zm1378 : Cond.methodLink RJ1 9 yJ0_checkIndex_df160 ∈ zw := List.mem_filter.mpr ⟨zt_6 _ (List.mem_of_getElem? (i := 210) rfl), rfl⟩
theorem zm1379 : Cond.methodLink RJ0 498 yJ2_charAt_3b067 ∈ zw := List.mem_filter.mpr ⟨zt_6 _ (List.mem_of_getElem? (i := 211) rfl), rfl⟩
theorem zm1380 : Cond.static yJ2_charAt_3b067 ∈ zw := List.mem_filter.mpr ⟨zt_6 _ (List.mem_of_getElem? (i := 212) rfl), rfl⟩
theorem zm1381 : Cond.code yJ2_charAt_3b067 cJ2_charAt_3b067 2 (some .char) ∈ zw := List.mem_filter.mpr ⟨zt_6 _ (List.mem_of_getElem? (i := 213) rfl), rfl⟩
theorem zm1382 : Cond.methodLink RX5 39 yX5_read ∈ zw := List.mem_filter.mpr ⟨zt_6 _ (List.mem_of_getElem? (i := 214) rfl), rfl⟩
theorem zm1383 : Cond.instanceMethod yX5_read ∈ zw := List.mem_filter.mpr ⟨zt_6 _ (List.mem_of_getElem? (i := 216) rfl), rfl⟩
theorem zm1384 : Cond.selects RX5 yX5_read yX5_read ∈ zw := List.mem_filter.mpr ⟨zp_2 (⟨"PinballScorer$Script", "read", "(C)Z"⟩, 6) (List.mem_of_getElem? (i := 4) rfl), rfl⟩
theorem zm1385 : Cond.code yX5_read cX5_read 2 (some .boolean) ∈ zw := List.mem_filter.mpr ⟨zt_6 _ (List.mem_of_getElem? (i := 217) rfl), rfl⟩
theorem zm1386 : Cond.methodLink RX5 59 yX5_isDigitAhead ∈ zw := List.mem_filter.mpr ⟨zt_6 _ (List.mem_of_getElem? (i := 218) rfl), rfl⟩
theorem zm1387 : Cond.instanceMethod yX5_isDigitAhead ∈ zw := List.mem_filter.mpr ⟨zt_6 _ (List.mem_of_getElem? (i := 220) rfl), rfl⟩
theorem zm1388 : Cond.selects RX5 yX5_isDigitAhead yX5_isDigitAhead ∈ zw := List.mem_filter.mpr ⟨zp_2 (⟨"PinballScorer$Script", "isDigitAhead", "()Z"⟩, 6) (List.mem_of_getElem? (i := 5) rfl), rfl⟩
theorem zm1389 : Cond.code yX5_isDigitAhead cX5_isDigitAhead 1 (some .boolean) ∈ zw := List.mem_filter.mpr ⟨zt_6 _ (List.mem_of_getElem? (i := 221) rfl), rfl⟩
theorem zm1390 : Cond.methodLink RX8 300 yX3_hold ∈ zw := List.mem_filter.mpr ⟨zt_6 _ (List.mem_of_getElem? (i := 223) rfl), rfl⟩
theorem zm1391 : Cond.methodLink RX8 303 yX8_executeCommands ∈ zw := List.mem_filter.mpr ⟨zt_6 _ (List.mem_of_getElem? (i := 224) rfl), rfl⟩
theorem zm1392 : Cond.instanceMethod yX8_executeCommands ∈ zw := List.mem_filter.mpr ⟨zt_6 _ (List.mem_of_getElem? (i := 226) rfl), rfl⟩
theorem zm1393 : Cond.selects RX8 yX8_executeCommands yX8_executeCommands ∈ zw := List.mem_filter.mpr ⟨zp_2 (⟨"PinballScorer", "executeCommands", "()I"⟩, 11) (List.mem_of_getElem? (i := 6) rfl), rfl⟩
theorem zm1394 : Cond.code yX8_executeCommands cX8_executeCommands 2 (some .int) ∈ zw := List.mem_filter.mpr ⟨zt_6 _ (List.mem_of_getElem? (i := 227) rfl), rfl⟩
theorem zm1395 : Cond.fieldLink RX8 366 "PinballScorer$Script" "commands" "[LPinballScorer$Command;" ∈ zw := List.mem_filter.mpr ⟨zt_2 _ (List.mem_of_getElem? (i := 23) rfl), rfl⟩
theorem zm1396 : Cond.fieldLink RX8 370 "PinballScorer$Script" "digits" "[I" ∈ zw := List.mem_filter.mpr ⟨zt_2 _ (List.mem_of_getElem? (i := 25) rfl), rfl⟩
theorem zm1397 : Cond.methodLink RX8 373 yX6_execute ∈ zw := List.mem_filter.mpr ⟨zt_6 _ (List.mem_of_getElem? (i := 228) rfl), rfl⟩
theorem zm1398 : Cond.instanceMethod yX6_execute ∈ zw := List.mem_filter.mpr ⟨zt_6 _ (List.mem_of_getElem? (i := 229) rfl), rfl⟩
theorem zm1399 : Cond.selects RX6 yX6_execute yX6_execute ∈ zw := List.mem_filter.mpr ⟨zt_6 _ (List.mem_of_getElem? (i := 230) rfl), rfl⟩
theorem zm1400 : Cond.code yX6_execute cX6_execute 3 (some .boolean) ∈ zw := List.mem_filter.mpr ⟨zt_6 _ (List.mem_of_getElem? (i := 231) rfl), rfl⟩
theorem zm1401 : Cond.fieldLink RX6 162 "PinballScorer$1" "$SwitchMap$PinballScorer$Command" "[I" ∈ zw := List.mem_filter.mpr ⟨zt_6 _ (List.mem_of_getElem? (i := 236) rfl), rfl⟩
theorem zm1402 : Cond.methodLink RX6 158 yX6_allows ∈ zw := List.mem_filter.mpr ⟨zt_6 _ (List.mem_of_getElem? (i := 232) rfl), rfl⟩
theorem zm1403 : Cond.instanceMethod yX6_allows ∈ zw := List.mem_filter.mpr ⟨zt_6 _ (List.mem_of_getElem? (i := 234) rfl), rfl⟩
theorem zm1404 : Cond.selects RX6 yX6_allows yX6_allows ∈ zw := List.mem_filter.mpr ⟨zp_2 (⟨"PinballScorer$Table", "allows", "(LPinballScorer$Command;I)Z"⟩, 10) (List.mem_of_getElem? (i := 7) rfl), rfl⟩
theorem zm1405 : Cond.code yX6_allows cX6_allows 3 (some .boolean) ∈ zw := List.mem_filter.mpr ⟨zt_6 _ (List.mem_of_getElem? (i := 235) rfl), rfl⟩
theorem zm1406 : Cond.methodLink RX6 167 ⟨"PinballScorer$Command", "ordinal", "()I"⟩ ∈ zw := List.mem_filter.mpr ⟨zt_6 _ (List.mem_of_getElem? (i := 238) rfl), rfl⟩
theorem zm1407 : Cond.sameMethod "PinballScorer$Command" "java/lang/Enum" "ordinal" "()I" ∈ zw := List.mem_filter.mpr ⟨zt_6 _ (List.mem_of_getElem? (i := 239) rfl), rfl⟩
theorem zm1408 : Cond.selects RX2 ⟨"PinballScorer$Command", "ordinal", "()I"⟩ yJx29ce0_ordinal_8abf5 ∈ zw := List.mem_filter.mpr ⟨zt_7 _ (List.mem_of_getElem? (i := 1) rfl), rfl⟩
theorem zm1409 : Cond.instanceMethod yJx29ce0_ordinal_8abf5 ∈ zw := List.mem_filter.mpr ⟨zt_7 _ (List.mem_of_getElem? (i := 2) rfl), rfl⟩
theorem zm1411 : Cond.code yJx29ce0_ordinal_8abf5 cJx29ce0_ordinal_8abf5 1 (some .int) ∈ zw := List.mem_filter.mpr ⟨zt_7 _ (List.mem_of_getElem? (i := 3) rfl), rfl⟩
theorem zm1412 : Cond.fieldLink RJx29ce0 7 "java/lang/Enum" "ordinal" "I" ∈ zw := List.mem_filter.mpr ⟨zt_9 _ (List.mem_of_getElem? (i := 86) rfl), rfl⟩
theorem zm1413 : Cond.methodLink RX6 195 yX6_canAdmit ∈ zw := List.mem_filter.mpr ⟨zt_7 _ (List.mem_of_getElem? (i := 4) rfl), rfl⟩
theorem zm1414 : Cond.methodLink RX6 172 yX6_admit ∈ zw := List.mem_filter.mpr ⟨zt_7 _ (List.mem_of_getElem? (i := 7) rfl), rfl⟩
theorem zm1415 : Cond.methodLink RX6 175 yX6_beginGame ∈ zw := List.mem_filter.mpr ⟨zt_7 _ (List.mem_of_getElem? (i := 8) rfl), rfl⟩
theorem zm1416 : Cond.methodLink RX6 178 yX6_playLane ∈ zw := List.mem_filter.mpr ⟨zt_7 _ (List.mem_of_getElem? (i := 9) rfl), rfl⟩
theorem zm1417 : Cond.methodLink RX6 181 yX6_playBumper ∈ zw := List.mem_filter.mpr ⟨zt_7 _ (List.mem_of_getElem? (i := 10) rfl), rfl⟩
theorem zm1418 : Cond.methodLink RX6 184 yX6_playTarget ∈ zw := List.mem_filter.mpr ⟨zt_7 _ (List.mem_of_getElem? (i := 11) rfl), rfl⟩
theorem zm1419 : Cond.methodLink RX6 187 yX6_shake ∈ zw := List.mem_filter.mpr ⟨zt_7 _ (List.mem_of_getElem? (i := 12) rfl), rfl⟩
theorem zm1420 : Cond.methodLink RX6 189 yX6_loseBall ∈ zw := List.mem_filter.mpr ⟨zt_7 _ (List.mem_of_getElem? (i := 13) rfl), rfl⟩
theorem zm1421 : Cond.methodLink RX6 192 yX6_breakOff ∈ zw := List.mem_filter.mpr ⟨zt_7 _ (List.mem_of_getElem? (i := 14) rfl), rfl⟩
theorem zm1422 : Cond.methodLink RX8 309 yX3_held ∈ zw := List.mem_filter.mpr ⟨zt_7 _ (List.mem_of_getElem? (i := 15) rfl), rfl⟩
theorem zm1423 : Cond.instanceMethod yX3_held ∈ zw := List.mem_filter.mpr ⟨zt_7 _ (List.mem_of_getElem? (i := 16) rfl), rfl⟩
theorem zm1424 : Cond.selects RX3 yX3_held yX3_held ∈ zw := List.mem_filter.mpr ⟨zt_7 _ (List.mem_of_getElem? (i := 17) rfl), rfl⟩
theorem zm1425 : Cond.code yX3_held cX3_held 1 (some (.object "PinballScorer$Table")) ∈ zw := List.mem_filter.mpr ⟨zt_7 _ (List.mem_of_getElem? (i := 18) rfl), rfl⟩
theorem zm1426 : Cond.methodLink RX8 313 yX6_copyFrom ∈ zw := List.mem_filter.mpr ⟨zt_4 _ (List.mem_of_getElem? (i := 70) rfl), rfl⟩
theorem zm1427 : Cond.methodLink RX8 324 yX3_keepHeld ∈ zw := List.mem_filter.mpr ⟨zt_7 _ (List.mem_of_getElem? (i := 20) rfl), rfl⟩
theorem zm1428 : Cond.methodLink RL 329 yX9_runScript ∈ zw := List.mem_filter.mpr ⟨zt_8 _ (List.mem_of_getElem? (i := 230) rfl), rfl⟩
theorem zm1429 : Cond.instanceMethod yX9_runScript ∈ zw := List.mem_filter.mpr ⟨zt_8 _ (List.mem_of_getElem? (i := 231) rfl), rfl⟩
theorem zm1430 : Cond.selects RX9 yX9_runScript yX9_runScript ∈ zw := List.mem_filter.mpr ⟨zt_8 _ (List.mem_of_getElem? (i := 232) rfl), rfl⟩
theorem zm1431 : Cond.code yX9_runScript cX9_runScript 2 (some .int) ∈ zw := List.mem_filter.mpr ⟨zt_8 _ (List.mem_of_getElem? (i := 233) rfl), rfl⟩
theorem zm1432 : Cond.methodLink RX9 215 yX9_parse ∈ zw := List.mem_filter.mpr ⟨zt_8 _ (List.mem_of_getElem? (i := 234) rfl), rfl⟩
theorem zm1433 : Cond.instanceMethod yX9_parse ∈ zw := List.mem_filter.mpr ⟨zt_8 _ (List.mem_of_getElem? (i := 236) rfl), rfl⟩
theorem zm1434 : Cond.selects RX9 yX9_parse yX9_parse ∈ zw := List.mem_filter.mpr ⟨zp_4 (⟨"PinballScorerModel", "parse", "()V"⟩, 20) (List.mem_of_getElem? (i := 12) rfl), rfl⟩
theorem zm1435 : Cond.code yX9_parse cX9_parse 1 none ∈ zw := List.mem_filter.mpr ⟨zt_8 _ (List.mem_of_getElem? (i := 237) rfl), rfl⟩
theorem zm1436 : Cond.methodLink RX9 212 yX9_command ∈ zw := List.mem_filter.mpr ⟨zt_8 _ (List.mem_of_getElem? (i := 238) rfl), rfl⟩
theorem zm1437 : Cond.instanceMethod yX9_command ∈ zw := List.mem_filter.mpr ⟨zt_9 _ (List.mem_of_getElem? (i := 0) rfl), rfl⟩
theorem zm1438 : Cond.selects RX9 yX9_command yX9_command ∈ zw := List.mem_filter.mpr ⟨zp_4 (⟨"PinballScorerModel", "command", "()V"⟩, 20) (List.mem_of_getElem? (i := 13) rfl), rfl⟩
theorem zm1439 : Cond.code yX9_command cX9_command 3 none ∈ zw := List.mem_filter.mpr ⟨zt_9 _ (List.mem_of_getElem? (i := 1) rfl), rfl⟩
theorem zm1440 : Cond.methodLink RX9 206 yX9_word ∈ zw := List.mem_filter.mpr ⟨zt_9 _ (List.mem_of_getElem? (i := 2) rfl), rfl⟩
theorem zm1441 : Cond.instanceMethod yX9_word ∈ zw := List.mem_filter.mpr ⟨zt_9 _ (List.mem_of_getElem? (i := 4) rfl), rfl⟩
theorem zm1442 : Cond.selects RX9 yX9_word yX9_word ∈ zw := List.mem_filter.mpr ⟨zp_4 (⟨"PinballScorerModel", "word", "()I"⟩, 20) (List.mem_of_getElem? (i := 14) rfl), rfl⟩
theorem zm1443 : Cond.code yX9_word cX9_word 4 (some .int) ∈ zw := List.mem_filter.mpr ⟨zt_9 _ (List.mem_of_getElem? (i := 5) rfl), rfl⟩
theorem zm1444 : Cond.methodLink RX9 203 yX9_letter ∈ zw := List.mem_filter.mpr ⟨zt_9 _ (List.mem_of_getElem? (i := 6) rfl), rfl⟩
theorem zm1445 : Cond.static yX9_letter ∈ zw := List.mem_filter.mpr ⟨zt_9 _ (List.mem_of_getElem? (i := 7) rfl), rfl⟩
theorem zm1446 : Cond.code yX9_letter cX9_letter 2 (some .int) ∈ zw := List.mem_filter.mpr ⟨zt_9 _ (List.mem_of_getElem? (i := 8) rfl), rfl⟩
theorem zm1447 : Cond.methodLink RX9 199 yX9_pick ∈ zw := List.mem_filter.mpr ⟨zt_9 _ (List.mem_of_getElem? (i := 9) rfl), rfl⟩
theorem zm1448 : Cond.static yX9_pick ∈ zw := List.mem_filter.mpr ⟨zt_9 _ (List.mem_of_getElem? (i := 10) rfl), rfl⟩
theorem zm1449 : Cond.code yX9_pick cX9_pick 7 (some .int) ∈ zw := List.mem_filter.mpr ⟨zt_9 _ (List.mem_of_getElem? (i := 11) rfl), rfl⟩
theorem zm1450 : Cond.methodLink RX9 209 yX9_digit ∈ zw := List.mem_filter.mpr ⟨zt_9 _ (List.mem_of_getElem? (i := 12) rfl), rfl⟩
theorem zm1451 : Cond.instanceMethod yX9_digit ∈ zw := List.mem_filter.mpr ⟨zt_9 _ (List.mem_of_getElem? (i := 14) rfl), rfl⟩
theorem zm1452 : Cond.selects RX9 yX9_digit yX9_digit ∈ zw := List.mem_filter.mpr ⟨zp_4 (⟨"PinballScorerModel", "digit", "()I"⟩, 20) (List.mem_of_getElem? (i := 15) rfl), rfl⟩
theorem zm1453 : Cond.code yX9_digit cX9_digit 1 (some .int) ∈ zw := List.mem_filter.mpr ⟨zt_9 _ (List.mem_of_getElem? (i := 15) rfl), rfl⟩
theorem zm1454 : Cond.methodLink RX9 196 yX9_mark ∈ zw := List.mem_filter.mpr ⟨zt_9 _ (List.mem_of_getElem? (i := 16) rfl), rfl⟩
theorem zm1455 : Cond.instanceMethod yX9_mark ∈ zw := List.mem_filter.mpr ⟨zt_9 _ (List.mem_of_getElem? (i := 18) rfl), rfl⟩
theorem zm1456 : Cond.selects RX9 yX9_mark yX9_mark ∈ zw := List.mem_filter.mpr ⟨zp_5 (⟨"PinballScorerModel", "mark", "()I"⟩, 20) (List.mem_of_getElem? (i := 0) rfl), rfl⟩
theorem zm1457 : Cond.code yX9_mark cX9_mark 1 (some .int) ∈ zw := List.mem_filter.mpr ⟨zt_9 _ (List.mem_of_getElem? (i := 19) rfl), rfl⟩
theorem zm1458 : Cond.methodLink RX9 218 yX9_cannot ∈ zw := List.mem_filter.mpr ⟨zt_9 _ (List.mem_of_getElem? (i := 20) rfl), rfl⟩
theorem zm1459 : Cond.instanceMethod yX9_cannot ∈ zw := List.mem_filter.mpr ⟨zt_9 _ (List.mem_of_getElem? (i := 22) rfl), rfl⟩
theorem zm1460 : Cond.selects RX9 yX9_cannot yX9_cannot ∈ zw := List.mem_filter.mpr ⟨zp_5 (⟨"PinballScorerModel", "cannot", "(I)Z"⟩, 20) (List.mem_of_getElem? (i := 1) rfl), rfl⟩
theorem zm1461 : Cond.code yX9_cannot cX9_cannot 4 (some .boolean) ∈ zw := List.mem_filter.mpr ⟨zt_9 _ (List.mem_of_getElem? (i := 23) rfl), rfl⟩
theorem zm1462 : Cond.methodLink RL 330 yL_errorPosition ∈ zw := List.mem_filter.mpr ⟨zt_7 _ (List.mem_of_getElem? (i := 21) rfl), rfl⟩
theorem zm1463 : Cond.static yL_errorPosition ∈ zw := List.mem_filter.mpr ⟨zt_7 _ (List.mem_of_getElem? (i := 22) rfl), rfl⟩
theorem zm1464 : Cond.codeWith yL_errorPosition cL_errorPosition 3 (some .int) [(0, 8, 11, 18)] ∈ zw := List.mem_filter.mpr ⟨zt_7 _ (List.mem_of_getElem? (i := 23) rfl), rfl⟩
theorem zm1465 : Cond.methodLink RL 148 yX8_errorPosition ∈ zw := List.mem_filter.mpr ⟨zt_7 _ (List.mem_of_getElem? (i := 24) rfl), rfl⟩
theorem zm1466 : Cond.instanceMethod yX8_errorPosition ∈ zw := List.mem_filter.mpr ⟨zt_7 _ (List.mem_of_getElem? (i := 25) rfl), rfl⟩
theorem zm1467 : Cond.selects RX8 yX8_errorPosition yX8_errorPosition ∈ zw := List.mem_filter.mpr ⟨zt_7 _ (List.mem_of_getElem? (i := 26) rfl), rfl⟩
theorem zm1468 : Cond.code yX8_errorPosition cX8_errorPosition 1 (some .int) ∈ zw := List.mem_filter.mpr ⟨zt_7 _ (List.mem_of_getElem? (i := 27) rfl), rfl⟩
theorem zm1469 : Cond.methodLink RL 332 yX9_errorPosition ∈ zw := List.mem_filter.mpr ⟨zt_9 _ (List.mem_of_getElem? (i := 24) rfl), rfl⟩
theorem zm1470 : Cond.instanceMethod yX9_errorPosition ∈ zw := List.mem_filter.mpr ⟨zt_9 _ (List.mem_of_getElem? (i := 25) rfl), rfl⟩
theorem zm1471 : Cond.selects RX9 yX9_errorPosition yX9_errorPosition ∈ zw := List.mem_filter.mpr ⟨zt_9 _ (List.mem_of_getElem? (i := 26) rfl), rfl⟩
theorem zm1472 : Cond.code yX9_errorPosition cX9_errorPosition 1 (some .int) ∈ zw := List.mem_filter.mpr ⟨zt_9 _ (List.mem_of_getElem? (i := 27) rfl), rfl⟩
theorem zm1473 : Cond.methodLink RX9 222 yX9_present ∈ zw := List.mem_filter.mpr ⟨zt_9 _ (List.mem_of_getElem? (i := 28) rfl), rfl⟩
theorem zm1474 : Cond.instanceMethod yX9_present ∈ zw := List.mem_filter.mpr ⟨zt_9 _ (List.mem_of_getElem? (i := 30) rfl), rfl⟩
theorem zm1475 : Cond.selects RX9 yX9_present yX9_present ∈ zw := List.mem_filter.mpr ⟨zp_5 (⟨"PinballScorerModel", "present", "(I)I"⟩, 20) (List.mem_of_getElem? (i := 2) rfl), rfl⟩
theorem zm1476 : Cond.code yX9_present cX9_present 2 (some .int) ∈ zw := List.mem_filter.mpr ⟨zt_9 _ (List.mem_of_getElem? (i := 31) rfl), rfl⟩
theorem zm1477 : Cond.methodLink RL 333 yL_failedCommand ∈ zw := List.mem_filter.mpr ⟨zt_7 _ (List.mem_of_getElem? (i := 29) rfl), rfl⟩
theorem zm1478 : Cond.static yL_failedCommand ∈ zw := List.mem_filter.mpr ⟨zt_7 _ (List.mem_of_getElem? (i := 30) rfl), rfl⟩
theorem zm1479 : Cond.codeWith yL_failedCommand cL_failedCommand 3 (some .int) [(0, 8, 11, 18)] ∈ zw := List.mem_filter.mpr ⟨zt_7 _ (List.mem_of_getElem? (i := 31) rfl), rfl⟩
theorem zm1480 : Cond.methodLink RL 151 yX8_failedCommand ∈ zw := List.mem_filter.mpr ⟨zt_7 _ (List.mem_of_getElem? (i := 32) rfl), rfl⟩
theorem zm1481 : Cond.instanceMethod yX8_failedCommand ∈ zw := List.mem_filter.mpr ⟨zt_7 _ (List.mem_of_getElem? (i := 33) rfl), rfl⟩
theorem zm1482 : Cond.selects RX8 yX8_failedCommand yX8_failedCommand ∈ zw := List.mem_filter.mpr ⟨zt_7 _ (List.mem_of_getElem? (i := 34) rfl), rfl⟩
theorem zm1483 : Cond.code yX8_failedCommand cX8_failedCommand 1 (some .int) ∈ zw := List.mem_filter.mpr ⟨zt_7 _ (List.mem_of_getElem? (i := 35) rfl), rfl⟩
theorem zm1484 : Cond.methodLink RL 335 yX9_failedCommand ∈ zw := List.mem_filter.mpr ⟨zt_9 _ (List.mem_of_getElem? (i := 32) rfl), rfl⟩
theorem zm1485 : Cond.instanceMethod yX9_failedCommand ∈ zw := List.mem_filter.mpr ⟨zt_9 _ (List.mem_of_getElem? (i := 33) rfl), rfl⟩
theorem zm1486 : Cond.selects RX9 yX9_failedCommand yX9_failedCommand ∈ zw := List.mem_filter.mpr ⟨zt_9 _ (List.mem_of_getElem? (i := 34) rfl), rfl⟩
theorem zm1487 : Cond.code yX9_failedCommand cX9_failedCommand 1 (some .int) ∈ zw := List.mem_filter.mpr ⟨zt_9 _ (List.mem_of_getElem? (i := 35) rfl), rfl⟩
theorem zm1488 : Cond.methodLink RL 336 yL_undo ∈ zw := List.mem_filter.mpr ⟨zt_7 _ (List.mem_of_getElem? (i := 37) rfl), rfl⟩
theorem zm1489 : Cond.static yL_undo ∈ zw := List.mem_filter.mpr ⟨zt_7 _ (List.mem_of_getElem? (i := 38) rfl), rfl⟩
theorem zm1490 : Cond.codeWith yL_undo cL_undo 3 (some .int) [(0, 8, 11, 18)] ∈ zw := List.mem_filter.mpr ⟨zt_7 _ (List.mem_of_getElem? (i := 39) rfl), rfl⟩
theorem zm1491 : Cond.methodLink RL 154 yX8_undo ∈ zw := List.mem_filter.mpr ⟨zt_7 _ (List.mem_of_getElem? (i := 40) rfl), rfl⟩
theorem zm1492 : Cond.instanceMethod yX8_undo ∈ zw := List.mem_filter.mpr ⟨zt_7 _ (List.mem_of_getElem? (i := 41) rfl), rfl⟩
theorem zm1493 : Cond.selects RX8 yX8_undo yX8_undo ∈ zw := List.mem_filter.mpr ⟨zt_7 _ (List.mem_of_getElem? (i := 42) rfl), rfl⟩
theorem zm1494 : Cond.code yX8_undo cX8_undo 1 (some .int) ∈ zw := List.mem_filter.mpr ⟨zt_7 _ (List.mem_of_getElem? (i := 43) rfl), rfl⟩
theorem zm1495 : Cond.fieldLink RX8 331 "PinballScorer$History" "count" "I" ∈ zw := List.mem_filter.mpr ⟨zt_1 _ (List.mem_of_getElem? (i := 206) rfl), rfl⟩
theorem zm1496 : Cond.methodLink RX8 334 yX3_takeLatest ∈ zw := List.mem_filter.mpr ⟨zt_7 _ (List.mem_of_getElem? (i := 45) rfl), rfl⟩
theorem zm1497 : Cond.instanceMethod yX3_takeLatest ∈ zw := List.mem_filter.mpr ⟨zt_7 _ (List.mem_of_getElem? (i := 46) rfl), rfl⟩
theorem zm1498 : Cond.selects RX3 yX3_takeLatest yX3_takeLatest ∈ zw := List.mem_filter.mpr ⟨zt_7 _ (List.mem_of_getElem? (i := 47) rfl), rfl⟩
theorem zm1499 : Cond.code yX3_takeLatest cX3_takeLatest 1 (some (.object "PinballScorer$Table")) ∈ zw := List.mem_filter.mpr ⟨zt_7 _ (List.mem_of_getElem? (i := 48) rfl), rfl⟩
theorem zm1500 : Cond.methodLink RL 338 yX9_undo ∈ zw := List.mem_filter.mpr ⟨zt_9 _ (List.mem_of_getElem? (i := 36) rfl), rfl⟩
theorem zm1501 : Cond.instanceMethod yX9_undo ∈ zw := List.mem_filter.mpr ⟨zt_9 _ (List.mem_of_getElem? (i := 37) rfl), rfl⟩
theorem zm1502 : Cond.selects RX9 yX9_undo yX9_undo ∈ zw := List.mem_filter.mpr ⟨zt_9 _ (List.mem_of_getElem? (i := 38) rfl), rfl⟩
theorem zm1503 : Cond.code yX9_undo cX9_undo 1 (some .int) ∈ zw := List.mem_filter.mpr ⟨zt_9 _ (List.mem_of_getElem? (i := 39) rfl), rfl⟩
theorem zm1504 : Cond.methodLink RL 339 yX8_save ∈ zw := List.mem_filter.mpr ⟨zt_4 _ (List.mem_of_getElem? (i := 66) rfl), rfl⟩
theorem zm1505 : Cond.instanceMethod yX8_save ∈ zw := List.mem_filter.mpr ⟨zt_4 _ (List.mem_of_getElem? (i := 67) rfl), rfl⟩
theorem zm1506 : Cond.selects RX8 yX8_save yX8_save ∈ zw := List.mem_filter.mpr ⟨zt_4 _ (List.mem_of_getElem? (i := 68) rfl), rfl⟩
theorem zm1507 : Cond.code yX8_save cX8_save 1 (some .int) ∈ zw := List.mem_filter.mpr ⟨zt_4 _ (List.mem_of_getElem? (i := 69) rfl), rfl⟩
theorem zm1508 : Cond.fieldLink RX8 337 "PinballScorer" "hasSnapshot" "Z" ∈ zw := List.mem_filter.mpr ⟨zt_2 _ (List.mem_of_getElem? (i := 45) rfl), rfl⟩
theorem zm1509 : Cond.methodLink RL 342 yX9_save ∈ zw := List.mem_filter.mpr ⟨zt_9 _ (List.mem_of_getElem? (i := 40) rfl), rfl⟩
theorem zm1510 : Cond.instanceMethod yX9_save ∈ zw := List.mem_filter.mpr ⟨zt_9 _ (List.mem_of_getElem? (i := 41) rfl), rfl⟩
theorem zm1511 : Cond.selects RX9 yX9_save yX9_save ∈ zw := List.mem_filter.mpr ⟨zt_9 _ (List.mem_of_getElem? (i := 42) rfl), rfl⟩
theorem zm1512 : Cond.code yX9_save cX9_save 1 (some .int) ∈ zw := List.mem_filter.mpr ⟨zt_9 _ (List.mem_of_getElem? (i := 43) rfl), rfl⟩
theorem zm1513 : Cond.methodLink RL 343 yL_restore ∈ zw := List.mem_filter.mpr ⟨zt_7 _ (List.mem_of_getElem? (i := 49) rfl), rfl⟩
theorem zm1514 : Cond.static yL_restore ∈ zw := List.mem_filter.mpr ⟨zt_7 _ (List.mem_of_getElem? (i := 50) rfl), rfl⟩
theorem zm1515 : Cond.codeWith yL_restore cL_restore 3 (some .int) [(0, 8, 11, 13)] ∈ zw := List.mem_filter.mpr ⟨zt_7 _ (List.mem_of_getElem? (i := 51) rfl), rfl⟩
theorem zm1516 : Cond.methodLink RL 157 yX8_restore ∈ zw := List.mem_filter.mpr ⟨zt_7 _ (List.mem_of_getElem? (i := 52) rfl), rfl⟩
theorem zm1517 : Cond.instanceMethod yX8_restore ∈ zw := List.mem_filter.mpr ⟨zt_7 _ (List.mem_of_getElem? (i := 53) rfl), rfl⟩
theorem zm1518 : Cond.selects RX8 yX8_restore yX8_restore ∈ zw := List.mem_filter.mpr ⟨zt_7 _ (List.mem_of_getElem? (i := 54) rfl), rfl⟩
theorem zm1519 : Cond.code yX8_restore cX8_restore 1 (some .int) ∈ zw := List.mem_filter.mpr ⟨zt_7 _ (List.mem_of_getElem? (i := 55) rfl), rfl⟩
theorem zm1520 : Cond.methodLink RL 345 yX9_restore ∈ zw := List.mem_filter.mpr ⟨zt_9 _ (List.mem_of_getElem? (i := 44) rfl), rfl⟩
theorem zm1521 : Cond.instanceMethod yX9_restore ∈ zw := List.mem_filter.mpr ⟨zt_9 _ (List.mem_of_getElem? (i := 45) rfl), rfl⟩
theorem zm1522 : Cond.selects RX9 yX9_restore yX9_restore ∈ zw := List.mem_filter.mpr ⟨zt_9 _ (List.mem_of_getElem? (i := 46) rfl), rfl⟩
theorem zm1523 : Cond.code yX9_restore cX9_restore 1 (some .int) ∈ zw := List.mem_filter.mpr ⟨zt_9 _ (List.mem_of_getElem? (i := 47) rfl), rfl⟩
theorem ziX1 : ∀ w ∈ wsX10, w ∈ zw := fun w h => List.mem_filter.mpr ⟨(by decide +kernel : ∀ w ∈ wsX10, w ∈ lw_tbl) w h, List.all_eq_true.mp (by decide +kernel : wsX10.all goodWord = true) w h⟩
theorem ziX3 : ∀ w ∈ wsX30, w ∈ zw := fun w h => List.mem_filter.mpr ⟨(by decide +kernel : ∀ w ∈ wsX30, w ∈ lw_tbl) w h, List.all_eq_true.mp (by decide +kernel : wsX30.all goodWord = true) w h⟩
theorem ziX4 : ∀ w ∈ wsX40, w ∈ zw := fun w h => List.mem_filter.mpr ⟨(by decide +kernel : ∀ w ∈ wsX40, w ∈ lw_tbl) w h, List.all_eq_true.mp (by decide +kernel : wsX40.all goodWord = true) w h⟩
theorem ziX5 : ∀ w ∈ wsX50, w ∈ zw := fun w h => List.mem_filter.mpr ⟨(by decide +kernel : ∀ w ∈ wsX50, w ∈ lw_tbl) w h, List.all_eq_true.mp (by decide +kernel : wsX50.all goodWord = true) w h⟩
theorem ziX6 : ∀ w ∈ wsX60, w ∈ zw := fun w h => List.mem_filter.mpr ⟨(by decide +kernel : ∀ w ∈ wsX60, w ∈ lw_tbl) w h, List.all_eq_true.mp (by decide +kernel : wsX60.all goodWord = true) w h⟩
theorem ziX7 : ∀ w ∈ wsX70, w ∈ zw := fun w h => List.mem_filter.mpr ⟨(by decide +kernel : ∀ w ∈ wsX70, w ∈ lw_tbl) w h, List.all_eq_true.mp (by decide +kernel : wsX70.all goodWord = true) w h⟩
theorem ziX8 : ∀ w ∈ wsX80, w ∈ zw := fun w h => List.mem_filter.mpr ⟨(by decide +kernel : ∀ w ∈ wsX80, w ∈ lw_tbl) w h, List.all_eq_true.mp (by decide +kernel : wsX80.all goodWord = true) w h⟩
theorem ziX9 : ∀ w ∈ wsX90, w ∈ zw := fun w h => List.mem_filter.mpr ⟨(by decide +kernel : ∀ w ∈ wsX90, w ∈ lw_tbl) w h, List.all_eq_true.mp (by decide +kernel : wsX90.all goodWord = true) w h⟩
theorem ziJ0 : ∀ w ∈ wsJ00, w ∈ zw := fun w h => List.mem_filter.mpr ⟨(by decide +kernel : ∀ w ∈ wsJ00, w ∈ lw_tbl) w h, List.all_eq_true.mp (by decide +kernel : wsJ00.all goodWord = true) w h⟩
theorem ziJ4 : ∀ w ∈ wsJ40, w ∈ zw := fun w h => List.mem_filter.mpr ⟨(by decide +kernel : ∀ w ∈ wsJ40, w ∈ lw_tbl) w h, List.all_eq_true.mp (by decide +kernel : wsJ40.all goodWord = true) w h⟩
