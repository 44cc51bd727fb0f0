/-! the words of the tables that the methods need: where each stands -/
def bigL : List Cond := lw_tbl.filter goodWord
theorem bigL_good : ∀ w ∈ bigL, (w.onTables && w.keeps) = true ∨ ∃ ty, w = .arrayClass ty := fun w h => good_of_word (List.mem_filter.mp h).2
theorem bigL_in : ∀ w ∈ bigL, w ∈ lw_tbl := fun w h => (List.mem_filter.mp h).1
theorem bgm {w : Cond} (h : w ∈ lw_tbl) (g : goodWord w = true) : w ∈ bigL := List.mem_filter.mpr ⟨h, g⟩
theorem tm_1 : ∀ w ∈ tables_1_1, w ∈ lw_tbl := fun _ h => List.mem_append_right _ (List.mem_append_left _ h)
theorem tm_2 : ∀ w ∈ tables_1_2, w ∈ lw_tbl := fun _ h => List.mem_append_right _ (List.mem_append_right _ (List.mem_append_left _ h))
theorem tm_3 : ∀ w ∈ tables_1_3, w ∈ lw_tbl := fun _ h => List.mem_append_right _ (List.mem_append_right _ (List.mem_append_right _ (List.mem_append_left _ h)))
theorem tm_4 : ∀ w ∈ tables_1_4, w ∈ lw_tbl := fun _ h => List.mem_append_right _ (List.mem_append_right _ (List.mem_append_right _ (List.mem_append_right _ (List.mem_append_left _ h))))
theorem tm_5 : ∀ w ∈ tables_1_5, w ∈ lw_tbl := fun _ h => List.mem_append_right _ (List.mem_append_right _ (List.mem_append_right _ (List.mem_append_right _ (List.mem_append_right _ (h)))))
theorem bw_1_20 : Cond.classLink RL 14 RX7 ∈ bigL := bgm (tm_1 _ (List.mem_of_getElem? (i := 20) rfl)) rfl
theorem bw_1_21 : Cond.instantiable RX7 7 ∈ bigL := bgm (tm_1 _ (List.mem_of_getElem? (i := 21) rfl)) rfl
theorem bw_1_1 : Cond.initialized RX7 ∈ bigL := bgm (tm_1 _ (List.mem_of_getElem? (i := 1) rfl)) rfl
theorem bw_3_102 : Cond.constant RL 53 (-100000005) ∈ bigL := bgm (tm_3 _ (List.mem_of_getElem? (i := 102) rfl)) rfl
theorem bw_3_85 : Cond.constant RL 40 (-100000001) ∈ bigL := bgm (tm_3 _ (List.mem_of_getElem? (i := 85) rfl)) rfl
theorem bw_3_83 : Cond.constant RL 37 (-100000002) ∈ bigL := bgm (tm_3 _ (List.mem_of_getElem? (i := 83) rfl)) rfl
theorem bw_4_109 : Cond.constant RL 96 (-100000003) ∈ bigL := bgm (tm_4 _ (List.mem_of_getElem? (i := 109) rfl)) rfl
theorem bw_1_22 : Cond.methodLink RL 131 yX7_init ∈ bigL := bgm (tm_1 _ (List.mem_of_getElem? (i := 22) rfl)) rfl
theorem bw_1_23 : Cond.instanceMethod yX7_init ∈ bigL := bgm (tm_1 _ (List.mem_of_getElem? (i := 23) rfl)) rfl
theorem bw_1_24 : Cond.code yX7_init cX7_init 2 none ∈ bigL := bgm (tm_1 _ (List.mem_of_getElem? (i := 24) rfl)) rfl
theorem bw_1_25 : Cond.methodLink RX7 1 objectInit ∈ bigL := bgm (tm_1 _ (List.mem_of_getElem? (i := 25) rfl)) rfl
theorem bw_1_26 : Cond.instanceMethod objectInit ∈ bigL := bgm (tm_1 _ (List.mem_of_getElem? (i := 26) rfl)) rfl
theorem bw_1_28 : Cond.classLink RX7 7 RX6 ∈ bigL := bgm (tm_1 _ (List.mem_of_getElem? (i := 28) rfl)) rfl
theorem bw_1_29 : Cond.instantiable RX6 11 ∈ bigL := bgm (tm_1 _ (List.mem_of_getElem? (i := 29) rfl)) rfl
theorem bw_1_2 : Cond.initialized RX6 ∈ bigL := bgm (tm_1 _ (List.mem_of_getElem? (i := 2) rfl)) rfl
theorem bw_2_63 : Cond.fieldLink RX7 10 "BondedStore" "now" "LBondedStore$State;" ∈ bigL := bgm (tm_2 _ (List.mem_of_getElem? (i := 63) rfl)) rfl
theorem bw_1_224 : Cond.classLink RX7 16 RX1 ∈ bigL := bgm (tm_1 _ (List.mem_of_getElem? (i := 224) rfl)) rfl
theorem bw_1_225 : Cond.instantiable RX1 3 ∈ bigL := bgm (tm_1 _ (List.mem_of_getElem? (i := 225) rfl)) rfl
theorem bw_1_7 : Cond.initialized RX1 ∈ bigL := bgm (tm_1 _ (List.mem_of_getElem? (i := 7) rfl)) rfl
theorem bw_2_64 : Cond.fieldLink RX7 19 "BondedStore" "history" "LBondedStore$History;" ∈ bigL := bgm (tm_2 _ (List.mem_of_getElem? (i := 64) rfl)) rfl
theorem bw_2_65 : Cond.fieldLink RX7 23 "BondedStore" "slots" "[LBondedStore$State;" ∈ bigL := bgm (tm_2 _ (List.mem_of_getElem? (i := 65) rfl)) rfl
theorem bw_2_29 : Cond.arrayClass .boolean ∈ bigL := bgm (tm_2 _ (List.mem_of_getElem? (i := 29) rfl)) rfl
theorem bw_2_66 : Cond.fieldLink RX7 27 "BondedStore" "filled" "[Z" ∈ bigL := bgm (tm_2 _ (List.mem_of_getElem? (i := 66) rfl)) rfl
theorem bw_2_4 : Cond.classLink RX7 31 RX3 ∈ bigL := bgm (tm_2 _ (List.mem_of_getElem? (i := 4) rfl)) rfl
theorem bw_2_5 : Cond.instantiable RX3 5 ∈ bigL := bgm (tm_2 _ (List.mem_of_getElem? (i := 5) rfl)) rfl
theorem bw_1_8 : Cond.initialized RX3 ∈ bigL := bgm (tm_1 _ (List.mem_of_getElem? (i := 8) rfl)) rfl
theorem bw_2_67 : Cond.fieldLink RX7 34 "BondedStore" "orders" "LBondedStore$Orders;" ∈ bigL := bgm (tm_2 _ (List.mem_of_getElem? (i := 67) rfl)) rfl
theorem bw_2_31 : Cond.classLink RX7 38 RJ4 ∈ bigL := bgm (tm_2 _ (List.mem_of_getElem? (i := 31) rfl)) rfl
theorem bw_2_32 : Cond.instantiable RJ4 4 ∈ bigL := bgm (tm_2 _ (List.mem_of_getElem? (i := 32) rfl)) rfl
theorem bw_1_10 : Cond.initialized RJ4 ∈ bigL := bgm (tm_1 _ (List.mem_of_getElem? (i := 10) rfl)) rfl
theorem bw_2_68 : Cond.fieldLink RX7 41 "BondedStore" "document" "Ljava/lang/StringBuilder;" ∈ bigL := bgm (tm_2 _ (List.mem_of_getElem? (i := 68) rfl)) rfl
theorem bw_2_69 : Cond.fieldLink RX7 45 "BondedStore" "reason" "I" ∈ bigL := bgm (tm_2 _ (List.mem_of_getElem? (i := 69) rfl)) rfl
theorem bw_1_30 : Cond.methodLink RX7 9 yX6_init ∈ bigL := bgm (tm_1 _ (List.mem_of_getElem? (i := 30) rfl)) rfl
theorem bw_1_31 : Cond.instanceMethod yX6_init ∈ bigL := bgm (tm_1 _ (List.mem_of_getElem? (i := 31) rfl)) rfl
theorem bw_1_32 : Cond.code yX6_init cX6_init 2 none ∈ bigL := bgm (tm_1 _ (List.mem_of_getElem? (i := 32) rfl)) rfl
theorem bw_1_33 : Cond.methodLink RX6 3 objectInit ∈ bigL := bgm (tm_1 _ (List.mem_of_getElem? (i := 33) rfl)) rfl
theorem bw_1_34 : Cond.classLink RX6 9 RX5 ∈ bigL := bgm (tm_1 _ (List.mem_of_getElem? (i := 34) rfl)) rfl
theorem bw_1_35 : Cond.instantiable RX5 6 ∈ bigL := bgm (tm_1 _ (List.mem_of_getElem? (i := 35) rfl)) rfl
theorem bw_1_3 : Cond.initialized RX5 ∈ bigL := bgm (tm_1 _ (List.mem_of_getElem? (i := 3) rfl)) rfl
theorem bw_1_180 : Cond.fieldLink RX6 12 "BondedStore$State" "settings" "LBondedStore$Settings;" ∈ bigL := bgm (tm_1 _ (List.mem_of_getElem? (i := 180) rfl)) rfl
theorem bw_1_66 : Cond.classLink RX6 18 RX4 ∈ bigL := bgm (tm_1 _ (List.mem_of_getElem? (i := 66) rfl)) rfl
theorem bw_1_182 : Cond.fieldLink RX6 20 "BondedStore$State" "owners" "[LBondedStore$Owner;" ∈ bigL := bgm (tm_1 _ (List.mem_of_getElem? (i := 182) rfl)) rfl
theorem bw_1_68 : Cond.instantiable RX4 4 ∈ bigL := bgm (tm_1 _ (List.mem_of_getElem? (i := 68) rfl)) rfl
theorem bw_1_4 : Cond.initialized RX4 ∈ bigL := bgm (tm_1 _ (List.mem_of_getElem? (i := 4) rfl)) rfl
theorem bw_1_91 : Cond.classLink RX6 25 RX2 ∈ bigL := bgm (tm_1 _ (List.mem_of_getElem? (i := 91) rfl)) rfl
theorem bw_1_183 : Cond.fieldLink RX6 27 "BondedStore$State" "lots" "[LBondedStore$Lot;" ∈ bigL := bgm (tm_1 _ (List.mem_of_getElem? (i := 183) rfl)) rfl
theorem bw_1_93 : Cond.instantiable RX2 11 ∈ bigL := bgm (tm_1 _ (List.mem_of_getElem? (i := 93) rfl)) rfl
theorem bw_1_5 : Cond.initialized RX2 ∈ bigL := bgm (tm_1 _ (List.mem_of_getElem? (i := 5) rfl)) rfl
theorem bw_1_148 : Cond.classLink RX6 32 RX0 ∈ bigL := bgm (tm_1 _ (List.mem_of_getElem? (i := 148) rfl)) rfl
theorem bw_1_185 : Cond.fieldLink RX6 34 "BondedStore$State" "exports" "[LBondedStore$Export;" ∈ bigL := bgm (tm_1 _ (List.mem_of_getElem? (i := 185) rfl)) rfl
theorem bw_1_150 : Cond.instantiable RX0 5 ∈ bigL := bgm (tm_1 _ (List.mem_of_getElem? (i := 150) rfl)) rfl
theorem bw_1_6 : Cond.initialized RX0 ∈ bigL := bgm (tm_1 _ (List.mem_of_getElem? (i := 6) rfl)) rfl
theorem bw_1_36 : Cond.methodLink RX6 11 yX5_init ∈ bigL := bgm (tm_1 _ (List.mem_of_getElem? (i := 36) rfl)) rfl
theorem bw_1_37 : Cond.instanceMethod yX5_init ∈ bigL := bgm (tm_1 _ (List.mem_of_getElem? (i := 37) rfl)) rfl
theorem bw_1_38 : Cond.code yX5_init cX5_init 2 none ∈ bigL := bgm (tm_1 _ (List.mem_of_getElem? (i := 38) rfl)) rfl
theorem bw_1_39 : Cond.methodLink RX5 3 objectInit ∈ bigL := bgm (tm_1 _ (List.mem_of_getElem? (i := 39) rfl)) rfl
theorem bw_1_65 : Cond.arrayClass .int ∈ bigL := bgm (tm_1 _ (List.mem_of_getElem? (i := 65) rfl)) rfl
theorem bw_1_40 : Cond.fieldLink RX5 9 "BondedStore$Settings" "rates" "[I" ∈ bigL := bgm (tm_1 _ (List.mem_of_getElem? (i := 40) rfl)) rfl
theorem bw_1_42 : Cond.fieldLink RX5 15 "BondedStore$Settings" "term" "I" ∈ bigL := bgm (tm_1 _ (List.mem_of_getElem? (i := 42) rfl)) rfl
theorem bw_1_44 : Cond.fieldLink RX5 19 "BondedStore$Settings" "proof" "I" ∈ bigL := bgm (tm_1 _ (List.mem_of_getElem? (i := 44) rfl)) rfl
theorem bw_1_46 : Cond.fieldLink RX5 22 "BondedStore$Settings" "cover" "I" ∈ bigL := bgm (tm_1 _ (List.mem_of_getElem? (i := 46) rfl)) rfl
theorem bw_1_48 : Cond.fieldLink RX5 25 "BondedStore$Settings" "allowance" "I" ∈ bigL := bgm (tm_1 _ (List.mem_of_getElem? (i := 48) rfl)) rfl
theorem bw_1_50 : Cond.fieldLink RX5 28 "BondedStore$Settings" "fee" "I" ∈ bigL := bgm (tm_1 _ (List.mem_of_getElem? (i := 50) rfl)) rfl
theorem bw_1_70 : Cond.instanceMethod yX4_init ∈ bigL := bgm (tm_1 _ (List.mem_of_getElem? (i := 70) rfl)) rfl
theorem bw_1_71 : Cond.code yX4_init cX4_init 1 none ∈ bigL := bgm (tm_1 _ (List.mem_of_getElem? (i := 71) rfl)) rfl
theorem bw_1_72 : Cond.methodLink RX4 1 objectInit ∈ bigL := bgm (tm_1 _ (List.mem_of_getElem? (i := 72) rfl)) rfl
theorem bw_1_95 : Cond.instanceMethod yX2_init ∈ bigL := bgm (tm_1 _ (List.mem_of_getElem? (i := 95) rfl)) rfl
theorem bw_1_96 : Cond.code yX2_init cX2_init 1 none ∈ bigL := bgm (tm_1 _ (List.mem_of_getElem? (i := 96) rfl)) rfl
theorem bw_1_97 : Cond.methodLink RX2 1 objectInit ∈ bigL := bgm (tm_1 _ (List.mem_of_getElem? (i := 97) rfl)) rfl
theorem bw_1_152 : Cond.instanceMethod yX0_init ∈ bigL := bgm (tm_1 _ (List.mem_of_getElem? (i := 152) rfl)) rfl
theorem bw_1_153 : Cond.code yX0_init cX0_init 1 none ∈ bigL := bgm (tm_1 _ (List.mem_of_getElem? (i := 153) rfl)) rfl
theorem bw_1_154 : Cond.methodLink RX0 1 objectInit ∈ bigL := bgm (tm_1 _ (List.mem_of_getElem? (i := 154) rfl)) rfl
theorem bw_1_226 : Cond.methodLink RX7 18 yX1_init ∈ bigL := bgm (tm_1 _ (List.mem_of_getElem? (i := 226) rfl)) rfl
theorem bw_1_227 : Cond.instanceMethod yX1_init ∈ bigL := bgm (tm_1 _ (List.mem_of_getElem? (i := 227) rfl)) rfl
theorem bw_1_228 : Cond.code yX1_init cX1_init 2 none ∈ bigL := bgm (tm_1 _ (List.mem_of_getElem? (i := 228) rfl)) rfl
theorem bw_1_229 : Cond.methodLink RX1 3 objectInit ∈ bigL := bgm (tm_1 _ (List.mem_of_getElem? (i := 229) rfl)) rfl
theorem bw_1_230 : Cond.classLink RX1 9 RX6 ∈ bigL := bgm (tm_1 _ (List.mem_of_getElem? (i := 230) rfl)) rfl
theorem bw_1_233 : Cond.fieldLink RX1 11 "BondedStore$History" "rows" "[LBondedStore$State;" ∈ bigL := bgm (tm_1 _ (List.mem_of_getElem? (i := 233) rfl)) rfl
theorem bw_1_232 : Cond.methodLink RX1 15 yX6_init ∈ bigL := bgm (tm_1 _ (List.mem_of_getElem? (i := 232) rfl)) rfl
theorem bw_2_6 : Cond.methodLink RX7 33 yX3_init ∈ bigL := bgm (tm_2 _ (List.mem_of_getElem? (i := 6) rfl)) rfl
theorem bw_2_7 : Cond.instanceMethod yX3_init ∈ bigL := bgm (tm_2 _ (List.mem_of_getElem? (i := 7) rfl)) rfl
theorem bw_2_8 : Cond.code yX3_init cX3_init 1 none ∈ bigL := bgm (tm_2 _ (List.mem_of_getElem? (i := 8) rfl)) rfl
theorem bw_2_9 : Cond.methodLink RX3 3 objectInit ∈ bigL := bgm (tm_2 _ (List.mem_of_getElem? (i := 9) rfl)) rfl
theorem bw_2_30 : Cond.arrayClass .char ∈ bigL := bgm (tm_2 _ (List.mem_of_getElem? (i := 30) rfl)) rfl
theorem bw_2_10 : Cond.fieldLink RX3 11 "BondedStore$Orders" "text" "[C" ∈ bigL := bgm (tm_2 _ (List.mem_of_getElem? (i := 10) rfl)) rfl
theorem bw_2_16 : Cond.fieldLink RX3 15 "BondedStore$Orders" "numbers" "[I" ∈ bigL := bgm (tm_2 _ (List.mem_of_getElem? (i := 16) rfl)) rfl
theorem bw_2_33 : Cond.methodLink RX7 40 yJ4_init_da8c8 ∈ bigL := bgm (tm_2 _ (List.mem_of_getElem? (i := 33) rfl)) rfl
theorem bw_2_34 : Cond.instanceMethod yJ4_init_da8c8 ∈ bigL := bgm (tm_2 _ (List.mem_of_getElem? (i := 34) rfl)) rfl
theorem bw_2_35 : Cond.code yJ4_init_da8c8 cJ4_init_da8c8 1 none ∈ bigL := bgm (tm_2 _ (List.mem_of_getElem? (i := 35) rfl)) rfl
theorem bw_2_36 : Cond.methodLink RJ4 1 yJ5_init_d00df ∈ bigL := bgm (tm_2 _ (List.mem_of_getElem? (i := 36) rfl)) rfl
theorem bw_2_37 : Cond.instanceMethod yJ5_init_d00df ∈ bigL := bgm (tm_2 _ (List.mem_of_getElem? (i := 37) rfl)) rfl
theorem bw_1_9 : Cond.initialized RJ5 ∈ bigL := bgm (tm_1 _ (List.mem_of_getElem? (i := 9) rfl)) rfl
theorem bw_2_38 : Cond.code yJ5_init_d00df cJ5_init_d00df 2 none ∈ bigL := bgm (tm_2 _ (List.mem_of_getElem? (i := 38) rfl)) rfl
theorem bw_2_39 : Cond.methodLink RJ5 3 objectInit ∈ bigL := bgm (tm_2 _ (List.mem_of_getElem? (i := 39) rfl)) rfl
theorem bw_2_40 : Cond.fieldLink RJ5 18 "java/lang/String" "COMPACT_STRINGS" "Z" ∈ bigL := bgm (tm_2 _ (List.mem_of_getElem? (i := 40) rfl)) rfl
theorem bw_2_62 : Cond.arrayClass .byte ∈ bigL := bgm (tm_2 _ (List.mem_of_getElem? (i := 62) rfl)) rfl
theorem bw_2_49 : Cond.fieldLink RJ5 15 "java/lang/AbstractStringBuilder" "value" "[B" ∈ bigL := bgm (tm_2 _ (List.mem_of_getElem? (i := 49) rfl)) rfl
theorem bw_2_50 : Cond.fieldLink RJ5 22 "java/lang/AbstractStringBuilder" "coder" "B" ∈ bigL := bgm (tm_2 _ (List.mem_of_getElem? (i := 50) rfl)) rfl
theorem bw_2_42 : Cond.methodLink RJ5 26 yJ2_newBytesFor_77867 ∈ bigL := bgm (tm_2 _ (List.mem_of_getElem? (i := 42) rfl)) rfl
theorem bw_2_43 : Cond.static yJ2_newBytesFor_77867 ∈ bigL := bgm (tm_2 _ (List.mem_of_getElem? (i := 43) rfl)) rfl
theorem bw_1_12 : Cond.initialized RJ2 ∈ bigL := bgm (tm_1 _ (List.mem_of_getElem? (i := 12) rfl)) rfl
theorem bw_2_44 : Cond.code yJ2_newBytesFor_77867 cJ2_newBytesFor_77867 1 (some (.array .byte)) ∈ bigL := bgm (tm_2 _ (List.mem_of_getElem? (i := 44) rfl)) rfl
theorem bw_2_45 : Cond.methodLink RJ2 11 yJ2_newBytesLength_0f7a4 ∈ bigL := bgm (tm_2 _ (List.mem_of_getElem? (i := 45) rfl)) rfl
theorem bw_2_46 : Cond.static yJ2_newBytesLength_0f7a4 ∈ bigL := bgm (tm_2 _ (List.mem_of_getElem? (i := 46) rfl)) rfl
theorem bw_2_47 : Cond.code yJ2_newBytesLength_0f7a4 cJ2_newBytesLength_0f7a4 1 (some .int) ∈ bigL := bgm (tm_2 _ (List.mem_of_getElem? (i := 47) rfl)) rfl
theorem bw_2_48 : Cond.constant RJ2 20 (1073741823) ∈ bigL := bgm (tm_2 _ (List.mem_of_getElem? (i := 48) rfl)) rfl
theorem bw_2_208 : Cond.methodLink RL 72 yX7_undo ∈ bigL := bgm (tm_2 _ (List.mem_of_getElem? (i := 208) rfl)) rfl
theorem bw_2_209 : Cond.instanceMethod yX7_undo ∈ bigL := bgm (tm_2 _ (List.mem_of_getElem? (i := 209) rfl)) rfl
theorem bw_2_210 : Cond.selects RX7 yX7_undo yX7_undo ∈ bigL := bgm (tm_2 _ (List.mem_of_getElem? (i := 210) rfl)) rfl
theorem bw_2_211 : Cond.code yX7_undo cX7_undo 1 (some .int) ∈ bigL := bgm (tm_2 _ (List.mem_of_getElem? (i := 211) rfl)) rfl
theorem bw_1_236 : Cond.fieldLink RX7 168 "BondedStore$History" "size" "I" ∈ bigL := bgm (tm_1 _ (List.mem_of_getElem? (i := 236) rfl)) rfl
theorem bw_2_216 : Cond.constant RX7 171 (-100000005) ∈ bigL := bgm (tm_2 _ (List.mem_of_getElem? (i := 216) rfl)) rfl
theorem bw_2_212 : Cond.methodLink RX7 164 yX1_takeBack ∈ bigL := bgm (tm_2 _ (List.mem_of_getElem? (i := 212) rfl)) rfl
theorem bw_2_213 : Cond.instanceMethod yX1_takeBack ∈ bigL := bgm (tm_2 _ (List.mem_of_getElem? (i := 213) rfl)) rfl
theorem bw_2_214 : Cond.selects RX1 yX1_takeBack yX1_takeBack ∈ bigL := bgm (tm_2 _ (List.mem_of_getElem? (i := 214) rfl)) rfl
theorem bw_2_215 : Cond.code yX1_takeBack cX1_takeBack 2 (some .boolean) ∈ bigL := bgm (tm_2 _ (List.mem_of_getElem? (i := 215) rfl)) rfl
theorem bw_1_235 : Cond.fieldLink RX1 20 "BondedStore$History" "size" "I" ∈ bigL := bgm (tm_1 _ (List.mem_of_getElem? (i := 235) rfl)) rfl
theorem bw_1_234 : Cond.fieldLink RX1 16 "BondedStore$History" "first" "I" ∈ bigL := bgm (tm_1 _ (List.mem_of_getElem? (i := 234) rfl)) rfl
theorem bw_2_98 : Cond.methodLink RX1 23 yX6_copyFrom ∈ bigL := bgm (tm_2 _ (List.mem_of_getElem? (i := 98) rfl)) rfl
theorem bw_2_99 : Cond.instanceMethod yX6_copyFrom ∈ bigL := bgm (tm_2 _ (List.mem_of_getElem? (i := 99) rfl)) rfl
theorem bw_2_100 : Cond.selects RX6 yX6_copyFrom yX6_copyFrom ∈ bigL := bgm (tm_2 _ (List.mem_of_getElem? (i := 100) rfl)) rfl
theorem bw_2_101 : Cond.code yX6_copyFrom cX6_copyFrom 3 none ∈ bigL := bgm (tm_2 _ (List.mem_of_getElem? (i := 101) rfl)) rfl
theorem bw_1_188 : Cond.fieldLink RX6 52 "BondedStore$State" "ownerCount" "I" ∈ bigL := bgm (tm_1 _ (List.mem_of_getElem? (i := 188) rfl)) rfl
theorem bw_1_189 : Cond.fieldLink RX6 56 "BondedStore$State" "lotCount" "I" ∈ bigL := bgm (tm_1 _ (List.mem_of_getElem? (i := 189) rfl)) rfl
theorem bw_1_191 : Cond.fieldLink RX6 59 "BondedStore$State" "exportCount" "I" ∈ bigL := bgm (tm_1 _ (List.mem_of_getElem? (i := 191) rfl)) rfl
theorem bw_1_193 : Cond.fieldLink RX6 62 "BondedStore$State" "seizedLots" "I" ∈ bigL := bgm (tm_1 _ (List.mem_of_getElem? (i := 193) rfl)) rfl
theorem bw_1_195 : Cond.fieldLink RX6 65 "BondedStore$State" "day" "I" ∈ bigL := bgm (tm_1 _ (List.mem_of_getElem? (i := 195) rfl)) rfl
theorem bw_1_197 : Cond.fieldLink RX6 68 "BondedStore$State" "fees" "J" ∈ bigL := bgm (tm_1 _ (List.mem_of_getElem? (i := 197) rfl)) rfl
theorem bw_1_199 : Cond.fieldLink RX6 72 "BondedStore$State" "deposits" "J" ∈ bigL := bgm (tm_1 _ (List.mem_of_getElem? (i := 199) rfl)) rfl
theorem bw_2_102 : Cond.methodLink RX6 39 yX5_copyFrom ∈ bigL := bgm (tm_2 _ (List.mem_of_getElem? (i := 102) rfl)) rfl
theorem bw_2_103 : Cond.instanceMethod yX5_copyFrom ∈ bigL := bgm (tm_2 _ (List.mem_of_getElem? (i := 103) rfl)) rfl
theorem bw_2_104 : Cond.selects RX5 yX5_copyFrom yX5_copyFrom ∈ bigL := bgm (tm_2 _ (List.mem_of_getElem? (i := 104) rfl)) rfl
theorem bw_2_105 : Cond.code yX5_copyFrom cX5_copyFrom 2 none ∈ bigL := bgm (tm_2 _ (List.mem_of_getElem? (i := 105) rfl)) rfl
theorem bw_2_106 : Cond.methodLink RX5 31 arraycopyName ∈ bigL := bgm (tm_2 _ (List.mem_of_getElem? (i := 106) rfl)) rfl
theorem bw_2_108 : Cond.native arraycopyName ∈ bigL := bgm (tm_2 _ (List.mem_of_getElem? (i := 108) rfl)) rfl
theorem bw_2_107 : Cond.static arraycopyName ∈ bigL := bgm (tm_2 _ (List.mem_of_getElem? (i := 107) rfl)) rfl
theorem bw_1_13 : Cond.initialized "java/lang/System" ∈ bigL := bgm (tm_1 _ (List.mem_of_getElem? (i := 13) rfl)) rfl
theorem bw_2_109 : Cond.methodLink RX6 43 yX4_copyFrom ∈ bigL := bgm (tm_2 _ (List.mem_of_getElem? (i := 109) rfl)) rfl
theorem bw_2_110 : Cond.instanceMethod yX4_copyFrom ∈ bigL := bgm (tm_2 _ (List.mem_of_getElem? (i := 110) rfl)) rfl
theorem bw_2_111 : Cond.selects RX4 yX4_copyFrom yX4_copyFrom ∈ bigL := bgm (tm_2 _ (List.mem_of_getElem? (i := 111) rfl)) rfl
theorem bw_2_112 : Cond.code yX4_copyFrom cX4_copyFrom 2 none ∈ bigL := bgm (tm_2 _ (List.mem_of_getElem? (i := 112) rfl)) rfl
theorem bw_1_73 : Cond.fieldLink RX4 7 "BondedStore$Owner" "cash" "J" ∈ bigL := bgm (tm_1 _ (List.mem_of_getElem? (i := 73) rfl)) rfl
theorem bw_1_75 : Cond.fieldLink RX4 13 "BondedStore$Owner" "guarantee" "I" ∈ bigL := bgm (tm_1 _ (List.mem_of_getElem? (i := 75) rfl)) rfl
theorem bw_1_77 : Cond.fieldLink RX4 17 "BondedStore$Owner" "debt" "I" ∈ bigL := bgm (tm_1 _ (List.mem_of_getElem? (i := 77) rfl)) rfl
theorem bw_1_79 : Cond.fieldLink RX4 20 "BondedStore$Owner" "called" "I" ∈ bigL := bgm (tm_1 _ (List.mem_of_getElem? (i := 79) rfl)) rfl
theorem bw_2_113 : Cond.methodLink RX6 46 yX2_copyFrom ∈ bigL := bgm (tm_2 _ (List.mem_of_getElem? (i := 113) rfl)) rfl
theorem bw_2_114 : Cond.instanceMethod yX2_copyFrom ∈ bigL := bgm (tm_2 _ (List.mem_of_getElem? (i := 114) rfl)) rfl
theorem bw_2_115 : Cond.selects RX2 yX2_copyFrom yX2_copyFrom ∈ bigL := bgm (tm_2 _ (List.mem_of_getElem? (i := 115) rfl)) rfl
theorem bw_2_116 : Cond.code yX2_copyFrom cX2_copyFrom 2 none ∈ bigL := bgm (tm_2 _ (List.mem_of_getElem? (i := 116) rfl)) rfl
theorem bw_1_98 : Cond.fieldLink RX2 7 "BondedStore$Lot" "owner" "I" ∈ bigL := bgm (tm_1 _ (List.mem_of_getElem? (i := 98) rfl)) rfl
theorem bw_1_101 : Cond.fieldLink RX2 13 "BondedStore$Lot" "kind" "I" ∈ bigL := bgm (tm_1 _ (List.mem_of_getElem? (i := 101) rfl)) rfl
theorem bw_1_103 : Cond.fieldLink RX2 16 "BondedStore$Lot" "quantity" "I" ∈ bigL := bgm (tm_1 _ (List.mem_of_getElem? (i := 103) rfl)) rfl
theorem bw_1_106 : Cond.fieldLink RX2 19 "BondedStore$Lot" "value" "I" ∈ bigL := bgm (tm_1 _ (List.mem_of_getElem? (i := 106) rfl)) rfl
theorem bw_1_108 : Cond.fieldLink RX2 22 "BondedStore$Lot" "entered" "I" ∈ bigL := bgm (tm_1 _ (List.mem_of_getElem? (i := 108) rfl)) rfl
theorem bw_1_110 : Cond.fieldLink RX2 25 "BondedStore$Lot" "deadline" "I" ∈ bigL := bgm (tm_1 _ (List.mem_of_getElem? (i := 110) rfl)) rfl
theorem bw_1_112 : Cond.fieldLink RX2 28 "BondedStore$Lot" "due" "I" ∈ bigL := bgm (tm_1 _ (List.mem_of_getElem? (i := 112) rfl)) rfl
theorem bw_1_114 : Cond.fieldLink RX2 31 "BondedStore$Lot" "stored" "I" ∈ bigL := bgm (tm_1 _ (List.mem_of_getElem? (i := 114) rfl)) rfl
theorem bw_1_117 : Cond.fieldLink RX2 34 "BondedStore$Lot" "paid" "I" ∈ bigL := bgm (tm_1 _ (List.mem_of_getElem? (i := 117) rfl)) rfl
theorem bw_1_120 : Cond.fieldLink RX2 37 "BondedStore$Lot" "discharged" "I" ∈ bigL := bgm (tm_1 _ (List.mem_of_getElem? (i := 120) rfl)) rfl
theorem bw_1_122 : Cond.fieldLink RX2 40 "BondedStore$Lot" "sampled" "I" ∈ bigL := bgm (tm_1 _ (List.mem_of_getElem? (i := 122) rfl)) rfl
theorem bw_2_117 : Cond.methodLink RX6 49 yX0_copyFrom ∈ bigL := bgm (tm_2 _ (List.mem_of_getElem? (i := 117) rfl)) rfl
theorem bw_2_118 : Cond.instanceMethod yX0_copyFrom ∈ bigL := bgm (tm_2 _ (List.mem_of_getElem? (i := 118) rfl)) rfl
theorem bw_2_119 : Cond.selects RX0 yX0_copyFrom yX0_copyFrom ∈ bigL := bgm (tm_2 _ (List.mem_of_getElem? (i := 119) rfl)) rfl
theorem bw_2_120 : Cond.code yX0_copyFrom cX0_copyFrom 2 none ∈ bigL := bgm (tm_2 _ (List.mem_of_getElem? (i := 120) rfl)) rfl
theorem bw_1_155 : Cond.fieldLink RX0 7 "BondedStore$Export" "lot" "I" ∈ bigL := bgm (tm_1 _ (List.mem_of_getElem? (i := 155) rfl)) rfl
theorem bw_1_158 : Cond.fieldLink RX0 13 "BondedStore$Export" "units" "I" ∈ bigL := bgm (tm_1 _ (List.mem_of_getElem? (i := 158) rfl)) rfl
theorem bw_1_161 : Cond.fieldLink RX0 16 "BondedStore$Export" "duty" "I" ∈ bigL := bgm (tm_1 _ (List.mem_of_getElem? (i := 161) rfl)) rfl
theorem bw_1_164 : Cond.fieldLink RX0 19 "BondedStore$Export" "deadline" "I" ∈ bigL := bgm (tm_1 _ (List.mem_of_getElem? (i := 164) rfl)) rfl
theorem bw_1_166 : Cond.fieldLink RX0 22 "BondedStore$Export" "state" "I" ∈ bigL := bgm (tm_1 _ (List.mem_of_getElem? (i := 166) rfl)) rfl
theorem bw_2_222 : Cond.methodLink RL 132 yX7_restore ∈ bigL := bgm (tm_2 _ (List.mem_of_getElem? (i := 222) rfl)) rfl
theorem bw_2_223 : Cond.instanceMethod yX7_restore ∈ bigL := bgm (tm_2 _ (List.mem_of_getElem? (i := 223) rfl)) rfl
theorem bw_2_224 : Cond.selects RX7 yX7_restore yX7_restore ∈ bigL := bgm (tm_2 _ (List.mem_of_getElem? (i := 224) rfl)) rfl
theorem bw_2_225 : Cond.code yX7_restore cX7_restore 2 (some .int) ∈ bigL := bgm (tm_2 _ (List.mem_of_getElem? (i := 225) rfl)) rfl
theorem bw_2_92 : Cond.constant RX7 65 (-100000001) ∈ bigL := bgm (tm_2 _ (List.mem_of_getElem? (i := 92) rfl)) rfl
theorem bw_1_190 : Cond.fieldLink RX7 175 "BondedStore$State" "lotCount" "I" ∈ bigL := bgm (tm_1 _ (List.mem_of_getElem? (i := 190) rfl)) rfl
theorem bw_2_89 : Cond.methodLink RX7 67 yX7_outside ∈ bigL := bgm (tm_2 _ (List.mem_of_getElem? (i := 89) rfl)) rfl
theorem bw_2_90 : Cond.static yX7_outside ∈ bigL := bgm (tm_2 _ (List.mem_of_getElem? (i := 90) rfl)) rfl
theorem bw_2_91 : Cond.code yX7_outside cX7_outside 3 (some .boolean) ∈ bigL := bgm (tm_2 _ (List.mem_of_getElem? (i := 91) rfl)) rfl
theorem bw_2_94 : Cond.methodLink RX7 53 yX1_prepare ∈ bigL := bgm (tm_2 _ (List.mem_of_getElem? (i := 94) rfl)) rfl
theorem bw_2_95 : Cond.instanceMethod yX1_prepare ∈ bigL := bgm (tm_2 _ (List.mem_of_getElem? (i := 95) rfl)) rfl
theorem bw_2_96 : Cond.selects RX1 yX1_prepare yX1_prepare ∈ bigL := bgm (tm_2 _ (List.mem_of_getElem? (i := 96) rfl)) rfl
theorem bw_2_97 : Cond.code yX1_prepare cX1_prepare 2 none ∈ bigL := bgm (tm_2 _ (List.mem_of_getElem? (i := 97) rfl)) rfl
theorem bw_2_221 : Cond.methodLink RX7 172 yX6_copyFrom ∈ bigL := bgm (tm_2 _ (List.mem_of_getElem? (i := 221) rfl)) rfl
theorem bw_2_121 : Cond.methodLink RX7 57 yX7_finishAct ∈ bigL := bgm (tm_2 _ (List.mem_of_getElem? (i := 121) rfl)) rfl
theorem bw_2_123 : Cond.instanceMethod yX7_finishAct ∈ bigL := bgm (tm_2 _ (List.mem_of_getElem? (i := 123) rfl)) rfl
theorem bs_0 : Cond.selects RX7 yX7_finishAct yX7_finishAct ∈ bigL := bgm (List.mem_append_left _ (List.mem_of_getElem? (i := 0) rfl)) rfl
theorem bw_2_124 : Cond.code yX7_finishAct cX7_finishAct 2 (some .int) ∈ bigL := bgm (tm_2 _ (List.mem_of_getElem? (i := 124) rfl)) rfl
theorem bw_2_125 : Cond.methodLink RX7 355 yX1_addPrepared ∈ bigL := bgm (tm_2 _ (List.mem_of_getElem? (i := 125) rfl)) rfl
theorem bw_2_126 : Cond.instanceMethod yX1_addPrepared ∈ bigL := bgm (tm_2 _ (List.mem_of_getElem? (i := 126) rfl)) rfl
theorem bw_2_127 : Cond.selects RX1 yX1_addPrepared yX1_addPrepared ∈ bigL := bgm (tm_2 _ (List.mem_of_getElem? (i := 127) rfl)) rfl
theorem bw_2_128 : Cond.code yX1_addPrepared cX1_addPrepared 1 none ∈ bigL := bgm (tm_2 _ (List.mem_of_getElem? (i := 128) rfl)) rfl
theorem bw_2_217 : Cond.methodLink RL 135 yX7_keep ∈ bigL := bgm (tm_2 _ (List.mem_of_getElem? (i := 217) rfl)) rfl
theorem bw_2_218 : Cond.instanceMethod yX7_keep ∈ bigL := bgm (tm_2 _ (List.mem_of_getElem? (i := 218) rfl)) rfl
theorem bw_2_219 : Cond.selects RX7 yX7_keep yX7_keep ∈ bigL := bgm (tm_2 _ (List.mem_of_getElem? (i := 219) rfl)) rfl
theorem bw_2_220 : Cond.code yX7_keep cX7_keep 2 (some .int) ∈ bigL := bgm (tm_2 _ (List.mem_of_getElem? (i := 220) rfl)) rfl
theorem bw_2_230 : Cond.methodLink RL 57 yX7_nextDeadline ∈ bigL := bgm (tm_2 _ (List.mem_of_getElem? (i := 230) rfl)) rfl
theorem bw_2_231 : Cond.instanceMethod yX7_nextDeadline ∈ bigL := bgm (tm_2 _ (List.mem_of_getElem? (i := 231) rfl)) rfl
theorem bw_2_232 : Cond.selects RX7 yX7_nextDeadline yX7_nextDeadline ∈ bigL := bgm (tm_2 _ (List.mem_of_getElem? (i := 232) rfl)) rfl
theorem bw_2_233 : Cond.code yX7_nextDeadline cX7_nextDeadline 4 (some .int) ∈ bigL := bgm (tm_2 _ (List.mem_of_getElem? (i := 233) rfl)) rfl
theorem bw_1_196 : Cond.fieldLink RX7 265 "BondedStore$State" "day" "I" ∈ bigL := bgm (tm_1 _ (List.mem_of_getElem? (i := 196) rfl)) rfl
theorem bw_1_184 : Cond.fieldLink RX7 268 "BondedStore$State" "lots" "[LBondedStore$Lot;" ∈ bigL := bgm (tm_1 _ (List.mem_of_getElem? (i := 184) rfl)) rfl
theorem bw_1_111 : Cond.fieldLink RX7 212 "BondedStore$Lot" "deadline" "I" ∈ bigL := bgm (tm_1 _ (List.mem_of_getElem? (i := 111) rfl)) rfl
theorem bw_1_192 : Cond.fieldLink RX7 276 "BondedStore$State" "exportCount" "I" ∈ bigL := bgm (tm_1 _ (List.mem_of_getElem? (i := 192) rfl)) rfl
theorem bw_1_186 : Cond.fieldLink RX7 279 "BondedStore$State" "exports" "[LBondedStore$Export;" ∈ bigL := bgm (tm_1 _ (List.mem_of_getElem? (i := 186) rfl)) rfl
theorem bw_1_165 : Cond.fieldLink RX7 251 "BondedStore$Export" "deadline" "I" ∈ bigL := bgm (tm_1 _ (List.mem_of_getElem? (i := 165) rfl)) rfl
theorem bw_2_234 : Cond.methodLink RX7 272 yX2_endsBefore ∈ bigL := bgm (tm_2 _ (List.mem_of_getElem? (i := 234) rfl)) rfl
theorem bw_2_197 : Cond.instanceMethod yX2_endsBefore ∈ bigL := bgm (tm_2 _ (List.mem_of_getElem? (i := 197) rfl)) rfl
theorem bw_2_198 : Cond.selects RX2 yX2_endsBefore yX2_endsBefore ∈ bigL := bgm (tm_2 _ (List.mem_of_getElem? (i := 198) rfl)) rfl
theorem bw_2_199 : Cond.code yX2_endsBefore cX2_endsBefore 2 (some .boolean) ∈ bigL := bgm (tm_2 _ (List.mem_of_getElem? (i := 199) rfl)) rfl
theorem bw_2_235 : Cond.methodLink RX7 283 yX0_endsBefore ∈ bigL := bgm (tm_2 _ (List.mem_of_getElem? (i := 235) rfl)) rfl
theorem bw_2_176 : Cond.instanceMethod yX0_endsBefore ∈ bigL := bgm (tm_2 _ (List.mem_of_getElem? (i := 176) rfl)) rfl
theorem bw_2_177 : Cond.selects RX0 yX0_endsBefore yX0_endsBefore ∈ bigL := bgm (tm_2 _ (List.mem_of_getElem? (i := 177) rfl)) rfl
theorem bw_2_178 : Cond.code yX0_endsBefore cX0_endsBefore 2 (some .boolean) ∈ bigL := bgm (tm_2 _ (List.mem_of_getElem? (i := 178) rfl)) rfl
theorem bw_2_179 : Cond.methodLink RX0 25 yX0_waits ∈ bigL := bgm (tm_2 _ (List.mem_of_getElem? (i := 179) rfl)) rfl
theorem bw_2_154 : Cond.instanceMethod yX0_waits ∈ bigL := bgm (tm_2 _ (List.mem_of_getElem? (i := 154) rfl)) rfl
theorem bw_2_155 : Cond.selects RX0 yX0_waits yX0_waits ∈ bigL := bgm (tm_2 _ (List.mem_of_getElem? (i := 155) rfl)) rfl
theorem bw_2_156 : Cond.code yX0_waits cX0_waits 1 (some .boolean) ∈ bigL := bgm (tm_2 _ (List.mem_of_getElem? (i := 156) rfl)) rfl
theorem bw_2_129 : Cond.methodLink RL 138 yX7_setTerms ∈ bigL := bgm (tm_2 _ (List.mem_of_getElem? (i := 129) rfl)) rfl
theorem bw_2_130 : Cond.instanceMethod yX7_setTerms ∈ bigL := bgm (tm_2 _ (List.mem_of_getElem? (i := 130) rfl)) rfl
theorem bw_2_131 : Cond.selects RX7 yX7_setTerms yX7_setTerms ∈ bigL := bgm (tm_2 _ (List.mem_of_getElem? (i := 131) rfl)) rfl
theorem bw_2_132 : Cond.code yX7_setTerms cX7_setTerms 4 (some .int) ∈ bigL := bgm (tm_2 _ (List.mem_of_getElem? (i := 132) rfl)) rfl
theorem bw_2_93 : Cond.constant RX7 71 (-100000002) ∈ bigL := bgm (tm_2 _ (List.mem_of_getElem? (i := 93) rfl)) rfl
theorem bw_1_181 : Cond.fieldLink RX7 86 "BondedStore$State" "settings" "LBondedStore$Settings;" ∈ bigL := bgm (tm_1 _ (List.mem_of_getElem? (i := 181) rfl)) rfl
theorem bw_1_43 : Cond.fieldLink RX7 109 "BondedStore$Settings" "term" "I" ∈ bigL := bgm (tm_1 _ (List.mem_of_getElem? (i := 43) rfl)) rfl
theorem bw_1_45 : Cond.fieldLink RX7 112 "BondedStore$Settings" "proof" "I" ∈ bigL := bgm (tm_1 _ (List.mem_of_getElem? (i := 45) rfl)) rfl
theorem bw_2_133 : Cond.methodLink RL 141 yX7_setRules ∈ bigL := bgm (tm_2 _ (List.mem_of_getElem? (i := 133) rfl)) rfl
theorem bw_2_134 : Cond.instanceMethod yX7_setRules ∈ bigL := bgm (tm_2 _ (List.mem_of_getElem? (i := 134) rfl)) rfl
theorem bw_2_135 : Cond.selects RX7 yX7_setRules yX7_setRules ∈ bigL := bgm (tm_2 _ (List.mem_of_getElem? (i := 135) rfl)) rfl
theorem bw_2_136 : Cond.code yX7_setRules cX7_setRules 5 (some .int) ∈ bigL := bgm (tm_2 _ (List.mem_of_getElem? (i := 136) rfl)) rfl
theorem bw_1_47 : Cond.fieldLink RX7 115 "BondedStore$Settings" "cover" "I" ∈ bigL := bgm (tm_1 _ (List.mem_of_getElem? (i := 47) rfl)) rfl
theorem bw_1_49 : Cond.fieldLink RX7 118 "BondedStore$Settings" "allowance" "I" ∈ bigL := bgm (tm_1 _ (List.mem_of_getElem? (i := 49) rfl)) rfl
theorem bw_1_51 : Cond.fieldLink RX7 121 "BondedStore$Settings" "fee" "I" ∈ bigL := bgm (tm_1 _ (List.mem_of_getElem? (i := 51) rfl)) rfl
theorem bw_2_85 : Cond.methodLink RL 145 yX7_setRate ∈ bigL := bgm (tm_2 _ (List.mem_of_getElem? (i := 85) rfl)) rfl
theorem bw_2_86 : Cond.instanceMethod yX7_setRate ∈ bigL := bgm (tm_2 _ (List.mem_of_getElem? (i := 86) rfl)) rfl
theorem bw_2_87 : Cond.selects RX7 yX7_setRate yX7_setRate ∈ bigL := bgm (tm_2 _ (List.mem_of_getElem? (i := 87) rfl)) rfl
theorem bw_2_88 : Cond.code yX7_setRate cX7_setRate 4 (some .int) ∈ bigL := bgm (tm_2 _ (List.mem_of_getElem? (i := 88) rfl)) rfl
theorem bw_1_41 : Cond.fieldLink RX7 105 "BondedStore$Settings" "rates" "[I" ∈ bigL := bgm (tm_1 _ (List.mem_of_getElem? (i := 41) rfl)) rfl
theorem bw_3_13 : Cond.methodLink RL 148 yL_cell ∈ bigL := bgm (tm_3 _ (List.mem_of_getElem? (i := 13) rfl)) rfl
theorem bw_3_14 : Cond.static yL_cell ∈ bigL := bgm (tm_3 _ (List.mem_of_getElem? (i := 14) rfl)) rfl
theorem bw_1_0 : Cond.initialized RL ∈ bigL := bgm (tm_1 _ (List.mem_of_getElem? (i := 0) rfl)) rfl
theorem bw_3_15 : Cond.code yL_cell cL_cell 2 (some .int) ∈ bigL := bgm (tm_3 _ (List.mem_of_getElem? (i := 15) rfl)) rfl
theorem bw_3_16 : Cond.constant RL 7 (2150003) ∈ bigL := bgm (tm_3 _ (List.mem_of_getElem? (i := 16) rfl)) rfl
theorem bw_3_17 : Cond.methodLink RL 45 yL_low ∈ bigL := bgm (tm_3 _ (List.mem_of_getElem? (i := 17) rfl)) rfl
theorem bw_3_18 : Cond.static yL_low ∈ bigL := bgm (tm_3 _ (List.mem_of_getElem? (i := 18) rfl)) rfl
theorem bw_3_19 : Cond.code yL_low cL_low 2 (some .int) ∈ bigL := bgm (tm_3 _ (List.mem_of_getElem? (i := 19) rfl)) rfl
theorem bw_3_20 : Cond.constant RL 8 (2147483647) ∈ bigL := bgm (tm_3 _ (List.mem_of_getElem? (i := 20) rfl)) rfl
theorem bw_4_132 : Cond.methodLink RL 152 yL_money ∈ bigL := bgm (tm_4 _ (List.mem_of_getElem? (i := 132) rfl)) rfl
theorem bw_4_133 : Cond.static yL_money ∈ bigL := bgm (tm_4 _ (List.mem_of_getElem? (i := 133) rfl)) rfl
theorem bw_4_134 : Cond.code yL_money cL_money 11 (some .boolean) ∈ bigL := bgm (tm_4 _ (List.mem_of_getElem? (i := 134) rfl)) rfl
theorem bw_4_140 : Cond.constant RL 109 (400000) ∈ bigL := bgm (tm_4 _ (List.mem_of_getElem? (i := 140) rfl)) rfl
theorem bw_4_141 : Cond.constant RL 110 (300000) ∈ bigL := bgm (tm_4 _ (List.mem_of_getElem? (i := 141) rfl)) rfl
theorem bw_3_89 : Cond.constantLong RL 41 (100) ∈ bigL := bgm (tm_3 _ (List.mem_of_getElem? (i := 89) rfl)) rfl
theorem bw_3_4 : Cond.methodLink RL 13 yX7_count ∈ bigL := bgm (tm_3 _ (List.mem_of_getElem? (i := 4) rfl)) rfl
theorem bw_3_5 : Cond.instanceMethod yX7_count ∈ bigL := bgm (tm_3 _ (List.mem_of_getElem? (i := 5) rfl)) rfl
theorem bw_3_6 : Cond.selects RX7 yX7_count yX7_count ∈ bigL := bgm (tm_3 _ (List.mem_of_getElem? (i := 6) rfl)) rfl
theorem bw_3_7 : Cond.code yX7_count cX7_count 2 (some .int) ∈ bigL := bgm (tm_3 _ (List.mem_of_getElem? (i := 7) rfl)) rfl
theorem bw_1_187 : Cond.fieldLink RX7 49 "BondedStore$State" "ownerCount" "I" ∈ bigL := bgm (tm_1 _ (List.mem_of_getElem? (i := 187) rfl)) rfl
theorem bw_1_194 : Cond.fieldLink RX7 303 "BondedStore$State" "seizedLots" "I" ∈ bigL := bgm (tm_1 _ (List.mem_of_getElem? (i := 194) rfl)) rfl
theorem bw_3_8 : Cond.methodLink RX7 300 yX6_waitingExports ∈ bigL := bgm (tm_3 _ (List.mem_of_getElem? (i := 8) rfl)) rfl
theorem bw_3_9 : Cond.instanceMethod yX6_waitingExports ∈ bigL := bgm (tm_3 _ (List.mem_of_getElem? (i := 9) rfl)) rfl
theorem bw_3_10 : Cond.selects RX6 yX6_waitingExports yX6_waitingExports ∈ bigL := bgm (tm_3 _ (List.mem_of_getElem? (i := 10) rfl)) rfl
theorem bw_3_11 : Cond.code yX6_waitingExports cX6_waitingExports 3 (some .int) ∈ bigL := bgm (tm_3 _ (List.mem_of_getElem? (i := 11) rfl)) rfl
theorem bw_3_12 : Cond.methodLink RX6 95 yX0_waits ∈ bigL := bgm (tm_3 _ (List.mem_of_getElem? (i := 12) rfl)) rfl
theorem bw_4_135 : Cond.methodLink RL 106 yX7_addOwner ∈ bigL := bgm (tm_4 _ (List.mem_of_getElem? (i := 135) rfl)) rfl
theorem bw_4_136 : Cond.instanceMethod yX7_addOwner ∈ bigL := bgm (tm_4 _ (List.mem_of_getElem? (i := 136) rfl)) rfl
theorem bw_4_137 : Cond.selects RX7 yX7_addOwner yX7_addOwner ∈ bigL := bgm (tm_4 _ (List.mem_of_getElem? (i := 137) rfl)) rfl
theorem bw_4_138 : Cond.code yX7_addOwner cX7_addOwner 2 (some .int) ∈ bigL := bgm (tm_4 _ (List.mem_of_getElem? (i := 138) rfl)) rfl
theorem bw_4_139 : Cond.constant RX7 52 (-100000004) ∈ bigL := bgm (tm_4 _ (List.mem_of_getElem? (i := 139) rfl)) rfl
theorem bw_3_30 : Cond.methodLink RL 22 yX7_owner ∈ bigL := bgm (tm_3 _ (List.mem_of_getElem? (i := 30) rfl)) rfl
theorem bw_3_31 : Cond.instanceMethod yX7_owner ∈ bigL := bgm (tm_3 _ (List.mem_of_getElem? (i := 31) rfl)) rfl
theorem bw_3_32 : Cond.selects RX7 yX7_owner yX7_owner ∈ bigL := bgm (tm_3 _ (List.mem_of_getElem? (i := 32) rfl)) rfl
theorem bw_3_33 : Cond.code yX7_owner cX7_owner 4 (some .long) ∈ bigL := bgm (tm_3 _ (List.mem_of_getElem? (i := 33) rfl)) rfl
theorem bw_3_35 : Cond.constantLong RX7 178 (-100000001) ∈ bigL := bgm (tm_3 _ (List.mem_of_getElem? (i := 35) rfl)) rfl
theorem bw_1_74 : Cond.fieldLink RX7 180 "BondedStore$Owner" "cash" "J" ∈ bigL := bgm (tm_1 _ (List.mem_of_getElem? (i := 74) rfl)) rfl
theorem bw_1_76 : Cond.fieldLink RX7 102 "BondedStore$Owner" "guarantee" "I" ∈ bigL := bgm (tm_1 _ (List.mem_of_getElem? (i := 76) rfl)) rfl
theorem bw_1_78 : Cond.fieldLink RX7 82 "BondedStore$Owner" "debt" "I" ∈ bigL := bgm (tm_1 _ (List.mem_of_getElem? (i := 78) rfl)) rfl
theorem bw_1_81 : Cond.fieldLink RX7 186 "BondedStore$Owner" "called" "I" ∈ bigL := bgm (tm_1 _ (List.mem_of_getElem? (i := 81) rfl)) rfl
theorem bw_3_53 : Cond.constantLong RX7 189 (-100000002) ∈ bigL := bgm (tm_3 _ (List.mem_of_getElem? (i := 53) rfl)) rfl
theorem bw_3_34 : Cond.methodLink RX7 61 yX6_findOwner ∈ bigL := bgm (tm_3 _ (List.mem_of_getElem? (i := 34) rfl)) rfl
theorem bw_2_185 : Cond.instanceMethod yX6_findOwner ∈ bigL := bgm (tm_2 _ (List.mem_of_getElem? (i := 185) rfl)) rfl
theorem bw_2_186 : Cond.selects RX6 yX6_findOwner yX6_findOwner ∈ bigL := bgm (tm_2 _ (List.mem_of_getElem? (i := 186) rfl)) rfl
theorem bw_2_187 : Cond.code yX6_findOwner cX6_findOwner 2 (some (.object "BondedStore$Owner")) ∈ bigL := bgm (tm_2 _ (List.mem_of_getElem? (i := 187) rfl)) rfl
theorem bw_3_36 : Cond.methodLink RX7 90 yX6_useOf ∈ bigL := bgm (tm_3 _ (List.mem_of_getElem? (i := 36) rfl)) rfl
theorem bw_3_37 : Cond.instanceMethod yX6_useOf ∈ bigL := bgm (tm_3 _ (List.mem_of_getElem? (i := 37) rfl)) rfl
theorem bw_3_38 : Cond.selects RX6 yX6_useOf yX6_useOf ∈ bigL := bgm (tm_3 _ (List.mem_of_getElem? (i := 38) rfl)) rfl
theorem bw_3_39 : Cond.code yX6_useOf cX6_useOf 4 (some .int) ∈ bigL := bgm (tm_3 _ (List.mem_of_getElem? (i := 39) rfl)) rfl
theorem bw_1_99 : Cond.fieldLink RX6 75 "BondedStore$Lot" "owner" "I" ∈ bigL := bgm (tm_1 _ (List.mem_of_getElem? (i := 99) rfl)) rfl
theorem bw_3_40 : Cond.methodLink RX6 78 yX2_suspended ∈ bigL := bgm (tm_3 _ (List.mem_of_getElem? (i := 40) rfl)) rfl
theorem bw_3_41 : Cond.instanceMethod yX2_suspended ∈ bigL := bgm (tm_3 _ (List.mem_of_getElem? (i := 41) rfl)) rfl
theorem bw_3_42 : Cond.selects RX2 yX2_suspended yX2_suspended ∈ bigL := bgm (tm_3 _ (List.mem_of_getElem? (i := 42) rfl)) rfl
theorem bw_3_43 : Cond.code yX2_suspended cX2_suspended 1 (some .int) ∈ bigL := bgm (tm_3 _ (List.mem_of_getElem? (i := 43) rfl)) rfl
theorem bw_3_44 : Cond.methodLink RX7 93 yX5_covers ∈ bigL := bgm (tm_3 _ (List.mem_of_getElem? (i := 44) rfl)) rfl
theorem bw_3_45 : Cond.instanceMethod yX5_covers ∈ bigL := bgm (tm_3 _ (List.mem_of_getElem? (i := 45) rfl)) rfl
theorem bw_3_46 : Cond.selects RX5 yX5_covers yX5_covers ∈ bigL := bgm (tm_3 _ (List.mem_of_getElem? (i := 46) rfl)) rfl
theorem bw_3_47 : Cond.code yX5_covers cX5_covers 3 (some .boolean) ∈ bigL := bgm (tm_3 _ (List.mem_of_getElem? (i := 47) rfl)) rfl
theorem bw_3_48 : Cond.constantLong RX5 39 (100) ∈ bigL := bgm (tm_3 _ (List.mem_of_getElem? (i := 48) rfl)) rfl
theorem bw_3_49 : Cond.methodLink RX7 183 yX6_storedLotsOf ∈ bigL := bgm (tm_3 _ (List.mem_of_getElem? (i := 49) rfl)) rfl
theorem bw_3_50 : Cond.instanceMethod yX6_storedLotsOf ∈ bigL := bgm (tm_3 _ (List.mem_of_getElem? (i := 50) rfl)) rfl
theorem bw_3_51 : Cond.selects RX6 yX6_storedLotsOf yX6_storedLotsOf ∈ bigL := bgm (tm_3 _ (List.mem_of_getElem? (i := 51) rfl)) rfl
theorem bw_3_52 : Cond.code yX6_storedLotsOf cX6_storedLotsOf 4 (some .int) ∈ bigL := bgm (tm_3 _ (List.mem_of_getElem? (i := 52) rfl)) rfl
theorem bw_1_115 : Cond.fieldLink RX6 82 "BondedStore$Lot" "stored" "I" ∈ bigL := bgm (tm_1 _ (List.mem_of_getElem? (i := 115) rfl)) rfl
theorem bw_4_121 : Cond.methodLink RL 101 yX7_deposit ∈ bigL := bgm (tm_4 _ (List.mem_of_getElem? (i := 121) rfl)) rfl
theorem bw_4_122 : Cond.instanceMethod yX7_deposit ∈ bigL := bgm (tm_4 _ (List.mem_of_getElem? (i := 122) rfl)) rfl
theorem bw_4_123 : Cond.selects RX7 yX7_deposit yX7_deposit ∈ bigL := bgm (tm_4 _ (List.mem_of_getElem? (i := 123) rfl)) rfl
theorem bw_4_124 : Cond.code yX7_deposit cX7_deposit 4 (some .int) ∈ bigL := bgm (tm_4 _ (List.mem_of_getElem? (i := 124) rfl)) rfl
theorem bw_3_96 : Cond.constant RX7 66 (10000000) ∈ bigL := bgm (tm_3 _ (List.mem_of_getElem? (i := 96) rfl)) rfl
theorem bw_1_200 : Cond.fieldLink RX7 78 "BondedStore$State" "deposits" "J" ∈ bigL := bgm (tm_1 _ (List.mem_of_getElem? (i := 200) rfl)) rfl
theorem bw_4_125 : Cond.methodLink RX7 72 yX4_payIn ∈ bigL := bgm (tm_4 _ (List.mem_of_getElem? (i := 125) rfl)) rfl
theorem bw_4_126 : Cond.instanceMethod yX4_payIn ∈ bigL := bgm (tm_4 _ (List.mem_of_getElem? (i := 126) rfl)) rfl
theorem bw_4_127 : Cond.selects RX4 yX4_payIn yX4_payIn ∈ bigL := bgm (tm_4 _ (List.mem_of_getElem? (i := 127) rfl)) rfl
theorem bw_4_128 : Cond.code yX4_payIn cX4_payIn 3 none ∈ bigL := bgm (tm_4 _ (List.mem_of_getElem? (i := 128) rfl)) rfl
theorem bw_4_129 : Cond.methodLink RX4 23 Lib.Math.min.name ∈ bigL := bgm (tm_4 _ (List.mem_of_getElem? (i := 129) rfl)) rfl
theorem bw_3_157 : Cond.static Lib.Math.min.name ∈ bigL := bgm (tm_3 _ (List.mem_of_getElem? (i := 157) rfl)) rfl
theorem bw_1_14 : Cond.initialized "java/lang/Math" ∈ bigL := bgm (tm_1 _ (List.mem_of_getElem? (i := 14) rfl)) rfl
theorem bw_4_142 : Cond.methodLink RL 111 yX7_setGuarantee ∈ bigL := bgm (tm_4 _ (List.mem_of_getElem? (i := 142) rfl)) rfl
theorem bw_4_143 : Cond.instanceMethod yX7_setGuarantee ∈ bigL := bgm (tm_4 _ (List.mem_of_getElem? (i := 143) rfl)) rfl
theorem bw_4_144 : Cond.selects RX7 yX7_setGuarantee yX7_setGuarantee ∈ bigL := bgm (tm_4 _ (List.mem_of_getElem? (i := 144) rfl)) rfl
theorem bw_4_145 : Cond.code yX7_setGuarantee cX7_setGuarantee 5 (some .int) ∈ bigL := bgm (tm_4 _ (List.mem_of_getElem? (i := 145) rfl)) rfl
theorem bw_4_146 : Cond.constant RX7 85 (100000000) ∈ bigL := bgm (tm_4 _ (List.mem_of_getElem? (i := 146) rfl)) rfl
theorem bw_2_157 : Cond.methodLink RX7 99 yX7_refuse ∈ bigL := bgm (tm_2 _ (List.mem_of_getElem? (i := 157) rfl)) rfl
theorem bw_2_159 : Cond.instanceMethod yX7_refuse ∈ bigL := bgm (tm_2 _ (List.mem_of_getElem? (i := 159) rfl)) rfl
theorem bs_2 : Cond.selects RX7 yX7_refuse yX7_refuse ∈ bigL := bgm (List.mem_append_left _ (List.mem_of_getElem? (i := 2) rfl)) rfl
theorem bw_2_160 : Cond.code yX7_refuse cX7_refuse 2 (some .int) ∈ bigL := bgm (tm_2 _ (List.mem_of_getElem? (i := 160) rfl)) rfl
theorem bw_2_161 : Cond.constant RX7 354 (-100000003) ∈ bigL := bgm (tm_2 _ (List.mem_of_getElem? (i := 161) rfl)) rfl
theorem bw_4_110 : Cond.methodLink RL 156 yL_enters ∈ bigL := bgm (tm_4 _ (List.mem_of_getElem? (i := 110) rfl)) rfl
theorem bw_4_111 : Cond.static yL_enters ∈ bigL := bgm (tm_4 _ (List.mem_of_getElem? (i := 111) rfl)) rfl
theorem bw_4_112 : Cond.code yL_enters cL_enters 14 (some .boolean) ∈ bigL := bgm (tm_4 _ (List.mem_of_getElem? (i := 112) rfl)) rfl
theorem bw_4_130 : Cond.constant RL 104 (3000000) ∈ bigL := bgm (tm_4 _ (List.mem_of_getElem? (i := 130) rfl)) rfl
theorem bw_3_103 : Cond.constantLong RL 54 (1000) ∈ bigL := bgm (tm_3 _ (List.mem_of_getElem? (i := 103) rfl)) rfl
theorem bw_4_131 : Cond.constant RL 105 (10000001) ∈ bigL := bgm (tm_4 _ (List.mem_of_getElem? (i := 131) rfl)) rfl
theorem bw_4_113 : Cond.methodLink RL 97 yX7_enter ∈ bigL := bgm (tm_4 _ (List.mem_of_getElem? (i := 113) rfl)) rfl
theorem bw_4_114 : Cond.instanceMethod yX7_enter ∈ bigL := bgm (tm_4 _ (List.mem_of_getElem? (i := 114) rfl)) rfl
theorem bw_4_115 : Cond.selects RX7 yX7_enter yX7_enter ∈ bigL := bgm (tm_4 _ (List.mem_of_getElem? (i := 115) rfl)) rfl
theorem bw_4_116 : Cond.code yX7_enter cX7_enter 5 (some .int) ∈ bigL := bgm (tm_4 _ (List.mem_of_getElem? (i := 116) rfl)) rfl
theorem bw_4_117 : Cond.methodLink RX7 124 yX7_enterLot ∈ bigL := bgm (tm_4 _ (List.mem_of_getElem? (i := 117) rfl)) rfl
theorem bw_4_119 : Cond.instanceMethod yX7_enterLot ∈ bigL := bgm (tm_4 _ (List.mem_of_getElem? (i := 119) rfl)) rfl
theorem bs_13 : Cond.selects RX7 yX7_enterLot yX7_enterLot ∈ bigL := bgm (List.mem_append_left _ (List.mem_of_getElem? (i := 13) rfl)) rfl
theorem bw_4_120 : Cond.code yX7_enterLot cX7_enterLot 9 (some .int) ∈ bigL := bgm (tm_4 _ (List.mem_of_getElem? (i := 120) rfl)) rfl
theorem bw_4_69 : Cond.constant RX7 306 (1000000) ∈ bigL := bgm (tm_4 _ (List.mem_of_getElem? (i := 69) rfl)) rfl
theorem bw_1_100 : Cond.fieldLink RX7 195 "BondedStore$Lot" "owner" "I" ∈ bigL := bgm (tm_1 _ (List.mem_of_getElem? (i := 100) rfl)) rfl
theorem bw_1_102 : Cond.fieldLink RX7 200 "BondedStore$Lot" "kind" "I" ∈ bigL := bgm (tm_1 _ (List.mem_of_getElem? (i := 102) rfl)) rfl
theorem bw_1_105 : Cond.fieldLink RX7 203 "BondedStore$Lot" "quantity" "I" ∈ bigL := bgm (tm_1 _ (List.mem_of_getElem? (i := 105) rfl)) rfl
theorem bw_1_107 : Cond.fieldLink RX7 206 "BondedStore$Lot" "value" "I" ∈ bigL := bgm (tm_1 _ (List.mem_of_getElem? (i := 107) rfl)) rfl
theorem bw_1_109 : Cond.fieldLink RX7 209 "BondedStore$Lot" "entered" "I" ∈ bigL := bgm (tm_1 _ (List.mem_of_getElem? (i := 109) rfl)) rfl
theorem bw_1_113 : Cond.fieldLink RX7 215 "BondedStore$Lot" "due" "I" ∈ bigL := bgm (tm_1 _ (List.mem_of_getElem? (i := 113) rfl)) rfl
theorem bw_1_116 : Cond.fieldLink RX7 218 "BondedStore$Lot" "stored" "I" ∈ bigL := bgm (tm_1 _ (List.mem_of_getElem? (i := 116) rfl)) rfl
theorem bw_3_97 : Cond.methodLink RX7 288 yX5_dutyOf ∈ bigL := bgm (tm_3 _ (List.mem_of_getElem? (i := 97) rfl)) rfl
theorem bw_3_98 : Cond.instanceMethod yX5_dutyOf ∈ bigL := bgm (tm_3 _ (List.mem_of_getElem? (i := 98) rfl)) rfl
theorem bw_3_99 : Cond.selects RX5 yX5_dutyOf yX5_dutyOf ∈ bigL := bgm (tm_3 _ (List.mem_of_getElem? (i := 99) rfl)) rfl
theorem bw_3_100 : Cond.code yX5_dutyOf cX5_dutyOf 3 (some .int) ∈ bigL := bgm (tm_3 _ (List.mem_of_getElem? (i := 100) rfl)) rfl
theorem bw_3_101 : Cond.constantLong RX5 37 (1000) ∈ bigL := bgm (tm_3 _ (List.mem_of_getElem? (i := 101) rfl)) rfl
theorem bw_3_26 : Cond.methodLink RL 19 yX7_rate ∈ bigL := bgm (tm_3 _ (List.mem_of_getElem? (i := 26) rfl)) rfl
theorem bw_3_27 : Cond.instanceMethod yX7_rate ∈ bigL := bgm (tm_3 _ (List.mem_of_getElem? (i := 27) rfl)) rfl
theorem bw_3_28 : Cond.selects RX7 yX7_rate yX7_rate ∈ bigL := bgm (tm_3 _ (List.mem_of_getElem? (i := 28) rfl)) rfl
theorem bw_3_29 : Cond.code yX7_rate cX7_rate 2 (some .int) ∈ bigL := bgm (tm_3 _ (List.mem_of_getElem? (i := 29) rfl)) rfl
theorem bw_3_54 : Cond.methodLink RL 26 yX7_lot ∈ bigL := bgm (tm_3 _ (List.mem_of_getElem? (i := 54) rfl)) rfl
theorem bw_3_55 : Cond.instanceMethod yX7_lot ∈ bigL := bgm (tm_3 _ (List.mem_of_getElem? (i := 55) rfl)) rfl
theorem bw_3_56 : Cond.selects RX7 yX7_lot yX7_lot ∈ bigL := bgm (tm_3 _ (List.mem_of_getElem? (i := 56) rfl)) rfl
theorem bw_3_57 : Cond.code yX7_lot cX7_lot 4 (some .int) ∈ bigL := bgm (tm_3 _ (List.mem_of_getElem? (i := 57) rfl)) rfl
theorem bw_1_119 : Cond.fieldLink RX7 224 "BondedStore$Lot" "paid" "I" ∈ bigL := bgm (tm_1 _ (List.mem_of_getElem? (i := 119) rfl)) rfl
theorem bw_1_121 : Cond.fieldLink RX7 227 "BondedStore$Lot" "discharged" "I" ∈ bigL := bgm (tm_1 _ (List.mem_of_getElem? (i := 121) rfl)) rfl
theorem bw_1_124 : Cond.fieldLink RX7 230 "BondedStore$Lot" "sampled" "I" ∈ bigL := bgm (tm_1 _ (List.mem_of_getElem? (i := 124) rfl)) rfl
theorem bw_2_149 : Cond.methodLink RX7 191 yX6_findLot ∈ bigL := bgm (tm_2 _ (List.mem_of_getElem? (i := 149) rfl)) rfl
theorem bw_2_150 : Cond.instanceMethod yX6_findLot ∈ bigL := bgm (tm_2 _ (List.mem_of_getElem? (i := 150) rfl)) rfl
theorem bw_2_151 : Cond.selects RX6 yX6_findLot yX6_findLot ∈ bigL := bgm (tm_2 _ (List.mem_of_getElem? (i := 151) rfl)) rfl
theorem bw_2_152 : Cond.code yX6_findLot cX6_findLot 2 (some (.object "BondedStore$Lot")) ∈ bigL := bgm (tm_2 _ (List.mem_of_getElem? (i := 152) rfl)) rfl
theorem bw_3_58 : Cond.methodLink RX7 221 yX2_suspended ∈ bigL := bgm (tm_3 _ (List.mem_of_getElem? (i := 58) rfl)) rfl
theorem bw_3_59 : Cond.methodLink RX7 233 yX6_waitingUnitsOf ∈ bigL := bgm (tm_3 _ (List.mem_of_getElem? (i := 59) rfl)) rfl
theorem bw_3_60 : Cond.instanceMethod yX6_waitingUnitsOf ∈ bigL := bgm (tm_3 _ (List.mem_of_getElem? (i := 60) rfl)) rfl
theorem bw_3_61 : Cond.selects RX6 yX6_waitingUnitsOf yX6_waitingUnitsOf ∈ bigL := bgm (tm_3 _ (List.mem_of_getElem? (i := 61) rfl)) rfl
theorem bw_3_62 : Cond.code yX6_waitingUnitsOf cX6_waitingUnitsOf 4 (some .int) ∈ bigL := bgm (tm_3 _ (List.mem_of_getElem? (i := 62) rfl)) rfl
theorem bw_1_156 : Cond.fieldLink RX6 92 "BondedStore$Export" "lot" "I" ∈ bigL := bgm (tm_1 _ (List.mem_of_getElem? (i := 156) rfl)) rfl
theorem bw_1_159 : Cond.fieldLink RX6 99 "BondedStore$Export" "units" "I" ∈ bigL := bgm (tm_1 _ (List.mem_of_getElem? (i := 159) rfl)) rfl
theorem bw_4_54 : Cond.methodLink RL 159 yL_moves ∈ bigL := bgm (tm_4 _ (List.mem_of_getElem? (i := 54) rfl)) rfl
theorem bw_4_55 : Cond.static yL_moves ∈ bigL := bgm (tm_4 _ (List.mem_of_getElem? (i := 55) rfl)) rfl
theorem bw_4_56 : Cond.code yL_moves cL_moves 24 (some .boolean) ∈ bigL := bgm (tm_4 _ (List.mem_of_getElem? (i := 56) rfl)) rfl
theorem bw_4_57 : Cond.methodLink RL 81 yX7_release ∈ bigL := bgm (tm_4 _ (List.mem_of_getElem? (i := 57) rfl)) rfl
theorem bw_4_58 : Cond.instanceMethod yX7_release ∈ bigL := bgm (tm_4 _ (List.mem_of_getElem? (i := 58) rfl)) rfl
theorem bw_4_59 : Cond.selects RX7 yX7_release yX7_release ∈ bigL := bgm (tm_4 _ (List.mem_of_getElem? (i := 59) rfl)) rfl
theorem bw_4_60 : Cond.code yX7_release cX7_release 3 (some .int) ∈ bigL := bgm (tm_4 _ (List.mem_of_getElem? (i := 60) rfl)) rfl
theorem bw_4_61 : Cond.methodLink RX7 128 yX7_releaseUnits ∈ bigL := bgm (tm_4 _ (List.mem_of_getElem? (i := 61) rfl)) rfl
theorem bw_4_63 : Cond.instanceMethod yX7_releaseUnits ∈ bigL := bgm (tm_4 _ (List.mem_of_getElem? (i := 63) rfl)) rfl
theorem bs_7 : Cond.selects RX7 yX7_releaseUnits yX7_releaseUnits ∈ bigL := bgm (List.mem_append_left _ (List.mem_of_getElem? (i := 7) rfl)) rfl
theorem bw_4_64 : Cond.code yX7_releaseUnits cX7_releaseUnits 7 (some .int) ∈ bigL := bgm (tm_4 _ (List.mem_of_getElem? (i := 64) rfl)) rfl
theorem bw_4_65 : Cond.methodLink RX7 307 yX7_errorOfTaking ∈ bigL := bgm (tm_4 _ (List.mem_of_getElem? (i := 65) rfl)) rfl
theorem bw_4_67 : Cond.instanceMethod yX7_errorOfTaking ∈ bigL := bgm (tm_4 _ (List.mem_of_getElem? (i := 67) rfl)) rfl
theorem bs_8 : Cond.selects RX7 yX7_errorOfTaking yX7_errorOfTaking ∈ bigL := bgm (List.mem_append_left _ (List.mem_of_getElem? (i := 8) rfl)) rfl
theorem bw_4_68 : Cond.code yX7_errorOfTaking cX7_errorOfTaking 3 (some .int) ∈ bigL := bgm (tm_4 _ (List.mem_of_getElem? (i := 68) rfl)) rfl
theorem bw_4_70 : Cond.methodLink RX7 311 yX2_dutyOfNext ∈ bigL := bgm (tm_4 _ (List.mem_of_getElem? (i := 70) rfl)) rfl
theorem bw_2_201 : Cond.instanceMethod yX2_dutyOfNext ∈ bigL := bgm (tm_2 _ (List.mem_of_getElem? (i := 201) rfl)) rfl
theorem bw_2_202 : Cond.selects RX2 yX2_dutyOfNext yX2_dutyOfNext ∈ bigL := bgm (tm_2 _ (List.mem_of_getElem? (i := 202) rfl)) rfl
theorem bw_2_203 : Cond.code yX2_dutyOfNext cX2_dutyOfNext 4 (some .int) ∈ bigL := bgm (tm_2 _ (List.mem_of_getElem? (i := 203) rfl)) rfl
theorem bw_2_204 : Cond.methodLink RX2 47 yX2_dutyOfFirst ∈ bigL := bgm (tm_2 _ (List.mem_of_getElem? (i := 204) rfl)) rfl
theorem bw_2_206 : Cond.instanceMethod yX2_dutyOfFirst ∈ bigL := bgm (tm_2 _ (List.mem_of_getElem? (i := 206) rfl)) rfl
theorem bs_5 : Cond.selects RX2 yX2_dutyOfFirst yX2_dutyOfFirst ∈ bigL := bgm (List.mem_append_left _ (List.mem_of_getElem? (i := 5) rfl)) rfl
theorem bw_2_207 : Cond.code yX2_dutyOfFirst cX2_dutyOfFirst 2 (some .int) ∈ bigL := bgm (tm_2 _ (List.mem_of_getElem? (i := 207) rfl)) rfl
theorem bw_4_71 : Cond.methodLink RL 84 yX7_sample ∈ bigL := bgm (tm_4 _ (List.mem_of_getElem? (i := 71) rfl)) rfl
theorem bw_4_72 : Cond.instanceMethod yX7_sample ∈ bigL := bgm (tm_4 _ (List.mem_of_getElem? (i := 72) rfl)) rfl
theorem bw_4_73 : Cond.selects RX7 yX7_sample yX7_sample ∈ bigL := bgm (tm_4 _ (List.mem_of_getElem? (i := 73) rfl)) rfl
theorem bw_4_74 : Cond.code yX7_sample cX7_sample 3 (some .int) ∈ bigL := bgm (tm_4 _ (List.mem_of_getElem? (i := 74) rfl)) rfl
theorem bw_4_75 : Cond.methodLink RX7 132 yX7_sampleUnits ∈ bigL := bgm (tm_4 _ (List.mem_of_getElem? (i := 75) rfl)) rfl
theorem bw_4_77 : Cond.instanceMethod yX7_sampleUnits ∈ bigL := bgm (tm_4 _ (List.mem_of_getElem? (i := 77) rfl)) rfl
theorem bs_9 : Cond.selects RX7 yX7_sampleUnits yX7_sampleUnits ∈ bigL := bgm (List.mem_append_left _ (List.mem_of_getElem? (i := 9) rfl)) rfl
theorem bw_4_78 : Cond.code yX7_sampleUnits cX7_sampleUnits 9 (some .int) ∈ bigL := bgm (tm_4 _ (List.mem_of_getElem? (i := 78) rfl)) rfl
theorem bw_4_84 : Cond.methodLink RX7 318 Lib.Math.min.name ∈ bigL := bgm (tm_4 _ (List.mem_of_getElem? (i := 84) rfl)) rfl
theorem bw_4_79 : Cond.methodLink RX7 314 yX5_freeUnitsOf ∈ bigL := bgm (tm_4 _ (List.mem_of_getElem? (i := 79) rfl)) rfl
theorem bw_4_80 : Cond.instanceMethod yX5_freeUnitsOf ∈ bigL := bgm (tm_4 _ (List.mem_of_getElem? (i := 80) rfl)) rfl
theorem bw_4_81 : Cond.selects RX5 yX5_freeUnitsOf yX5_freeUnitsOf ∈ bigL := bgm (tm_4 _ (List.mem_of_getElem? (i := 81) rfl)) rfl
theorem bw_4_82 : Cond.code yX5_freeUnitsOf cX5_freeUnitsOf 3 (some .int) ∈ bigL := bgm (tm_4 _ (List.mem_of_getElem? (i := 82) rfl)) rfl
theorem bw_1_104 : Cond.fieldLink RX5 41 "BondedStore$Lot" "quantity" "I" ∈ bigL := bgm (tm_1 _ (List.mem_of_getElem? (i := 104) rfl)) rfl
theorem bw_1_123 : Cond.fieldLink RX5 46 "BondedStore$Lot" "sampled" "I" ∈ bigL := bgm (tm_1 _ (List.mem_of_getElem? (i := 123) rfl)) rfl
theorem bw_4_83 : Cond.methodLink RX5 49 Lib.Math.max.name ∈ bigL := bgm (tm_4 _ (List.mem_of_getElem? (i := 83) rfl)) rfl
theorem bw_3_139 : Cond.static Lib.Math.max.name ∈ bigL := bgm (tm_3 _ (List.mem_of_getElem? (i := 139) rfl)) rfl
theorem bw_4_85 : Cond.methodLink RL 87 yX7_export ∈ bigL := bgm (tm_4 _ (List.mem_of_getElem? (i := 85) rfl)) rfl
theorem bw_4_86 : Cond.instanceMethod yX7_export ∈ bigL := bgm (tm_4 _ (List.mem_of_getElem? (i := 86) rfl)) rfl
theorem bw_4_87 : Cond.selects RX7 yX7_export yX7_export ∈ bigL := bgm (tm_4 _ (List.mem_of_getElem? (i := 87) rfl)) rfl
theorem bw_4_88 : Cond.code yX7_export cX7_export 3 (some .int) ∈ bigL := bgm (tm_4 _ (List.mem_of_getElem? (i := 88) rfl)) rfl
theorem bw_4_89 : Cond.methodLink RX7 135 yX7_exportUnits ∈ bigL := bgm (tm_4 _ (List.mem_of_getElem? (i := 89) rfl)) rfl
theorem bw_4_91 : Cond.instanceMethod yX7_exportUnits ∈ bigL := bgm (tm_4 _ (List.mem_of_getElem? (i := 91) rfl)) rfl
theorem bs_10 : Cond.selects RX7 yX7_exportUnits yX7_exportUnits ∈ bigL := bgm (List.mem_append_left _ (List.mem_of_getElem? (i := 10) rfl)) rfl
theorem bw_4_92 : Cond.code yX7_exportUnits cX7_exportUnits 7 (some .int) ∈ bigL := bgm (tm_4 _ (List.mem_of_getElem? (i := 92) rfl)) rfl
theorem bw_1_157 : Cond.fieldLink RX7 240 "BondedStore$Export" "lot" "I" ∈ bigL := bgm (tm_1 _ (List.mem_of_getElem? (i := 157) rfl)) rfl
theorem bw_1_160 : Cond.fieldLink RX7 245 "BondedStore$Export" "units" "I" ∈ bigL := bgm (tm_1 _ (List.mem_of_getElem? (i := 160) rfl)) rfl
theorem bw_1_163 : Cond.fieldLink RX7 248 "BondedStore$Export" "duty" "I" ∈ bigL := bgm (tm_1 _ (List.mem_of_getElem? (i := 163) rfl)) rfl
theorem bw_1_168 : Cond.fieldLink RX7 252 "BondedStore$Export" "state" "I" ∈ bigL := bgm (tm_1 _ (List.mem_of_getElem? (i := 168) rfl)) rfl
theorem bw_4_93 : Cond.methodLink RL 90 yX7_destroy ∈ bigL := bgm (tm_4 _ (List.mem_of_getElem? (i := 93) rfl)) rfl
theorem bw_4_94 : Cond.instanceMethod yX7_destroy ∈ bigL := bgm (tm_4 _ (List.mem_of_getElem? (i := 94) rfl)) rfl
theorem bw_4_95 : Cond.selects RX7 yX7_destroy yX7_destroy ∈ bigL := bgm (tm_4 _ (List.mem_of_getElem? (i := 95) rfl)) rfl
theorem bw_4_96 : Cond.code yX7_destroy cX7_destroy 3 (some .int) ∈ bigL := bgm (tm_4 _ (List.mem_of_getElem? (i := 96) rfl)) rfl
theorem bw_4_97 : Cond.methodLink RX7 141 yX7_destroyUnits ∈ bigL := bgm (tm_4 _ (List.mem_of_getElem? (i := 97) rfl)) rfl
theorem bw_4_99 : Cond.instanceMethod yX7_destroyUnits ∈ bigL := bgm (tm_4 _ (List.mem_of_getElem? (i := 99) rfl)) rfl
theorem bs_11 : Cond.selects RX7 yX7_destroyUnits yX7_destroyUnits ∈ bigL := bgm (List.mem_append_left _ (List.mem_of_getElem? (i := 11) rfl)) rfl
theorem bw_4_100 : Cond.code yX7_destroyUnits cX7_destroyUnits 9 (some .int) ∈ bigL := bgm (tm_4 _ (List.mem_of_getElem? (i := 100) rfl)) rfl
theorem bw_1_198 : Cond.fieldLink RX7 297 "BondedStore$State" "fees" "J" ∈ bigL := bgm (tm_1 _ (List.mem_of_getElem? (i := 198) rfl)) rfl
theorem bw_4_101 : Cond.methodLink RL 93 yX7_give ∈ bigL := bgm (tm_4 _ (List.mem_of_getElem? (i := 101) rfl)) rfl
theorem bw_4_102 : Cond.instanceMethod yX7_give ∈ bigL := bgm (tm_4 _ (List.mem_of_getElem? (i := 102) rfl)) rfl
theorem bw_4_103 : Cond.selects RX7 yX7_give yX7_give ∈ bigL := bgm (tm_4 _ (List.mem_of_getElem? (i := 103) rfl)) rfl
theorem bw_4_104 : Cond.code yX7_give cX7_give 3 (some .int) ∈ bigL := bgm (tm_4 _ (List.mem_of_getElem? (i := 104) rfl)) rfl
theorem bw_4_105 : Cond.methodLink RX7 144 yX7_giveLot ∈ bigL := bgm (tm_4 _ (List.mem_of_getElem? (i := 105) rfl)) rfl
theorem bw_4_107 : Cond.instanceMethod yX7_giveLot ∈ bigL := bgm (tm_4 _ (List.mem_of_getElem? (i := 107) rfl)) rfl
theorem bs_12 : Cond.selects RX7 yX7_giveLot yX7_giveLot ∈ bigL := bgm (List.mem_append_left _ (List.mem_of_getElem? (i := 12) rfl)) rfl
theorem bw_4_108 : Cond.code yX7_giveLot cX7_giveLot 6 (some .int) ∈ bigL := bgm (tm_4 _ (List.mem_of_getElem? (i := 108) rfl)) rfl
theorem bw_3_112 : Cond.methodLink RL 75 yX7_documentLength ∈ bigL := bgm (tm_3 _ (List.mem_of_getElem? (i := 112) rfl)) rfl
theorem bw_3_113 : Cond.instanceMethod yX7_documentLength ∈ bigL := bgm (tm_3 _ (List.mem_of_getElem? (i := 113) rfl)) rfl
theorem bw_3_114 : Cond.selects RX7 yX7_documentLength yX7_documentLength ∈ bigL := bgm (tm_3 _ (List.mem_of_getElem? (i := 114) rfl)) rfl
theorem bw_3_115 : Cond.code yX7_documentLength cX7_documentLength 3 (some .int) ∈ bigL := bgm (tm_3 _ (List.mem_of_getElem? (i := 115) rfl)) rfl
theorem bw_3_116 : Cond.methodLink RX7 255 yX7_writeDocument ∈ bigL := bgm (tm_3 _ (List.mem_of_getElem? (i := 116) rfl)) rfl
theorem bw_3_118 : Cond.instanceMethod yX7_writeDocument ∈ bigL := bgm (tm_3 _ (List.mem_of_getElem? (i := 118) rfl)) rfl
theorem bs_6 : Cond.selects RX7 yX7_writeDocument yX7_writeDocument ∈ bigL := bgm (List.mem_append_left _ (List.mem_of_getElem? (i := 6) rfl)) rfl
theorem bw_3_119 : Cond.code yX7_writeDocument cX7_writeDocument 4 none ∈ bigL := bgm (tm_3 _ (List.mem_of_getElem? (i := 119) rfl)) rfl
theorem bw_3_120 : Cond.methodLink RX7 358 yJ4_setLength_d00df ∈ bigL := bgm (tm_3 _ (List.mem_of_getElem? (i := 120) rfl)) rfl
theorem bw_3_121 : Cond.instanceMethod yJ4_setLength_d00df ∈ bigL := bgm (tm_3 _ (List.mem_of_getElem? (i := 121) rfl)) rfl
theorem bw_3_122 : Cond.selects RJ4 yJ4_setLength_d00df yJ4_setLength_d00df ∈ bigL := bgm (tm_3 _ (List.mem_of_getElem? (i := 122) rfl)) rfl
theorem bw_3_123 : Cond.code yJ4_setLength_d00df cJ4_setLength_d00df 2 none ∈ bigL := bgm (tm_3 _ (List.mem_of_getElem? (i := 123) rfl)) rfl
theorem bw_3_124 : Cond.methodLink RJ4 333 yJ5_setLength_d00df ∈ bigL := bgm (tm_3 _ (List.mem_of_getElem? (i := 124) rfl)) rfl
theorem bw_5_30 : Cond.sameMethod "java/lang/AbstractStringBuilder" "java/lang/AbstractStringBuilder" "setLength" "(I)V" ∈ bigL := bgm (tm_5 _ (List.mem_of_getElem? (i := 30) rfl)) rfl
theorem bw_2_61 : Cond.superclass RJ4 RJ5 ∈ bigL := bgm (tm_2 _ (List.mem_of_getElem? (i := 61) rfl)) rfl
theorem bw_3_125 : Cond.instanceMethod yJ5_setLength_d00df ∈ bigL := bgm (tm_3 _ (List.mem_of_getElem? (i := 125) rfl)) rfl
theorem bw_3_126 : Cond.code yJ5_setLength_d00df cJ5_setLength_d00df 2 none ∈ bigL := bgm (tm_3 _ (List.mem_of_getElem? (i := 126) rfl)) rfl
theorem bw_2_52 : Cond.fieldLink RJ5 79 "java/lang/AbstractStringBuilder" "count" "I" ∈ bigL := bgm (tm_2 _ (List.mem_of_getElem? (i := 52) rfl)) rfl
theorem bw_2_51 : Cond.fieldLink RJ5 73 "java/lang/AbstractStringBuilder" "maybeLatin1" "Z" ∈ bigL := bgm (tm_2 _ (List.mem_of_getElem? (i := 51) rfl)) rfl
theorem bw_3_127 : Cond.methodLink RJ5 100 ⟨"java/lang/AbstractStringBuilder", "ensureCapacityInternal", "(I)V"⟩ ∈ bigL := bgm (tm_3 _ (List.mem_of_getElem? (i := 127) rfl)) rfl
theorem bw_5_31 : Cond.sameMethod "java/lang/AbstractStringBuilder" "java/lang/AbstractStringBuilder" "ensureCapacityInternal" "(I)V" ∈ bigL := bgm (tm_5 _ (List.mem_of_getElem? (i := 31) rfl)) rfl
theorem bw_3_129 : Cond.instanceMethod yJ5_ensureCapacityInternal_d00df ∈ bigL := bgm (tm_3 _ (List.mem_of_getElem? (i := 129) rfl)) rfl
theorem bw_3_130 : Cond.code yJ5_ensureCapacityInternal_d00df cJ5_ensureCapacityInternal_d00df 3 none ∈ bigL := bgm (tm_3 _ (List.mem_of_getElem? (i := 130) rfl)) rfl
theorem bw_3_131 : Cond.methodLink RJ5 104 ⟨"java/lang/AbstractStringBuilder", "newCapacity", "(I)I"⟩ ∈ bigL := bgm (tm_3 _ (List.mem_of_getElem? (i := 131) rfl)) rfl
theorem bw_5_32 : Cond.sameMethod "java/lang/AbstractStringBuilder" "java/lang/AbstractStringBuilder" "newCapacity" "(I)I" ∈ bigL := bgm (tm_5 _ (List.mem_of_getElem? (i := 32) rfl)) rfl
theorem bw_3_133 : Cond.instanceMethod yJ5_newCapacity_0f7a4 ∈ bigL := bgm (tm_3 _ (List.mem_of_getElem? (i := 133) rfl)) rfl
theorem bw_3_134 : Cond.code yJ5_newCapacity_0f7a4 cJ5_newCapacity_0f7a4 6 (some .int) ∈ bigL := bgm (tm_3 _ (List.mem_of_getElem? (i := 134) rfl)) rfl
theorem bw_3_145 : Cond.constant RJ5 39 (2147483647) ∈ bigL := bgm (tm_3 _ (List.mem_of_getElem? (i := 145) rfl)) rfl
theorem bw_3_135 : Cond.methodLink RJ5 114 yJ8_newLength_cabcc ∈ bigL := bgm (tm_3 _ (List.mem_of_getElem? (i := 135) rfl)) rfl
theorem bw_3_136 : Cond.static yJ8_newLength_cabcc ∈ bigL := bgm (tm_3 _ (List.mem_of_getElem? (i := 136) rfl)) rfl
theorem bw_1_15 : Cond.initialized RJ8 ∈ bigL := bgm (tm_1 _ (List.mem_of_getElem? (i := 15) rfl)) rfl
theorem bw_3_137 : Cond.code yJ8_newLength_cabcc cJ8_newLength_cabcc 4 (some .int) ∈ bigL := bgm (tm_3 _ (List.mem_of_getElem? (i := 137) rfl)) rfl
theorem bw_3_138 : Cond.methodLink RJ8 194 Lib.Math.max.name ∈ bigL := bgm (tm_3 _ (List.mem_of_getElem? (i := 138) rfl)) rfl
theorem bw_3_141 : Cond.constant RJ8 200 (2147483639) ∈ bigL := bgm (tm_3 _ (List.mem_of_getElem? (i := 141) rfl)) rfl
theorem bw_3_142 : Cond.methodLink RJ8 201 yJ8_hugeLength_7cf53 ∈ bigL := bgm (tm_3 _ (List.mem_of_getElem? (i := 142) rfl)) rfl
theorem bw_3_143 : Cond.static yJ8_hugeLength_7cf53 ∈ bigL := bgm (tm_3 _ (List.mem_of_getElem? (i := 143) rfl)) rfl
theorem bw_3_144 : Cond.code yJ8_hugeLength_7cf53 cJ8_hugeLength_7cf53 3 (some .int) ∈ bigL := bgm (tm_3 _ (List.mem_of_getElem? (i := 144) rfl)) rfl
theorem bw_3_146 : Cond.methodLink RJ5 108 yJ7_copyOf_9075b ∈ bigL := bgm (tm_3 _ (List.mem_of_getElem? (i := 146) rfl)) rfl
theorem bw_3_147 : Cond.static yJ7_copyOf_9075b ∈ bigL := bgm (tm_3 _ (List.mem_of_getElem? (i := 147) rfl)) rfl
theorem bw_1_16 : Cond.initialized RJ7 ∈ bigL := bgm (tm_1 _ (List.mem_of_getElem? (i := 16) rfl)) rfl
theorem bw_3_148 : Cond.code yJ7_copyOf_9075b cJ7_copyOf_9075b 3 (some (.array .byte)) ∈ bigL := bgm (tm_3 _ (List.mem_of_getElem? (i := 148) rfl)) rfl
theorem bw_3_149 : Cond.methodLink RJ7 310 ⟨"[B", "clone", "()Ljava/lang/Object;"⟩ ∈ bigL := bgm (tm_3 _ (List.mem_of_getElem? (i := 149) rfl)) rfl
theorem bw_3_150 : Cond.sameMethod "[B" "java/lang/Object" "clone" "()Ljava/lang/Object;" ∈ bigL := bgm (tm_3 _ (List.mem_of_getElem? (i := 150) rfl)) rfl
theorem bw_3_151 : Cond.native ⟨"java/lang/Object", "clone", "()Ljava/lang/Object;"⟩ ∈ bigL := bgm (tm_3 _ (List.mem_of_getElem? (i := 151) rfl)) rfl
theorem bw_3_152 : Cond.instanceMethod ⟨"java/lang/Object", "clone", "()Ljava/lang/Object;"⟩ ∈ bigL := bgm (tm_3 _ (List.mem_of_getElem? (i := 152) rfl)) rfl
theorem bw_3_153 : Cond.selects "[B" ⟨"[B", "clone", "()Ljava/lang/Object;"⟩ ⟨"java/lang/Object", "clone", "()Ljava/lang/Object;"⟩ ∈ bigL := bgm (tm_3 _ (List.mem_of_getElem? (i := 153) rfl)) rfl
theorem bw_3_155 : Cond.classLink RJ7 311 "[B" ∈ bigL := bgm (tm_3 _ (List.mem_of_getElem? (i := 155) rfl)) rfl
theorem bw_3_156 : Cond.methodLink RJ7 304 Lib.Math.min.name ∈ bigL := bgm (tm_3 _ (List.mem_of_getElem? (i := 156) rfl)) rfl
theorem bw_3_159 : Cond.methodLink RJ7 150 arraycopyName ∈ bigL := bgm (tm_3 _ (List.mem_of_getElem? (i := 159) rfl)) rfl
theorem bw_3_160 : Cond.methodLink RJ5 83 ⟨"java/lang/AbstractStringBuilder", "isLatin1", "()Z"⟩ ∈ bigL := bgm (tm_3 _ (List.mem_of_getElem? (i := 160) rfl)) rfl
theorem bw_3_162 : Cond.sameMethod "java/lang/AbstractStringBuilder" "java/lang/AbstractStringBuilder" "isLatin1" "()Z" ∈ bigL := bgm (tm_3 _ (List.mem_of_getElem? (i := 162) rfl)) rfl
theorem bw_3_163 : Cond.selects RJ4 ⟨"java/lang/AbstractStringBuilder", "isLatin1", "()Z"⟩ yJ5_isLatin1_aae02 ∈ bigL := bgm (tm_3 _ (List.mem_of_getElem? (i := 163) rfl)) rfl
theorem bw_3_161 : Cond.instanceMethod yJ5_isLatin1_aae02 ∈ bigL := bgm (tm_3 _ (List.mem_of_getElem? (i := 161) rfl)) rfl
theorem bw_3_164 : Cond.code yJ5_isLatin1_aae02 cJ5_isLatin1_aae02 1 (some .boolean) ∈ bigL := bgm (tm_3 _ (List.mem_of_getElem? (i := 164) rfl)) rfl
theorem bw_3_165 : Cond.methodLink RJ5 133 yJ1_fillNull_b72d1 ∈ bigL := bgm (tm_3 _ (List.mem_of_getElem? (i := 165) rfl)) rfl
theorem bw_3_166 : Cond.static yJ1_fillNull_b72d1 ∈ bigL := bgm (tm_3 _ (List.mem_of_getElem? (i := 166) rfl)) rfl
theorem bw_1_17 : Cond.initialized RJ1 ∈ bigL := bgm (tm_1 _ (List.mem_of_getElem? (i := 17) rfl)) rfl
theorem bw_3_167 : Cond.code yJ1_fillNull_b72d1 cJ1_fillNull_b72d1 3 none ∈ bigL := bgm (tm_3 _ (List.mem_of_getElem? (i := 167) rfl)) rfl
theorem bw_3_168 : Cond.methodLink RJ1 236 yJ7_fill_eb02e ∈ bigL := bgm (tm_3 _ (List.mem_of_getElem? (i := 168) rfl)) rfl
theorem bw_3_169 : Cond.static yJ7_fill_eb02e ∈ bigL := bgm (tm_3 _ (List.mem_of_getElem? (i := 169) rfl)) rfl
theorem bw_3_170 : Cond.code yJ7_fill_eb02e cJ7_fill_eb02e 5 none ∈ bigL := bgm (tm_3 _ (List.mem_of_getElem? (i := 170) rfl)) rfl
theorem bw_3_171 : Cond.methodLink RJ7 13 yJ7_rangeCheck_23922 ∈ bigL := bgm (tm_3 _ (List.mem_of_getElem? (i := 171) rfl)) rfl
theorem bw_3_172 : Cond.static yJ7_rangeCheck_23922 ∈ bigL := bgm (tm_3 _ (List.mem_of_getElem? (i := 172) rfl)) rfl
theorem bw_3_173 : Cond.code yJ7_rangeCheck_23922 cJ7_rangeCheck_23922 3 none ∈ bigL := bgm (tm_3 _ (List.mem_of_getElem? (i := 173) rfl)) rfl
theorem bw_3_174 : Cond.methodLink RJ5 137 yJ2_fillNull_b72d1 ∈ bigL := bgm (tm_3 _ (List.mem_of_getElem? (i := 174) rfl)) rfl
theorem bw_3_175 : Cond.static yJ2_fillNull_b72d1 ∈ bigL := bgm (tm_3 _ (List.mem_of_getElem? (i := 175) rfl)) rfl
theorem bw_3_176 : Cond.code yJ2_fillNull_b72d1 cJ2_fillNull_b72d1 3 none ∈ bigL := bgm (tm_3 _ (List.mem_of_getElem? (i := 176) rfl)) rfl
theorem bw_3_177 : Cond.methodLink RJ2 380 yJ7_fill_eb02e ∈ bigL := bgm (tm_3 _ (List.mem_of_getElem? (i := 177) rfl)) rfl
theorem bw_3_178 : Cond.methodLink RX7 361 yJ4_append_cf468 ∈ bigL := bgm (tm_3 _ (List.mem_of_getElem? (i := 178) rfl)) rfl
theorem bw_3_179 : Cond.instanceMethod yJ4_append_cf468 ∈ bigL := bgm (tm_3 _ (List.mem_of_getElem? (i := 179) rfl)) rfl
theorem bw_3_180 : Cond.selects RJ4 yJ4_append_cf468 yJ4_append_cf468 ∈ bigL := bgm (tm_3 _ (List.mem_of_getElem? (i := 180) rfl)) rfl
theorem bw_3_181 : Cond.code yJ4_append_cf468 cJ4_append_cf468 2 (some (.object "java/lang/StringBuilder")) ∈ bigL := bgm (tm_3 _ (List.mem_of_getElem? (i := 181) rfl)) rfl
theorem bw_3_182 : Cond.methodLink RJ4 50 yJ5_append_3fe6f ∈ bigL := bgm (tm_3 _ (List.mem_of_getElem? (i := 182) rfl)) rfl
theorem bw_5_33 : Cond.sameMethod "java/lang/AbstractStringBuilder" "java/lang/AbstractStringBuilder" "append" "(C)Ljava/lang/AbstractStringBuilder;" ∈ bigL := bgm (tm_5 _ (List.mem_of_getElem? (i := 33) rfl)) rfl
theorem bw_3_183 : Cond.instanceMethod yJ5_append_3fe6f ∈ bigL := bgm (tm_3 _ (List.mem_of_getElem? (i := 183) rfl)) rfl
theorem bw_3_184 : Cond.code yJ5_append_3fe6f cJ5_append_3fe6f 2 (some (.object "java/lang/AbstractStringBuilder")) ∈ bigL := bgm (tm_3 _ (List.mem_of_getElem? (i := 184) rfl)) rfl
theorem bw_3_185 : Cond.methodLink RJ5 191 yJ1_canEncode_fc78d ∈ bigL := bgm (tm_3 _ (List.mem_of_getElem? (i := 185) rfl)) rfl
theorem bw_3_186 : Cond.static yJ1_canEncode_fc78d ∈ bigL := bgm (tm_3 _ (List.mem_of_getElem? (i := 186) rfl)) rfl
theorem bw_3_187 : Cond.code yJ1_canEncode_fc78d cJ1_canEncode_fc78d 1 (some .boolean) ∈ bigL := bgm (tm_3 _ (List.mem_of_getElem? (i := 187) rfl)) rfl
theorem bw_3_188 : Cond.methodLink RJ5 195 ⟨"java/lang/AbstractStringBuilder", "inflate", "()V"⟩ ∈ bigL := bgm (tm_3 _ (List.mem_of_getElem? (i := 188) rfl)) rfl
theorem bw_5_34 : Cond.sameMethod "java/lang/AbstractStringBuilder" "java/lang/AbstractStringBuilder" "inflate" "()V" ∈ bigL := bgm (tm_5 _ (List.mem_of_getElem? (i := 34) rfl)) rfl
theorem bw_3_190 : Cond.instanceMethod yJ5_inflate_da8c8 ∈ bigL := bgm (tm_3 _ (List.mem_of_getElem? (i := 190) rfl)) rfl
theorem bw_3_191 : Cond.code yJ5_inflate_da8c8 cJ5_inflate_da8c8 2 none ∈ bigL := bgm (tm_3 _ (List.mem_of_getElem? (i := 191) rfl)) rfl
theorem bw_3_192 : Cond.methodLink RJ5 125 yJ1_inflate_0e8fd ∈ bigL := bgm (tm_3 _ (List.mem_of_getElem? (i := 192) rfl)) rfl
theorem bw_3_193 : Cond.static yJ1_inflate_0e8fd ∈ bigL := bgm (tm_3 _ (List.mem_of_getElem? (i := 193) rfl)) rfl
theorem bw_3_194 : Cond.code yJ1_inflate_0e8fd cJ1_inflate_0e8fd 5 none ∈ bigL := bgm (tm_3 _ (List.mem_of_getElem? (i := 194) rfl)) rfl
theorem bw_3_195 : Cond.methodLink RJ1 240 yJ2_inflate_0e8fd ∈ bigL := bgm (tm_3 _ (List.mem_of_getElem? (i := 195) rfl)) rfl
theorem bw_3_196 : Cond.static yJ2_inflate_0e8fd ∈ bigL := bgm (tm_3 _ (List.mem_of_getElem? (i := 196) rfl)) rfl
theorem bw_3_197 : Cond.code yJ2_inflate_0e8fd cJ2_inflate_0e8fd 6 none ∈ bigL := bgm (tm_3 _ (List.mem_of_getElem? (i := 197) rfl)) rfl
theorem bw_3_198 : Cond.methodLink RJ2 173 yJ2_checkBoundsOffCount_d044e ∈ bigL := bgm (tm_3 _ (List.mem_of_getElem? (i := 198) rfl)) rfl
theorem bw_3_199 : Cond.static yJ2_checkBoundsOffCount_d044e ∈ bigL := bgm (tm_3 _ (List.mem_of_getElem? (i := 199) rfl)) rfl
theorem bw_3_200 : Cond.code yJ2_checkBoundsOffCount_d044e cJ2_checkBoundsOffCount_d044e 3 none ∈ bigL := bgm (tm_3 _ (List.mem_of_getElem? (i := 200) rfl)) rfl
theorem bw_3_201 : Cond.methodLink RJ2 48 yJ2_length_9d52b ∈ bigL := bgm (tm_3 _ (List.mem_of_getElem? (i := 201) rfl)) rfl
theorem bw_3_202 : Cond.static yJ2_length_9d52b ∈ bigL := bgm (tm_3 _ (List.mem_of_getElem? (i := 202) rfl)) rfl
theorem bw_3_203 : Cond.code yJ2_length_9d52b cJ2_length_9d52b 1 (some .int) ∈ bigL := bgm (tm_3 _ (List.mem_of_getElem? (i := 203) rfl)) rfl
theorem bw_3_204 : Cond.methodLink RJ2 419 yJ0_checkBoundsOffCount_cabcc ∈ bigL := bgm (tm_3 _ (List.mem_of_getElem? (i := 204) rfl)) rfl
theorem bw_3_205 : Cond.static yJ0_checkBoundsOffCount_cabcc ∈ bigL := bgm (tm_3 _ (List.mem_of_getElem? (i := 205) rfl)) rfl
theorem bw_1_11 : Cond.initialized RJ0 ∈ bigL := bgm (tm_1 _ (List.mem_of_getElem? (i := 11) rfl)) rfl
theorem bw_3_206 : Cond.code yJ0_checkBoundsOffCount_cabcc cJ0_checkBoundsOffCount_cabcc 3 (some .int) ∈ bigL := bgm (tm_3 _ (List.mem_of_getElem? (i := 206) rfl)) rfl
theorem bw_3_207 : Cond.fieldLink RJ0 1053 "jdk/internal/util/Preconditions" "SIOOBE_FORMATTER" "Ljava/util/function/BiFunction;" ∈ bigL := bgm (tm_3 _ (List.mem_of_getElem? (i := 207) rfl)) rfl
theorem bw_3_209 : Cond.methodLink RJ0 1065 yJ3_checkFromIndexSize_8c36e ∈ bigL := bgm (tm_3 _ (List.mem_of_getElem? (i := 209) rfl)) rfl
theorem bw_3_210 : Cond.static yJ3_checkFromIndexSize_8c36e ∈ bigL := bgm (tm_3 _ (List.mem_of_getElem? (i := 210) rfl)) rfl
theorem bw_1_18 : Cond.initialized RJ3 ∈ bigL := bgm (tm_1 _ (List.mem_of_getElem? (i := 18) rfl)) rfl
theorem bw_3_211 : Cond.code yJ3_checkFromIndexSize_8c36e cJ3_checkFromIndexSize_8c36e 4 (some .int) ∈ bigL := bgm (tm_3 _ (List.mem_of_getElem? (i := 211) rfl)) rfl
theorem bw_3_212 : Cond.methodLink RJ2 111 yJ2_putChar_b72d1 ∈ bigL := bgm (tm_3 _ (List.mem_of_getElem? (i := 212) rfl)) rfl
theorem bw_3_213 : Cond.static yJ2_putChar_b72d1 ∈ bigL := bgm (tm_3 _ (List.mem_of_getElem? (i := 213) rfl)) rfl
theorem bw_3_214 : Cond.code yJ2_putChar_b72d1 cJ2_putChar_b72d1 3 none ∈ bigL := bgm (tm_3 _ (List.mem_of_getElem? (i := 214) rfl)) rfl
theorem bw_3_215 : Cond.fieldLink RJ2 44 "java/lang/StringUTF16" "$assertionsDisabled" "Z" ∈ bigL := bgm (tm_3 _ (List.mem_of_getElem? (i := 215) rfl)) rfl
theorem bw_3_217 : Cond.fieldLink RJ2 59 "java/lang/StringUTF16" "HI_BYTE_SHIFT" "I" ∈ bigL := bgm (tm_3 _ (List.mem_of_getElem? (i := 217) rfl)) rfl
theorem bw_3_219 : Cond.fieldLink RJ2 63 "java/lang/StringUTF16" "LO_BYTE_SHIFT" "I" ∈ bigL := bgm (tm_3 _ (List.mem_of_getElem? (i := 219) rfl)) rfl
theorem bw_3_221 : Cond.methodLink RJ5 197 yJ2_putCharSB_b72d1 ∈ bigL := bgm (tm_3 _ (List.mem_of_getElem? (i := 221) rfl)) rfl
theorem bw_3_222 : Cond.static yJ2_putCharSB_b72d1 ∈ bigL := bgm (tm_3 _ (List.mem_of_getElem? (i := 222) rfl)) rfl
theorem bw_3_223 : Cond.code yJ2_putCharSB_b72d1 cJ2_putCharSB_b72d1 3 none ∈ bigL := bgm (tm_3 _ (List.mem_of_getElem? (i := 223) rfl)) rfl
theorem bw_3_224 : Cond.methodLink RJ2 67 yJ2_checkIndex_2214a ∈ bigL := bgm (tm_3 _ (List.mem_of_getElem? (i := 224) rfl)) rfl
theorem bw_3_225 : Cond.static yJ2_checkIndex_2214a ∈ bigL := bgm (tm_3 _ (List.mem_of_getElem? (i := 225) rfl)) rfl
theorem bw_3_226 : Cond.code yJ2_checkIndex_2214a cJ2_checkIndex_2214a 2 none ∈ bigL := bgm (tm_3 _ (List.mem_of_getElem? (i := 226) rfl)) rfl
theorem bw_3_227 : Cond.methodLink RJ2 414 yJ0_checkIndex_df160 ∈ bigL := bgm (tm_3 _ (List.mem_of_getElem? (i := 227) rfl)) rfl
theorem bw_3_228 : Cond.static yJ0_checkIndex_df160 ∈ bigL := bgm (tm_3 _ (List.mem_of_getElem? (i := 228) rfl)) rfl
theorem bw_3_229 : Cond.code yJ0_checkIndex_df160 cJ0_checkIndex_df160 2 none ∈ bigL := bgm (tm_3 _ (List.mem_of_getElem? (i := 229) rfl)) rfl
theorem bw_3_230 : Cond.methodLink RJ0 1059 yJ3_checkIndex_8e157 ∈ bigL := bgm (tm_3 _ (List.mem_of_getElem? (i := 230) rfl)) rfl
theorem bw_3_231 : Cond.static yJ3_checkIndex_8e157 ∈ bigL := bgm (tm_3 _ (List.mem_of_getElem? (i := 231) rfl)) rfl
theorem bw_3_232 : Cond.code yJ3_checkIndex_8e157 cJ3_checkIndex_8e157 3 (some .int) ∈ bigL := bgm (tm_3 _ (List.mem_of_getElem? (i := 232) rfl)) rfl
theorem bw_3_233 : Cond.methodLink RX7 364 yJ4_append_bf812 ∈ bigL := bgm (tm_3 _ (List.mem_of_getElem? (i := 233) rfl)) rfl
theorem bw_3_234 : Cond.instanceMethod yJ4_append_bf812 ∈ bigL := bgm (tm_3 _ (List.mem_of_getElem? (i := 234) rfl)) rfl
theorem bw_3_235 : Cond.selects RJ4 yJ4_append_bf812 yJ4_append_bf812 ∈ bigL := bgm (tm_3 _ (List.mem_of_getElem? (i := 235) rfl)) rfl
theorem bw_3_236 : Cond.code yJ4_append_bf812 cJ4_append_bf812 2 (some (.object "java/lang/StringBuilder")) ∈ bigL := bgm (tm_3 _ (List.mem_of_getElem? (i := 236) rfl)) rfl
theorem bw_3_237 : Cond.methodLink RJ4 53 yJ5_append_c97b9 ∈ bigL := bgm (tm_3 _ (List.mem_of_getElem? (i := 237) rfl)) rfl
theorem bw_5_35 : Cond.sameMethod "java/lang/AbstractStringBuilder" "java/lang/AbstractStringBuilder" "append" "(I)Ljava/lang/AbstractStringBuilder;" ∈ bigL := bgm (tm_5 _ (List.mem_of_getElem? (i := 35) rfl)) rfl
theorem bw_3_238 : Cond.instanceMethod yJ5_append_c97b9 ∈ bigL := bgm (tm_3 _ (List.mem_of_getElem? (i := 238) rfl)) rfl
theorem bw_3_239 : Cond.code yJ5_append_c97b9 cJ5_append_c97b9 4 (some (.object "java/lang/AbstractStringBuilder")) ∈ bigL := bgm (tm_3 _ (List.mem_of_getElem? (i := 239) rfl)) rfl
theorem bw_4_0 : Cond.methodLink RJ5 245 yJ6_stringSize_0f7a4 ∈ bigL := bgm (tm_4 _ (List.mem_of_getElem? (i := 0) rfl)) rfl
theorem bw_4_1 : Cond.static yJ6_stringSize_0f7a4 ∈ bigL := bgm (tm_4 _ (List.mem_of_getElem? (i := 1) rfl)) rfl
theorem bw_1_19 : Cond.initialized RJ6 ∈ bigL := bgm (tm_1 _ (List.mem_of_getElem? (i := 19) rfl)) rfl
theorem bw_4_2 : Cond.code yJ6_stringSize_0f7a4 cJ6_stringSize_0f7a4 4 (some .int) ∈ bigL := bgm (tm_4 _ (List.mem_of_getElem? (i := 2) rfl)) rfl
theorem bw_4_3 : Cond.methodLink RJ5 248 yJ6_getChars_ba4f3 ∈ bigL := bgm (tm_4 _ (List.mem_of_getElem? (i := 3) rfl)) rfl
theorem bw_4_4 : Cond.static yJ6_getChars_ba4f3 ∈ bigL := bgm (tm_4 _ (List.mem_of_getElem? (i := 4) rfl)) rfl
theorem bw_4_5 : Cond.code yJ6_getChars_ba4f3 cJ6_getChars_ba4f3 7 (some .int) ∈ bigL := bgm (tm_4 _ (List.mem_of_getElem? (i := 5) rfl)) rfl
theorem bw_4_6 : Cond.fieldLink RJ6 83 "java/lang/Integer" "DigitOnes" "[B" ∈ bigL := bgm (tm_4 _ (List.mem_of_getElem? (i := 6) rfl)) rfl
theorem bw_4_8 : Cond.fieldLink RJ6 87 "java/lang/Integer" "DigitTens" "[B" ∈ bigL := bgm (tm_4 _ (List.mem_of_getElem? (i := 8) rfl)) rfl
theorem bw_4_10 : Cond.methodLink RJ5 251 yJ2_getChars_46870 ∈ bigL := bgm (tm_4 _ (List.mem_of_getElem? (i := 10) rfl)) rfl
theorem bw_4_11 : Cond.static yJ2_getChars_46870 ∈ bigL := bgm (tm_4 _ (List.mem_of_getElem? (i := 11) rfl)) rfl
theorem bw_4_12 : Cond.code yJ2_getChars_46870 cJ2_getChars_46870 5 (some .int) ∈ bigL := bgm (tm_4 _ (List.mem_of_getElem? (i := 12) rfl)) rfl
theorem bw_4_13 : Cond.methodLink RJ2 96 yJ2_checkBoundsBeginEnd_d044e ∈ bigL := bgm (tm_4 _ (List.mem_of_getElem? (i := 13) rfl)) rfl
theorem bw_4_14 : Cond.static yJ2_checkBoundsBeginEnd_d044e ∈ bigL := bgm (tm_4 _ (List.mem_of_getElem? (i := 14) rfl)) rfl
theorem bw_4_15 : Cond.code yJ2_checkBoundsBeginEnd_d044e cJ2_checkBoundsBeginEnd_d044e 3 none ∈ bigL := bgm (tm_4 _ (List.mem_of_getElem? (i := 15) rfl)) rfl
theorem bw_4_16 : Cond.methodLink RJ2 241 yJ0_checkBoundsBeginEnd_23922 ∈ bigL := bgm (tm_4 _ (List.mem_of_getElem? (i := 16) rfl)) rfl
theorem bw_4_17 : Cond.static yJ0_checkBoundsBeginEnd_23922 ∈ bigL := bgm (tm_4 _ (List.mem_of_getElem? (i := 17) rfl)) rfl
theorem bw_4_18 : Cond.code yJ0_checkBoundsBeginEnd_23922 cJ0_checkBoundsBeginEnd_23922 3 none ∈ bigL := bgm (tm_4 _ (List.mem_of_getElem? (i := 18) rfl)) rfl
theorem bw_4_19 : Cond.methodLink RJ0 1062 yJ3_checkFromToIndex_8c36e ∈ bigL := bgm (tm_4 _ (List.mem_of_getElem? (i := 19) rfl)) rfl
theorem bw_4_20 : Cond.static yJ3_checkFromToIndex_8c36e ∈ bigL := bgm (tm_4 _ (List.mem_of_getElem? (i := 20) rfl)) rfl
theorem bw_4_21 : Cond.code yJ3_checkFromToIndex_8c36e cJ3_checkFromToIndex_8c36e 4 (some .int) ∈ bigL := bgm (tm_4 _ (List.mem_of_getElem? (i := 21) rfl)) rfl
theorem bw_4_22 : Cond.methodLink RJ2 393 yJ2_getChars_ba4f3 ∈ bigL := bgm (tm_4 _ (List.mem_of_getElem? (i := 22) rfl)) rfl
theorem bw_4_23 : Cond.static yJ2_getChars_ba4f3 ∈ bigL := bgm (tm_4 _ (List.mem_of_getElem? (i := 23) rfl)) rfl
theorem bw_4_24 : Cond.code yJ2_getChars_ba4f3 cJ2_getChars_ba4f3 7 (some .int) ∈ bigL := bgm (tm_4 _ (List.mem_of_getElem? (i := 24) rfl)) rfl
theorem bw_4_25 : Cond.fieldLink RJ2 403 "java/lang/Integer" "DigitOnes" "[B" ∈ bigL := bgm (tm_4 _ (List.mem_of_getElem? (i := 25) rfl)) rfl
theorem bw_4_26 : Cond.fieldLink RJ2 407 "java/lang/Integer" "DigitTens" "[B" ∈ bigL := bgm (tm_4 _ (List.mem_of_getElem? (i := 26) rfl)) rfl
theorem bw_4_27 : Cond.methodLink RX7 367 yX6_hasExportEndingBefore ∈ bigL := bgm (tm_4 _ (List.mem_of_getElem? (i := 27) rfl)) rfl
theorem bw_4_28 : Cond.instanceMethod yX6_hasExportEndingBefore ∈ bigL := bgm (tm_4 _ (List.mem_of_getElem? (i := 28) rfl)) rfl
theorem bw_4_29 : Cond.selects RX6 yX6_hasExportEndingBefore yX6_hasExportEndingBefore ∈ bigL := bgm (tm_4 _ (List.mem_of_getElem? (i := 29) rfl)) rfl
theorem bw_4_30 : Cond.code yX6_hasExportEndingBefore cX6_hasExportEndingBefore 4 (some .boolean) ∈ bigL := bgm (tm_4 _ (List.mem_of_getElem? (i := 30) rfl)) rfl
theorem bw_2_175 : Cond.methodLink RX6 102 yX0_endsBefore ∈ bigL := bgm (tm_2 _ (List.mem_of_getElem? (i := 175) rfl)) rfl
theorem bw_4_31 : Cond.methodLink RX7 259 yJ4_length_8abf5 ∈ bigL := bgm (tm_4 _ (List.mem_of_getElem? (i := 31) rfl)) rfl
theorem bw_4_32 : Cond.instanceMethod yJ4_length_8abf5 ∈ bigL := bgm (tm_4 _ (List.mem_of_getElem? (i := 32) rfl)) rfl
theorem bw_4_33 : Cond.selects RJ4 yJ4_length_8abf5 yJ4_length_8abf5 ∈ bigL := bgm (tm_4 _ (List.mem_of_getElem? (i := 33) rfl)) rfl
theorem bw_4_34 : Cond.code yJ4_length_8abf5 cJ4_length_8abf5 1 (some .int) ∈ bigL := bgm (tm_4 _ (List.mem_of_getElem? (i := 34) rfl)) rfl
theorem bw_4_35 : Cond.methodLink RJ4 343 yJ5_length_8abf5 ∈ bigL := bgm (tm_4 _ (List.mem_of_getElem? (i := 35) rfl)) rfl
theorem bw_5_36 : Cond.sameMethod "java/lang/AbstractStringBuilder" "java/lang/AbstractStringBuilder" "length" "()I" ∈ bigL := bgm (tm_5 _ (List.mem_of_getElem? (i := 36) rfl)) rfl
theorem bw_4_36 : Cond.instanceMethod yJ5_length_8abf5 ∈ bigL := bgm (tm_4 _ (List.mem_of_getElem? (i := 36) rfl)) rfl
theorem bw_4_37 : Cond.code yJ5_length_8abf5 cJ5_length_8abf5 1 (some .int) ∈ bigL := bgm (tm_4 _ (List.mem_of_getElem? (i := 37) rfl)) rfl
theorem bw_3_21 : Cond.methodLink RL 65 yL_digest ∈ bigL := bgm (tm_3 _ (List.mem_of_getElem? (i := 21) rfl)) rfl
theorem bw_3_22 : Cond.static yL_digest ∈ bigL := bgm (tm_3 _ (List.mem_of_getElem? (i := 22) rfl)) rfl
theorem bw_3_23 : Cond.code yL_digest cL_digest 5 (some .long) ∈ bigL := bgm (tm_3 _ (List.mem_of_getElem? (i := 23) rfl)) rfl
theorem bw_3_24 : Cond.constantLong RL 9 (23) ∈ bigL := bgm (tm_3 _ (List.mem_of_getElem? (i := 24) rfl)) rfl
theorem bw_3_25 : Cond.constantLong RL 11 (31) ∈ bigL := bgm (tm_3 _ (List.mem_of_getElem? (i := 25) rfl)) rfl
theorem bw_2_226 : Cond.methodLink RL 30 yX7_exported ∈ bigL := bgm (tm_2 _ (List.mem_of_getElem? (i := 226) rfl)) rfl
theorem bw_2_227 : Cond.instanceMethod yX7_exported ∈ bigL := bgm (tm_2 _ (List.mem_of_getElem? (i := 227) rfl)) rfl
theorem bw_2_228 : Cond.selects RX7 yX7_exported yX7_exported ∈ bigL := bgm (tm_2 _ (List.mem_of_getElem? (i := 228) rfl)) rfl
theorem bw_2_229 : Cond.code yX7_exported cX7_exported 4 (some .int) ∈ bigL := bgm (tm_2 _ (List.mem_of_getElem? (i := 229) rfl)) rfl
theorem bw_2_145 : Cond.methodLink RX7 236 yX6_findExport ∈ bigL := bgm (tm_2 _ (List.mem_of_getElem? (i := 145) rfl)) rfl
theorem bw_2_146 : Cond.instanceMethod yX6_findExport ∈ bigL := bgm (tm_2 _ (List.mem_of_getElem? (i := 146) rfl)) rfl
theorem bw_2_147 : Cond.selects RX6 yX6_findExport yX6_findExport ∈ bigL := bgm (tm_2 _ (List.mem_of_getElem? (i := 147) rfl)) rfl
theorem bw_2_148 : Cond.code yX6_findExport cX6_findExport 2 (some (.object "BondedStore$Export")) ∈ bigL := bgm (tm_2 _ (List.mem_of_getElem? (i := 148) rfl)) rfl
theorem bw_3_63 : Cond.methodLink RL 33 yX7_account ∈ bigL := bgm (tm_3 _ (List.mem_of_getElem? (i := 63) rfl)) rfl
theorem bw_3_64 : Cond.instanceMethod yX7_account ∈ bigL := bgm (tm_3 _ (List.mem_of_getElem? (i := 64) rfl)) rfl
theorem bw_3_65 : Cond.selects RX7 yX7_account yX7_account ∈ bigL := bgm (tm_3 _ (List.mem_of_getElem? (i := 65) rfl)) rfl
theorem bw_3_66 : Cond.code yX7_account cX7_account 2 (some .long) ∈ bigL := bgm (tm_3 _ (List.mem_of_getElem? (i := 66) rfl)) rfl
theorem bw_3_67 : Cond.methodLink RX7 291 yX6_sumOfLots ∈ bigL := bgm (tm_3 _ (List.mem_of_getElem? (i := 67) rfl)) rfl
theorem bw_3_68 : Cond.instanceMethod yX6_sumOfLots ∈ bigL := bgm (tm_3 _ (List.mem_of_getElem? (i := 68) rfl)) rfl
theorem bw_3_69 : Cond.selects RX6 yX6_sumOfLots yX6_sumOfLots ∈ bigL := bgm (tm_3 _ (List.mem_of_getElem? (i := 69) rfl)) rfl
theorem bw_3_70 : Cond.code yX6_sumOfLots cX6_sumOfLots 4 (some .int) ∈ bigL := bgm (tm_3 _ (List.mem_of_getElem? (i := 70) rfl)) rfl
theorem bw_3_71 : Cond.methodLink RX6 85 yX2_partOfDuty ∈ bigL := bgm (tm_3 _ (List.mem_of_getElem? (i := 71) rfl)) rfl
theorem bw_3_72 : Cond.instanceMethod yX2_partOfDuty ∈ bigL := bgm (tm_3 _ (List.mem_of_getElem? (i := 72) rfl)) rfl
theorem bw_3_73 : Cond.selects RX2 yX2_partOfDuty yX2_partOfDuty ∈ bigL := bgm (tm_3 _ (List.mem_of_getElem? (i := 73) rfl)) rfl
theorem bw_3_74 : Cond.code yX2_partOfDuty cX2_partOfDuty 2 (some .int) ∈ bigL := bgm (tm_3 _ (List.mem_of_getElem? (i := 74) rfl)) rfl
theorem bw_3_75 : Cond.methodLink RX2 43 yX2_suspended ∈ bigL := bgm (tm_3 _ (List.mem_of_getElem? (i := 75) rfl)) rfl
theorem bw_3_76 : Cond.methodLink RX7 294 yX6_calledOfAll ∈ bigL := bgm (tm_3 _ (List.mem_of_getElem? (i := 76) rfl)) rfl
theorem bw_3_77 : Cond.instanceMethod yX6_calledOfAll ∈ bigL := bgm (tm_3 _ (List.mem_of_getElem? (i := 77) rfl)) rfl
theorem bw_3_78 : Cond.selects RX6 yX6_calledOfAll yX6_calledOfAll ∈ bigL := bgm (tm_3 _ (List.mem_of_getElem? (i := 78) rfl)) rfl
theorem bw_3_79 : Cond.code yX6_calledOfAll cX6_calledOfAll 3 (some .int) ∈ bigL := bgm (tm_3 _ (List.mem_of_getElem? (i := 79) rfl)) rfl
theorem bw_1_80 : Cond.fieldLink RX6 89 "BondedStore$Owner" "called" "I" ∈ bigL := bgm (tm_1 _ (List.mem_of_getElem? (i := 80) rfl)) rfl
theorem bw_4_147 : Cond.methodLink RL 163 yL_orders ∈ bigL := bgm (tm_4 _ (List.mem_of_getElem? (i := 147) rfl)) rfl
theorem bw_4_148 : Cond.static yL_orders ∈ bigL := bgm (tm_4 _ (List.mem_of_getElem? (i := 148) rfl)) rfl
theorem bw_4_149 : Cond.code yL_orders cL_orders 16 (some .boolean) ∈ bigL := bgm (tm_4 _ (List.mem_of_getElem? (i := 149) rfl)) rfl
theorem bw_4_150 : Cond.methodLink RL 118 yX7_clearText ∈ bigL := bgm (tm_4 _ (List.mem_of_getElem? (i := 150) rfl)) rfl
theorem bw_4_151 : Cond.instanceMethod yX7_clearText ∈ bigL := bgm (tm_4 _ (List.mem_of_getElem? (i := 151) rfl)) rfl
theorem bw_4_152 : Cond.selects RX7 yX7_clearText yX7_clearText ∈ bigL := bgm (tm_4 _ (List.mem_of_getElem? (i := 152) rfl)) rfl
theorem bw_4_153 : Cond.code yX7_clearText cX7_clearText 2 (some .int) ∈ bigL := bgm (tm_4 _ (List.mem_of_getElem? (i := 153) rfl)) rfl
theorem bw_2_12 : Cond.fieldLink RX7 154 "BondedStore$Orders" "length" "I" ∈ bigL := bgm (tm_2 _ (List.mem_of_getElem? (i := 12) rfl)) rfl
theorem bw_4_154 : Cond.methodLink RL 121 yX7_runOrders ∈ bigL := bgm (tm_4 _ (List.mem_of_getElem? (i := 154) rfl)) rfl
theorem bw_4_155 : Cond.instanceMethod yX7_runOrders ∈ bigL := bgm (tm_4 _ (List.mem_of_getElem? (i := 155) rfl)) rfl
theorem bw_4_156 : Cond.selects RX7 yX7_runOrders yX7_runOrders ∈ bigL := bgm (tm_4 _ (List.mem_of_getElem? (i := 156) rfl)) rfl
theorem bw_4_157 : Cond.code yX7_runOrders cX7_runOrders 2 (some .int) ∈ bigL := bgm (tm_4 _ (List.mem_of_getElem? (i := 157) rfl)) rfl
theorem bw_4_158 : Cond.methodLink RX7 157 yX3_findFault ∈ bigL := bgm (tm_4 _ (List.mem_of_getElem? (i := 158) rfl)) rfl
theorem bw_4_159 : Cond.instanceMethod yX3_findFault ∈ bigL := bgm (tm_4 _ (List.mem_of_getElem? (i := 159) rfl)) rfl
theorem bw_4_160 : Cond.selects RX3 yX3_findFault yX3_findFault ∈ bigL := bgm (tm_4 _ (List.mem_of_getElem? (i := 160) rfl)) rfl
theorem bw_4_161 : Cond.code yX3_findFault cX3_findFault 2 (some .int) ∈ bigL := bgm (tm_4 _ (List.mem_of_getElem? (i := 161) rfl)) rfl
theorem bw_2_11 : Cond.fieldLink RX3 19 "BondedStore$Orders" "length" "I" ∈ bigL := bgm (tm_2 _ (List.mem_of_getElem? (i := 11) rfl)) rfl
theorem bw_2_13 : Cond.fieldLink RX3 30 "BondedStore$Orders" "position" "I" ∈ bigL := bgm (tm_2 _ (List.mem_of_getElem? (i := 13) rfl)) rfl
theorem bw_4_162 : Cond.methodLink RX3 23 yX3_goToStart ∈ bigL := bgm (tm_4 _ (List.mem_of_getElem? (i := 162) rfl)) rfl
theorem bw_4_163 : Cond.instanceMethod yX3_goToStart ∈ bigL := bgm (tm_4 _ (List.mem_of_getElem? (i := 163) rfl)) rfl
theorem bw_4_164 : Cond.selects RX3 yX3_goToStart yX3_goToStart ∈ bigL := bgm (tm_4 _ (List.mem_of_getElem? (i := 164) rfl)) rfl
theorem bw_4_165 : Cond.code yX3_goToStart cX3_goToStart 1 none ∈ bigL := bgm (tm_4 _ (List.mem_of_getElem? (i := 165) rfl)) rfl
theorem bw_4_166 : Cond.methodLink RX3 26 yX3_readOrder ∈ bigL := bgm (tm_4 _ (List.mem_of_getElem? (i := 166) rfl)) rfl
theorem bw_4_167 : Cond.instanceMethod yX3_readOrder ∈ bigL := bgm (tm_4 _ (List.mem_of_getElem? (i := 167) rfl)) rfl
theorem bw_4_168 : Cond.selects RX3 yX3_readOrder yX3_readOrder ∈ bigL := bgm (tm_4 _ (List.mem_of_getElem? (i := 168) rfl)) rfl
theorem bw_4_169 : Cond.code yX3_readOrder cX3_readOrder 4 (some .boolean) ∈ bigL := bgm (tm_4 _ (List.mem_of_getElem? (i := 169) rfl)) rfl
theorem bw_2_14 : Cond.fieldLink RX3 47 "BondedStore$Orders" "word" "I" ∈ bigL := bgm (tm_2 _ (List.mem_of_getElem? (i := 14) rfl)) rfl
theorem bw_4_170 : Cond.methodLink RX3 39 yX3_endOfToken ∈ bigL := bgm (tm_4 _ (List.mem_of_getElem? (i := 170) rfl)) rfl
theorem bw_4_172 : Cond.instanceMethod yX3_endOfToken ∈ bigL := bgm (tm_4 _ (List.mem_of_getElem? (i := 172) rfl)) rfl
theorem bs_14 : Cond.selects RX3 yX3_endOfToken yX3_endOfToken ∈ bigL := bgm (List.mem_append_left _ (List.mem_of_getElem? (i := 14) rfl)) rfl
theorem bw_4_173 : Cond.code yX3_endOfToken cX3_endOfToken 3 (some .int) ∈ bigL := bgm (tm_4 _ (List.mem_of_getElem? (i := 173) rfl)) rfl
theorem bw_4_174 : Cond.methodLink RX3 43 yX3_wordBetween ∈ bigL := bgm (tm_4 _ (List.mem_of_getElem? (i := 174) rfl)) rfl
theorem bw_4_176 : Cond.instanceMethod yX3_wordBetween ∈ bigL := bgm (tm_4 _ (List.mem_of_getElem? (i := 176) rfl)) rfl
theorem bs_15 : Cond.selects RX3 yX3_wordBetween yX3_wordBetween ∈ bigL := bgm (List.mem_append_left _ (List.mem_of_getElem? (i := 15) rfl)) rfl
theorem bw_4_177 : Cond.code yX3_wordBetween cX3_wordBetween 4 (some .int) ∈ bigL := bgm (tm_4 _ (List.mem_of_getElem? (i := 177) rfl)) rfl
theorem bw_4_178 : Cond.methodLink RX3 67 yX3_wordOf ∈ bigL := bgm (tm_4 _ (List.mem_of_getElem? (i := 178) rfl)) rfl
theorem bw_4_179 : Cond.static yX3_wordOf ∈ bigL := bgm (tm_4 _ (List.mem_of_getElem? (i := 179) rfl)) rfl
theorem bw_4_180 : Cond.code yX3_wordOf cX3_wordOf 1 (some (.object "java/lang/String")) ∈ bigL := bgm (tm_4 _ (List.mem_of_getElem? (i := 180) rfl)) rfl
theorem bw_4_189 : Cond.methodLink RX3 70 yX3_standsBetween ∈ bigL := bgm (tm_4 _ (List.mem_of_getElem? (i := 189) rfl)) rfl
theorem bw_4_191 : Cond.instanceMethod yX3_standsBetween ∈ bigL := bgm (tm_4 _ (List.mem_of_getElem? (i := 191) rfl)) rfl
theorem bs_16 : Cond.selects RX3 yX3_standsBetween yX3_standsBetween ∈ bigL := bgm (List.mem_append_left _ (List.mem_of_getElem? (i := 16) rfl)) rfl
theorem bw_4_192 : Cond.code yX3_standsBetween cX3_standsBetween 5 (some .boolean) ∈ bigL := bgm (tm_4 _ (List.mem_of_getElem? (i := 192) rfl)) rfl
theorem bw_4_193 : Cond.methodLink RX3 54 yJ0_length_8abf5 ∈ bigL := bgm (tm_4 _ (List.mem_of_getElem? (i := 193) rfl)) rfl
theorem bw_4_194 : Cond.instanceMethod yJ0_length_8abf5 ∈ bigL := bgm (tm_4 _ (List.mem_of_getElem? (i := 194) rfl)) rfl
theorem bw_4_195 : Cond.selects RJ0 yJ0_length_8abf5 yJ0_length_8abf5 ∈ bigL := bgm (tm_4 _ (List.mem_of_getElem? (i := 195) rfl)) rfl
theorem bw_4_196 : Cond.code yJ0_length_8abf5 cJ0_length_8abf5 1 (some .int) ∈ bigL := bgm (tm_4 _ (List.mem_of_getElem? (i := 196) rfl)) rfl
theorem bw_5_38 : Cond.fieldLink RJ0 9 "java/lang/String" "value" "[B" ∈ bigL := bgm (tm_5 _ (List.mem_of_getElem? (i := 38) rfl)) rfl
theorem bw_4_197 : Cond.methodLink RJ0 335 yJ0_coder_7d493 ∈ bigL := bgm (tm_4 _ (List.mem_of_getElem? (i := 197) rfl)) rfl
theorem bw_4_198 : Cond.instanceMethod yJ0_coder_7d493 ∈ bigL := bgm (tm_4 _ (List.mem_of_getElem? (i := 198) rfl)) rfl
theorem bw_4_199 : Cond.selects RJ0 yJ0_coder_7d493 yJ0_coder_7d493 ∈ bigL := bgm (tm_4 _ (List.mem_of_getElem? (i := 199) rfl)) rfl
theorem bw_4_200 : Cond.code yJ0_coder_7d493 cJ0_coder_7d493 1 (some .byte) ∈ bigL := bgm (tm_4 _ (List.mem_of_getElem? (i := 200) rfl)) rfl
theorem bw_4_201 : Cond.fieldLink RJ0 38 "java/lang/String" "COMPACT_STRINGS" "Z" ∈ bigL := bgm (tm_4 _ (List.mem_of_getElem? (i := 201) rfl)) rfl
theorem bw_5_39 : Cond.fieldLink RJ0 15 "java/lang/String" "coder" "B" ∈ bigL := bgm (tm_5 _ (List.mem_of_getElem? (i := 39) rfl)) rfl
theorem bw_4_202 : Cond.methodLink RX3 59 yJ0_charAt_5068e ∈ bigL := bgm (tm_4 _ (List.mem_of_getElem? (i := 202) rfl)) rfl
theorem bw_4_203 : Cond.instanceMethod yJ0_charAt_5068e ∈ bigL := bgm (tm_4 _ (List.mem_of_getElem? (i := 203) rfl)) rfl
theorem bw_4_204 : Cond.selects RJ0 yJ0_charAt_5068e yJ0_charAt_5068e ∈ bigL := bgm (tm_4 _ (List.mem_of_getElem? (i := 204) rfl)) rfl
theorem bw_4_205 : Cond.code yJ0_charAt_5068e cJ0_charAt_5068e 2 (some .char) ∈ bigL := bgm (tm_4 _ (List.mem_of_getElem? (i := 205) rfl)) rfl
theorem bw_4_206 : Cond.methodLink RJ0 492 yJ0_isLatin1_aae02 ∈ bigL := bgm (tm_4 _ (List.mem_of_getElem? (i := 206) rfl)) rfl
theorem bw_4_207 : Cond.instanceMethod yJ0_isLatin1_aae02 ∈ bigL := bgm (tm_4 _ (List.mem_of_getElem? (i := 207) rfl)) rfl
theorem bw_4_208 : Cond.selects RJ0 yJ0_isLatin1_aae02 yJ0_isLatin1_aae02 ∈ bigL := bgm (tm_4 _ (List.mem_of_getElem? (i := 208) rfl)) rfl
theorem bw_4_209 : Cond.code yJ0_isLatin1_aae02 cJ0_isLatin1_aae02 1 (some .boolean) ∈ bigL := bgm (tm_4 _ (List.mem_of_getElem? (i := 209) rfl)) rfl
theorem bw_4_210 : Cond.methodLink RJ0 495 yJ1_charAt_3b067 ∈ bigL := bgm (tm_4 _ (List.mem_of_getElem? (i := 210) rfl)) rfl
theorem bw_4_211 : Cond.static yJ1_charAt_3b067 ∈ bigL := bgm (tm_4 _ (List.mem_of_getElem? (i := 211) rfl)) rfl
theorem bw_4_212 : Cond.code yJ1_charAt_3b067 cJ1_charAt_3b067 2 (some .char) ∈ bigL := bgm (tm_4 _ (List.mem_of_getElem? (i := 212) rfl)) rfl
theorem bw_4_213 : Cond.methodLink RJ1 9 yJ0_checkIndex_df160 ∈ bigL := bgm (tm_4 _ (List.mem_of_getElem? (i := 213) rfl)) rfl
theorem bw_4_214 : Cond.methodLink RJ0 498 yJ2_charAt_3b067 ∈ bigL := bgm (tm_4 _ (List.mem_of_getElem? (i := 214) rfl)) rfl
theorem bw_4_215 : Cond.static yJ2_charAt_3b067 ∈ bigL := bgm (tm_4 _ (List.mem_of_getElem? (i := 215) rfl)) rfl
theorem bw_4_216 : Cond.code yJ2_charAt_3b067 cJ2_charAt_3b067 2 (some .char) ∈ bigL := bgm (tm_4 _ (List.mem_of_getElem? (i := 216) rfl)) rfl
theorem bw_4_217 : Cond.methodLink RJ2 71 yJ2_getChar_3b067 ∈ bigL := bgm (tm_4 _ (List.mem_of_getElem? (i := 217) rfl)) rfl
theorem bw_4_52 : Cond.static yJ2_getChar_3b067 ∈ bigL := bgm (tm_4 _ (List.mem_of_getElem? (i := 52) rfl)) rfl
theorem bw_4_53 : Cond.code yJ2_getChar_3b067 cJ2_getChar_3b067 2 (some .char) ∈ bigL := bgm (tm_4 _ (List.mem_of_getElem? (i := 53) rfl)) rfl
theorem bw_4_218 : Cond.methodLink RX3 50 yX3_placesOf ∈ bigL := bgm (tm_4 _ (List.mem_of_getElem? (i := 218) rfl)) rfl
theorem bw_4_219 : Cond.static yX3_placesOf ∈ bigL := bgm (tm_4 _ (List.mem_of_getElem? (i := 219) rfl)) rfl
theorem bw_4_220 : Cond.code yX3_placesOf cX3_placesOf 1 (some (.object "java/lang/String")) ∈ bigL := bgm (tm_4 _ (List.mem_of_getElem? (i := 220) rfl)) rfl
theorem bw_4_226 : Cond.methodLink RX3 33 yX3_atEnd ∈ bigL := bgm (tm_4 _ (List.mem_of_getElem? (i := 226) rfl)) rfl
theorem bw_4_227 : Cond.instanceMethod yX3_atEnd ∈ bigL := bgm (tm_4 _ (List.mem_of_getElem? (i := 227) rfl)) rfl
theorem bw_4_228 : Cond.selects RX3 yX3_atEnd yX3_atEnd ∈ bigL := bgm (tm_4 _ (List.mem_of_getElem? (i := 228) rfl)) rfl
theorem bw_4_229 : Cond.code yX3_atEnd cX3_atEnd 1 (some .boolean) ∈ bigL := bgm (tm_4 _ (List.mem_of_getElem? (i := 229) rfl)) rfl
theorem bw_4_230 : Cond.methodLink RX3 63 yX3_numberBetween ∈ bigL := bgm (tm_4 _ (List.mem_of_getElem? (i := 230) rfl)) rfl
theorem bw_4_232 : Cond.instanceMethod yX3_numberBetween ∈ bigL := bgm (tm_4 _ (List.mem_of_getElem? (i := 232) rfl)) rfl
theorem bs_17 : Cond.selects RX3 yX3_numberBetween yX3_numberBetween ∈ bigL := bgm (List.mem_append_left _ (List.mem_of_getElem? (i := 17) rfl)) rfl
theorem bw_4_233 : Cond.code yX3_numberBetween cX3_numberBetween 6 (some .int) ∈ bigL := bgm (tm_4 _ (List.mem_of_getElem? (i := 233) rfl)) rfl
theorem bw_4_234 : Cond.methodLink RX3 74 yX3_leastAt ∈ bigL := bgm (tm_4 _ (List.mem_of_getElem? (i := 234) rfl)) rfl
theorem bw_4_235 : Cond.static yX3_leastAt ∈ bigL := bgm (tm_4 _ (List.mem_of_getElem? (i := 235) rfl)) rfl
theorem bw_4_236 : Cond.code yX3_leastAt cX3_leastAt 1 (some .int) ∈ bigL := bgm (tm_4 _ (List.mem_of_getElem? (i := 236) rfl)) rfl
theorem bw_4_237 : Cond.methodLink RX3 78 yX3_mostAt ∈ bigL := bgm (tm_4 _ (List.mem_of_getElem? (i := 237) rfl)) rfl
theorem bw_4_238 : Cond.static yX3_mostAt ∈ bigL := bgm (tm_4 _ (List.mem_of_getElem? (i := 238) rfl)) rfl
theorem bw_4_239 : Cond.code yX3_mostAt cX3_mostAt 1 (some .int) ∈ bigL := bgm (tm_4 _ (List.mem_of_getElem? (i := 239) rfl)) rfl
theorem bw_5_0 : Cond.constant RX3 111 (1000000) ∈ bigL := bgm (tm_5 _ (List.mem_of_getElem? (i := 0) rfl)) rfl
theorem bw_5_1 : Cond.constant RX3 112 (10000000) ∈ bigL := bgm (tm_5 _ (List.mem_of_getElem? (i := 1) rfl)) rfl
theorem bw_5_3 : Cond.methodLink RX3 36 yX3_skipSeparator ∈ bigL := bgm (tm_5 _ (List.mem_of_getElem? (i := 3) rfl)) rfl
theorem bw_5_4 : Cond.instanceMethod yX3_skipSeparator ∈ bigL := bgm (tm_5 _ (List.mem_of_getElem? (i := 4) rfl)) rfl
theorem bw_5_5 : Cond.selects RX3 yX3_skipSeparator yX3_skipSeparator ∈ bigL := bgm (tm_5 _ (List.mem_of_getElem? (i := 5) rfl)) rfl
theorem bw_5_6 : Cond.code yX3_skipSeparator cX3_skipSeparator 1 none ∈ bigL := bgm (tm_5 _ (List.mem_of_getElem? (i := 6) rfl)) rfl
theorem bw_5_7 : Cond.methodLink RX7 161 yX7_carryOutOrders ∈ bigL := bgm (tm_5 _ (List.mem_of_getElem? (i := 7) rfl)) rfl
theorem bw_5_9 : Cond.instanceMethod yX7_carryOutOrders ∈ bigL := bgm (tm_5 _ (List.mem_of_getElem? (i := 9) rfl)) rfl
theorem bs_18 : Cond.selects RX7 yX7_carryOutOrders yX7_carryOutOrders ∈ bigL := bgm (List.mem_append_left _ (List.mem_of_getElem? (i := 18) rfl)) rfl
theorem bw_5_10 : Cond.code yX7_carryOutOrders cX7_carryOutOrders 2 (some .int) ∈ bigL := bgm (tm_5 _ (List.mem_of_getElem? (i := 10) rfl)) rfl
theorem bw_5_11 : Cond.methodLink RX7 333 yX3_goToStart ∈ bigL := bgm (tm_5 _ (List.mem_of_getElem? (i := 11) rfl)) rfl
theorem bw_5_12 : Cond.methodLink RX7 336 yX3_atEnd ∈ bigL := bgm (tm_5 _ (List.mem_of_getElem? (i := 12) rfl)) rfl
theorem bw_5_13 : Cond.methodLink RX7 339 yX3_readOrder ∈ bigL := bgm (tm_5 _ (List.mem_of_getElem? (i := 13) rfl)) rfl
theorem bw_5_14 : Cond.methodLink RX7 342 yX7_carryOutOrder ∈ bigL := bgm (tm_5 _ (List.mem_of_getElem? (i := 14) rfl)) rfl
theorem bw_5_16 : Cond.instanceMethod yX7_carryOutOrder ∈ bigL := bgm (tm_5 _ (List.mem_of_getElem? (i := 16) rfl)) rfl
theorem bs_19 : Cond.selects RX7 yX7_carryOutOrder yX7_carryOutOrder ∈ bigL := bgm (List.mem_append_left _ (List.mem_of_getElem? (i := 19) rfl)) rfl
theorem bw_5_17 : Cond.code yX7_carryOutOrder cX7_carryOutOrder 2 (some .int) ∈ bigL := bgm (tm_5 _ (List.mem_of_getElem? (i := 17) rfl)) rfl
theorem bw_2_17 : Cond.fieldLink RX7 348 "BondedStore$Orders" "numbers" "[I" ∈ bigL := bgm (tm_2 _ (List.mem_of_getElem? (i := 17) rfl)) rfl
theorem bw_2_15 : Cond.fieldLink RX7 351 "BondedStore$Orders" "word" "I" ∈ bigL := bgm (tm_2 _ (List.mem_of_getElem? (i := 15) rfl)) rfl
theorem bw_2_141 : Cond.methodLink RX7 138 yX7_proveExport ∈ bigL := bgm (tm_2 _ (List.mem_of_getElem? (i := 141) rfl)) rfl
theorem bw_2_143 : Cond.instanceMethod yX7_proveExport ∈ bigL := bgm (tm_2 _ (List.mem_of_getElem? (i := 143) rfl)) rfl
theorem bs_1 : Cond.selects RX7 yX7_proveExport yX7_proveExport ∈ bigL := bgm (List.mem_append_left _ (List.mem_of_getElem? (i := 1) rfl)) rfl
theorem bw_2_144 : Cond.code yX7_proveExport cX7_proveExport 4 (some .int) ∈ bigL := bgm (tm_2 _ (List.mem_of_getElem? (i := 144) rfl)) rfl
theorem bw_2_153 : Cond.methodLink RX7 323 yX0_waits ∈ bigL := bgm (tm_2 _ (List.mem_of_getElem? (i := 153) rfl)) rfl
theorem bw_2_166 : Cond.methodLink RX7 147 yX7_passDays ∈ bigL := bgm (tm_2 _ (List.mem_of_getElem? (i := 166) rfl)) rfl
theorem bw_2_168 : Cond.instanceMethod yX7_passDays ∈ bigL := bgm (tm_2 _ (List.mem_of_getElem? (i := 168) rfl)) rfl
theorem bs_3 : Cond.selects RX7 yX7_passDays yX7_passDays ∈ bigL := bgm (List.mem_append_left _ (List.mem_of_getElem? (i := 3) rfl)) rfl
theorem bw_2_169 : Cond.code yX7_passDays cX7_passDays 2 (some .int) ∈ bigL := bgm (tm_2 _ (List.mem_of_getElem? (i := 169) rfl)) rfl
theorem bw_2_170 : Cond.methodLink RX7 327 yX6_loseExports ∈ bigL := bgm (tm_2 _ (List.mem_of_getElem? (i := 170) rfl)) rfl
theorem bw_2_171 : Cond.instanceMethod yX6_loseExports ∈ bigL := bgm (tm_2 _ (List.mem_of_getElem? (i := 171) rfl)) rfl
theorem bw_2_172 : Cond.selects RX6 yX6_loseExports yX6_loseExports ∈ bigL := bgm (tm_2 _ (List.mem_of_getElem? (i := 172) rfl)) rfl
theorem bw_2_173 : Cond.code yX6_loseExports cX6_loseExports 5 (some .int) ∈ bigL := bgm (tm_2 _ (List.mem_of_getElem? (i := 173) rfl)) rfl
theorem bw_1_167 : Cond.fieldLink RX6 118 "BondedStore$Export" "state" "I" ∈ bigL := bgm (tm_1 _ (List.mem_of_getElem? (i := 167) rfl)) rfl
theorem bw_1_162 : Cond.fieldLink RX6 106 "BondedStore$Export" "duty" "I" ∈ bigL := bgm (tm_1 _ (List.mem_of_getElem? (i := 162) rfl)) rfl
theorem bw_2_174 : Cond.methodLink RX6 114 yX6_findLot ∈ bigL := bgm (tm_2 _ (List.mem_of_getElem? (i := 174) rfl)) rfl
theorem bw_2_180 : Cond.methodLink RX6 121 yX6_callDuty ∈ bigL := bgm (tm_2 _ (List.mem_of_getElem? (i := 180) rfl)) rfl
theorem bw_2_182 : Cond.instanceMethod yX6_callDuty ∈ bigL := bgm (tm_2 _ (List.mem_of_getElem? (i := 182) rfl)) rfl
theorem bs_4 : Cond.selects RX6 yX6_callDuty yX6_callDuty ∈ bigL := bgm (List.mem_append_left _ (List.mem_of_getElem? (i := 4) rfl)) rfl
theorem bw_2_183 : Cond.code yX6_callDuty cX6_callDuty 4 none ∈ bigL := bgm (tm_2 _ (List.mem_of_getElem? (i := 183) rfl)) rfl
theorem bw_1_118 : Cond.fieldLink RX6 125 "BondedStore$Lot" "paid" "I" ∈ bigL := bgm (tm_1 _ (List.mem_of_getElem? (i := 118) rfl)) rfl
theorem bw_2_184 : Cond.methodLink RX6 128 yX6_findOwner ∈ bigL := bgm (tm_2 _ (List.mem_of_getElem? (i := 184) rfl)) rfl
theorem bw_2_188 : Cond.methodLink RX6 132 yX4_answerFor ∈ bigL := bgm (tm_2 _ (List.mem_of_getElem? (i := 188) rfl)) rfl
theorem bw_2_189 : Cond.instanceMethod yX4_answerFor ∈ bigL := bgm (tm_2 _ (List.mem_of_getElem? (i := 189) rfl)) rfl
theorem bw_2_190 : Cond.selects RX4 yX4_answerFor yX4_answerFor ∈ bigL := bgm (tm_2 _ (List.mem_of_getElem? (i := 190) rfl)) rfl
theorem bw_2_191 : Cond.code yX4_answerFor cX4_answerFor 3 none ∈ bigL := bgm (tm_2 _ (List.mem_of_getElem? (i := 191) rfl)) rfl
theorem bw_2_192 : Cond.methodLink RX7 330 yX6_seizeLots ∈ bigL := bgm (tm_2 _ (List.mem_of_getElem? (i := 192) rfl)) rfl
theorem bw_2_193 : Cond.instanceMethod yX6_seizeLots ∈ bigL := bgm (tm_2 _ (List.mem_of_getElem? (i := 193) rfl)) rfl
theorem bw_2_194 : Cond.selects RX6 yX6_seizeLots yX6_seizeLots ∈ bigL := bgm (tm_2 _ (List.mem_of_getElem? (i := 194) rfl)) rfl
theorem bw_2_195 : Cond.code yX6_seizeLots cX6_seizeLots 5 (some .int) ∈ bigL := bgm (tm_2 _ (List.mem_of_getElem? (i := 195) rfl)) rfl
theorem bw_2_196 : Cond.methodLink RX6 109 yX2_endsBefore ∈ bigL := bgm (tm_2 _ (List.mem_of_getElem? (i := 196) rfl)) rfl
theorem bw_2_200 : Cond.methodLink RX6 110 yX2_dutyOfNext ∈ bigL := bgm (tm_2 _ (List.mem_of_getElem? (i := 200) rfl)) rfl
theorem bw_5_18 : Cond.methodLink RX7 345 yX3_skipSeparator ∈ bigL := bgm (tm_5 _ (List.mem_of_getElem? (i := 18) rfl)) rfl
theorem bw_5_19 : Cond.methodLink RL 114 yX7_type ∈ bigL := bgm (tm_5 _ (List.mem_of_getElem? (i := 19) rfl)) rfl
theorem bw_5_20 : Cond.instanceMethod yX7_type ∈ bigL := bgm (tm_5 _ (List.mem_of_getElem? (i := 20) rfl)) rfl
theorem bw_5_21 : Cond.selects RX7 yX7_type yX7_type ∈ bigL := bgm (tm_5 _ (List.mem_of_getElem? (i := 21) rfl)) rfl
theorem bw_5_22 : Cond.code yX7_type cX7_type 2 (some .int) ∈ bigL := bgm (tm_5 _ (List.mem_of_getElem? (i := 22) rfl)) rfl
theorem bw_5_23 : Cond.methodLink RX7 150 yX3_append ∈ bigL := bgm (tm_5 _ (List.mem_of_getElem? (i := 23) rfl)) rfl
theorem bw_5_24 : Cond.instanceMethod yX3_append ∈ bigL := bgm (tm_5 _ (List.mem_of_getElem? (i := 24) rfl)) rfl
theorem bw_5_25 : Cond.selects RX3 yX3_append yX3_append ∈ bigL := bgm (tm_5 _ (List.mem_of_getElem? (i := 25) rfl)) rfl
theorem bw_5_26 : Cond.code yX3_append cX3_append 2 (some .boolean) ∈ bigL := bgm (tm_5 _ (List.mem_of_getElem? (i := 26) rfl)) rfl
theorem bw_5_27 : Cond.methodLink RL 124 yL_digits ∈ bigL := bgm (tm_5 _ (List.mem_of_getElem? (i := 27) rfl)) rfl
theorem bw_5_28 : Cond.static yL_digits ∈ bigL := bgm (tm_5 _ (List.mem_of_getElem? (i := 28) rfl)) rfl
theorem bw_5_29 : Cond.code yL_digits cL_digits 5 (some .int) ∈ bigL := bgm (tm_5 _ (List.mem_of_getElem? (i := 29) rfl)) rfl
theorem bw_2_137 : Cond.methodLink RL 128 yX7_prove ∈ bigL := bgm (tm_2 _ (List.mem_of_getElem? (i := 137) rfl)) rfl
theorem bw_2_138 : Cond.instanceMethod yX7_prove ∈ bigL := bgm (tm_2 _ (List.mem_of_getElem? (i := 138) rfl)) rfl
theorem bw_2_139 : Cond.selects RX7 yX7_prove yX7_prove ∈ bigL := bgm (tm_2 _ (List.mem_of_getElem? (i := 139) rfl)) rfl
theorem bw_2_140 : Cond.code yX7_prove cX7_prove 2 (some .int) ∈ bigL := bgm (tm_2 _ (List.mem_of_getElem? (i := 140) rfl)) rfl
theorem bw_2_162 : Cond.methodLink RL 69 yX7_pass ∈ bigL := bgm (tm_2 _ (List.mem_of_getElem? (i := 162) rfl)) rfl
theorem bw_2_163 : Cond.instanceMethod yX7_pass ∈ bigL := bgm (tm_2 _ (List.mem_of_getElem? (i := 163) rfl)) rfl
theorem bw_2_164 : Cond.selects RX7 yX7_pass yX7_pass ∈ bigL := bgm (tm_2 _ (List.mem_of_getElem? (i := 164) rfl)) rfl
theorem bw_2_165 : Cond.code yX7_pass cX7_pass 2 (some .int) ∈ bigL := bgm (tm_2 _ (List.mem_of_getElem? (i := 165) rfl)) rfl
theorem bw_2_236 : Cond.methodLink RL 62 yX7_calledIn ∈ bigL := bgm (tm_2 _ (List.mem_of_getElem? (i := 236) rfl)) rfl
theorem bw_2_237 : Cond.instanceMethod yX7_calledIn ∈ bigL := bgm (tm_2 _ (List.mem_of_getElem? (i := 237) rfl)) rfl
theorem bw_2_238 : Cond.selects RX7 yX7_calledIn yX7_calledIn ∈ bigL := bgm (tm_2 _ (List.mem_of_getElem? (i := 238) rfl)) rfl
theorem bw_2_239 : Cond.code yX7_calledIn cX7_calledIn 2 (some .int) ∈ bigL := bgm (tm_2 _ (List.mem_of_getElem? (i := 239) rfl)) rfl
theorem bw_3_0 : Cond.methodLink RX7 284 yX6_dutyEndingBefore ∈ bigL := bgm (tm_3 _ (List.mem_of_getElem? (i := 0) rfl)) rfl
theorem bw_3_1 : Cond.instanceMethod yX6_dutyEndingBefore ∈ bigL := bgm (tm_3 _ (List.mem_of_getElem? (i := 1) rfl)) rfl
theorem bw_3_2 : Cond.selects RX6 yX6_dutyEndingBefore yX6_dutyEndingBefore ∈ bigL := bgm (tm_3 _ (List.mem_of_getElem? (i := 2) rfl)) rfl
theorem bw_3_3 : Cond.code yX6_dutyEndingBefore cX6_dutyEndingBefore 4 (some .int) ∈ bigL := bgm (tm_3 _ (List.mem_of_getElem? (i := 3) rfl)) rfl
theorem bw_3_80 : Cond.methodLink RL 166 yL_lots ∈ bigL := bgm (tm_3 _ (List.mem_of_getElem? (i := 80) rfl)) rfl
theorem bw_3_81 : Cond.static yL_lots ∈ bigL := bgm (tm_3 _ (List.mem_of_getElem? (i := 81) rfl)) rfl
theorem bw_3_82 : Cond.code yL_lots cL_lots 17 (some .boolean) ∈ bigL := bgm (tm_3 _ (List.mem_of_getElem? (i := 82) rfl)) rfl
theorem bw_3_84 : Cond.constantLong RL 38 (-100000002) ∈ bigL := bgm (tm_3 _ (List.mem_of_getElem? (i := 84) rfl)) rfl
theorem bw_3_86 : Cond.methodLink RL 170 yL_owners ∈ bigL := bgm (tm_3 _ (List.mem_of_getElem? (i := 86) rfl)) rfl
theorem bw_3_87 : Cond.static yL_owners ∈ bigL := bgm (tm_3 _ (List.mem_of_getElem? (i := 87) rfl)) rfl
theorem bw_3_88 : Cond.code yL_owners cL_owners 15 (some .boolean) ∈ bigL := bgm (tm_3 _ (List.mem_of_getElem? (i := 88) rfl)) rfl
theorem bw_3_90 : Cond.constantLong RL 43 (-100000001) ∈ bigL := bgm (tm_3 _ (List.mem_of_getElem? (i := 90) rfl)) rfl
theorem bw_3_104 : Cond.constant RL 56 (10000000) ∈ bigL := bgm (tm_3 _ (List.mem_of_getElem? (i := 104) rfl)) rfl
theorem bw_3_91 : Cond.methodLink RL 50 yX7_greatestValue ∈ bigL := bgm (tm_3 _ (List.mem_of_getElem? (i := 91) rfl)) rfl
theorem bw_3_92 : Cond.instanceMethod yX7_greatestValue ∈ bigL := bgm (tm_3 _ (List.mem_of_getElem? (i := 92) rfl)) rfl
theorem bw_3_93 : Cond.selects RX7 yX7_greatestValue yX7_greatestValue ∈ bigL := bgm (tm_3 _ (List.mem_of_getElem? (i := 93) rfl)) rfl
theorem bw_3_94 : Cond.code yX7_greatestValue cX7_greatestValue 8 (some .int) ∈ bigL := bgm (tm_3 _ (List.mem_of_getElem? (i := 94) rfl)) rfl
theorem bw_3_95 : Cond.constant RX7 287 (8388608) ∈ bigL := bgm (tm_3 _ (List.mem_of_getElem? (i := 95) rfl)) rfl
theorem bw_3_105 : Cond.methodLink RL 174 yL_deadlines ∈ bigL := bgm (tm_3 _ (List.mem_of_getElem? (i := 105) rfl)) rfl
theorem bw_3_106 : Cond.static yL_deadlines ∈ bigL := bgm (tm_3 _ (List.mem_of_getElem? (i := 106) rfl)) rfl
theorem bw_3_107 : Cond.code yL_deadlines cL_deadlines 9 (some .boolean) ∈ bigL := bgm (tm_3 _ (List.mem_of_getElem? (i := 107) rfl)) rfl
theorem bw_3_108 : Cond.constant RL 61 (1000000) ∈ bigL := bgm (tm_3 _ (List.mem_of_getElem? (i := 108) rfl)) rfl
theorem bw_3_109 : Cond.methodLink RL 177 yL_document ∈ bigL := bgm (tm_3 _ (List.mem_of_getElem? (i := 109) rfl)) rfl
theorem bw_3_110 : Cond.static yL_document ∈ bigL := bgm (tm_3 _ (List.mem_of_getElem? (i := 110) rfl)) rfl
theorem bw_3_111 : Cond.code yL_document cL_document 9 (some .boolean) ∈ bigL := bgm (tm_3 _ (List.mem_of_getElem? (i := 111) rfl)) rfl
theorem bw_4_38 : Cond.methodLink RL 78 yX7_documentAt ∈ bigL := bgm (tm_4 _ (List.mem_of_getElem? (i := 38) rfl)) rfl
theorem bw_4_39 : Cond.instanceMethod yX7_documentAt ∈ bigL := bgm (tm_4 _ (List.mem_of_getElem? (i := 39) rfl)) rfl
theorem bw_4_40 : Cond.selects RX7 yX7_documentAt yX7_documentAt ∈ bigL := bgm (tm_4 _ (List.mem_of_getElem? (i := 40) rfl)) rfl
theorem bw_4_41 : Cond.code yX7_documentAt cX7_documentAt 4 (some .int) ∈ bigL := bgm (tm_4 _ (List.mem_of_getElem? (i := 41) rfl)) rfl
theorem bw_4_42 : Cond.methodLink RX7 261 yJ4_charAt_5068e ∈ bigL := bgm (tm_4 _ (List.mem_of_getElem? (i := 42) rfl)) rfl
theorem bw_4_43 : Cond.instanceMethod yJ4_charAt_5068e ∈ bigL := bgm (tm_4 _ (List.mem_of_getElem? (i := 43) rfl)) rfl
theorem bw_4_44 : Cond.selects RJ4 yJ4_charAt_5068e yJ4_charAt_5068e ∈ bigL := bgm (tm_4 _ (List.mem_of_getElem? (i := 44) rfl)) rfl
theorem bw_4_45 : Cond.code yJ4_charAt_5068e cJ4_charAt_5068e 2 (some .char) ∈ bigL := bgm (tm_4 _ (List.mem_of_getElem? (i := 45) rfl)) rfl
theorem bw_4_46 : Cond.methodLink RJ4 329 yJ5_charAt_5068e ∈ bigL := bgm (tm_4 _ (List.mem_of_getElem? (i := 46) rfl)) rfl
theorem bw_5_37 : Cond.sameMethod "java/lang/AbstractStringBuilder" "java/lang/AbstractStringBuilder" "charAt" "(I)C" ∈ bigL := bgm (tm_5 _ (List.mem_of_getElem? (i := 37) rfl)) rfl
theorem bw_4_47 : Cond.instanceMethod yJ5_charAt_5068e ∈ bigL := bgm (tm_4 _ (List.mem_of_getElem? (i := 47) rfl)) rfl
theorem bw_4_48 : Cond.code yJ5_charAt_5068e cJ5_charAt_5068e 5 (some .char) ∈ bigL := bgm (tm_4 _ (List.mem_of_getElem? (i := 48) rfl)) rfl
theorem bw_4_49 : Cond.methodLink RJ5 138 Lib.Math.min.name ∈ bigL := bgm (tm_4 _ (List.mem_of_getElem? (i := 49) rfl)) rfl
theorem bw_4_50 : Cond.methodLink RJ5 144 yJ0_checkIndex_df160 ∈ bigL := bgm (tm_4 _ (List.mem_of_getElem? (i := 50) rfl)) rfl
theorem bw_4_51 : Cond.methodLink RJ5 148 yJ2_getChar_3b067 ∈ bigL := bgm (tm_4 _ (List.mem_of_getElem? (i := 51) rfl)) rfl
theorem bw_1_27 : Cond.code objectInit ⟨#[0xb1]⟩ 1 none ∈ bigL := bgm (tm_1 _ (List.mem_of_getElem? (i := 27) rfl)) rfl
theorem bw_3_158 : Cond.code Lib.Math.min.name Lib.Math.min.code 2 (some .int) ∈ bigL := bgm (tm_3 _ (List.mem_of_getElem? (i := 158) rfl)) rfl
theorem bw_3_140 : Cond.code Lib.Math.max.name Lib.Math.max.code 2 (some .int) ∈ bigL := bgm (tm_3 _ (List.mem_of_getElem? (i := 140) rfl)) rfl
abbrev wsB (y : MethodName) (cc : ByteArray) (n : Nat) (r : Option FieldType) : List Cond := Cond.code y cc n r :: bigL
theorem gW1 {w : Cond} (h : w ∈ bigL) : w ∈ bigL ∧ ((w.onTables && w.keeps) = true ∨ ∃ ty, w = .arrayClass ty) := ⟨h, bigL_good _ h⟩
theorem gB {y : MethodName} {cc : ByteArray} {n : Nat} {r : Option FieldType} (h : Cond.code y cc n r ∈ bigL) : GoodIn bigL (wsB y cc n r) := fun w hw => by
  rcases List.mem_cons.mp hw with e | e
  · subst e
    exact gW1 h
  · exact gW1 e
theorem gV {own C : String} {idx : Nat} {y : MethodName} {cc : ByteArray} {n : Nat} {r : Option FieldType} (h1 : Cond.methodLink own idx y ∈ bigL) (h2 : Cond.instanceMethod y ∈ bigL) (h3 : Cond.selects C y y ∈ bigL) (h4 : Cond.initialized C ∈ bigL) (h5 : Cond.code y cc n r ∈ bigL) : GoodIn bigL (wsV own idx C y (wsB y cc n r)) := fun w hw => by
  unfold wsV at hw
  rcases List.mem_append.mp hw with e | e
  · simp only [List.mem_cons, List.not_mem_nil, or_false] at e
    rcases e with rfl | rfl | rfl | rfl
    · exact gW1 h1
    · exact gW1 h2
    · exact gW1 h3
    · exact gW1 h4
  · exact gB h5 w e
theorem gS {own : String} {idx : Nat} {y : MethodName} {cc : ByteArray} {n : Nat} {r : Option FieldType} (h1 : Cond.methodLink own idx y ∈ bigL) (h2 : Cond.static y ∈ bigL) (h4 : Cond.initialized y.cls ∈ bigL) (h5 : Cond.code y cc n r ∈ bigL) : GoodIn bigL (va_wsS own idx y (wsB y cc n r)) := fun w hw => by
  unfold va_wsS at hw
  rcases List.mem_append.mp hw with e | e
  · simp only [List.mem_cons, List.not_mem_nil, or_false] at e
    rcases e with rfl | rfl | rfl
    · exact gW1 h1
    · exact gW1 h2
    · exact gW1 h4
  · exact gB h5 w e
