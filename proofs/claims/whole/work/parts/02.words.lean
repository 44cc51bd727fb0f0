/-! the words of the tables that the methods need: where each stands -/
def bigL : List Cond := lw_tbl.filter goodWord
theorem bigL_good : ∀ w ∈ bigL, (w.onTables && w.keeps) = true ∨ ∃ ty, w = .arrayClass ty := fun w h => good_of_word (List.mem_filter.mp h).2
theorem bigL_in : ∀ w ∈ bigL, w ∈ lw_tbl := fun w h => (List.mem_filter.mp h).1
theorem bgm {w : Cond} (h : w ∈ lw_tbl) (g : goodWord w = true) : w ∈ bigL := List.mem_filter.mpr ⟨h, g⟩
theorem tm_1 : ∀ w ∈ tables_1_1, w ∈ lw_tbl := fun _ h => List.mem_append_right _ (List.mem_append_left _ h)
theorem tm_2 : ∀ w ∈ tables_1_2, w ∈ lw_tbl := fun _ h => List.mem_append_right _ (List.mem_append_right _ (List.mem_append_left _ h))
theorem tm_3 : ∀ w ∈ tables_1_3, w ∈ lw_tbl := fun _ h => List.mem_append_right _ (List.mem_append_right _ (List.mem_append_right _ (List.mem_append_left _ h)))
theorem tm_4 : ∀ w ∈ tables_1_4, w ∈ lw_tbl := fun _ h => List.mem_append_right _ (List.mem_append_right _ (List.mem_append_right _ (List.mem_append_right _ (List.mem_append_left _ h))))
theorem tm_5 : ∀ w ∈ tables_1_5, w ∈ lw_tbl := fun _ h => List.mem_append_right _ (List.mem_append_right _ (List.mem_append_right _ (List.mem_append_right _ (List.mem_append_right _ (List.mem_append_left _ h)))))
theorem tm_6 : ∀ w ∈ tables_1_6, w ∈ lw_tbl := fun _ h => List.mem_append_right _ (List.mem_append_right _ (List.mem_append_right _ (List.mem_append_right _ (List.mem_append_right _ (List.mem_append_right _ (h))))))
theorem bw_1_21 : Cond.classLink RL 7 RX7 ∈ bigL := bgm (tm_1 _ (List.mem_of_getElem? (i := 21) rfl)) rfl
theorem bw_1_22 : Cond.instantiable RX7 7 ∈ bigL := bgm (tm_1 _ (List.mem_of_getElem? (i := 22) rfl)) rfl
theorem bw_1_1 : Cond.initialized RX7 ∈ bigL := bgm (tm_1 _ (List.mem_of_getElem? (i := 1) rfl)) rfl
theorem bw_4_217 : Cond.classLink RL 10 RX8 ∈ bigL := bgm (tm_4 _ (List.mem_of_getElem? (i := 217) rfl)) rfl
theorem bw_4_218 : Cond.instantiable RX8 15 ∈ bigL := bgm (tm_4 _ (List.mem_of_getElem? (i := 218) rfl)) rfl
theorem bw_1_13 : Cond.initialized RX8 ∈ bigL := bgm (tm_1 _ (List.mem_of_getElem? (i := 13) rfl)) rfl
theorem bw_1_23 : Cond.methodLink RL 9 yX7_init ∈ bigL := bgm (tm_1 _ (List.mem_of_getElem? (i := 23) rfl)) rfl
theorem bw_1_24 : Cond.instanceMethod yX7_init ∈ bigL := bgm (tm_1 _ (List.mem_of_getElem? (i := 24) rfl)) rfl
theorem bw_1_25 : Cond.code yX7_init cX7_init 2 none ∈ bigL := bgm (tm_1 _ (List.mem_of_getElem? (i := 25) rfl)) rfl
theorem bw_1_26 : Cond.methodLink RX7 1 objectInit ∈ bigL := bgm (tm_1 _ (List.mem_of_getElem? (i := 26) rfl)) rfl
theorem bw_1_27 : Cond.instanceMethod objectInit ∈ bigL := bgm (tm_1 _ (List.mem_of_getElem? (i := 27) rfl)) rfl
theorem bw_1_29 : Cond.classLink RX7 7 RX6 ∈ bigL := bgm (tm_1 _ (List.mem_of_getElem? (i := 29) rfl)) rfl
theorem bw_1_30 : Cond.instantiable RX6 11 ∈ bigL := bgm (tm_1 _ (List.mem_of_getElem? (i := 30) rfl)) rfl
theorem bw_1_2 : Cond.initialized RX6 ∈ bigL := bgm (tm_1 _ (List.mem_of_getElem? (i := 2) rfl)) rfl
theorem bw_2_64 : Cond.fieldLink RX7 10 "BondedStore" "now" "LBondedStore$State;" ∈ bigL := bgm (tm_2 _ (List.mem_of_getElem? (i := 64) rfl)) rfl
theorem bw_1_225 : Cond.classLink RX7 16 RX1 ∈ bigL := bgm (tm_1 _ (List.mem_of_getElem? (i := 225) rfl)) rfl
theorem bw_1_226 : Cond.instantiable RX1 3 ∈ bigL := bgm (tm_1 _ (List.mem_of_getElem? (i := 226) rfl)) rfl
theorem bw_1_7 : Cond.initialized RX1 ∈ bigL := bgm (tm_1 _ (List.mem_of_getElem? (i := 7) rfl)) rfl
theorem bw_2_65 : Cond.fieldLink RX7 19 "BondedStore" "history" "LBondedStore$History;" ∈ bigL := bgm (tm_2 _ (List.mem_of_getElem? (i := 65) rfl)) rfl
theorem bw_2_66 : Cond.fieldLink RX7 23 "BondedStore" "slots" "[LBondedStore$State;" ∈ bigL := bgm (tm_2 _ (List.mem_of_getElem? (i := 66) rfl)) rfl
theorem bw_2_30 : Cond.arrayClass .boolean ∈ bigL := bgm (tm_2 _ (List.mem_of_getElem? (i := 30) rfl)) rfl
theorem bw_2_67 : Cond.fieldLink RX7 27 "BondedStore" "filled" "[Z" ∈ bigL := bgm (tm_2 _ (List.mem_of_getElem? (i := 67) rfl)) rfl
theorem bw_2_5 : Cond.classLink RX7 31 RX3 ∈ bigL := bgm (tm_2 _ (List.mem_of_getElem? (i := 5) rfl)) rfl
theorem bw_2_6 : Cond.instantiable RX3 5 ∈ bigL := bgm (tm_2 _ (List.mem_of_getElem? (i := 6) rfl)) rfl
theorem bw_1_8 : Cond.initialized RX3 ∈ bigL := bgm (tm_1 _ (List.mem_of_getElem? (i := 8) rfl)) rfl
theorem bw_2_68 : Cond.fieldLink RX7 34 "BondedStore" "orders" "LBondedStore$Orders;" ∈ bigL := bgm (tm_2 _ (List.mem_of_getElem? (i := 68) rfl)) rfl
theorem bw_2_32 : Cond.classLink RX7 38 RJ4 ∈ bigL := bgm (tm_2 _ (List.mem_of_getElem? (i := 32) rfl)) rfl
theorem bw_2_33 : Cond.instantiable RJ4 4 ∈ bigL := bgm (tm_2 _ (List.mem_of_getElem? (i := 33) rfl)) rfl
theorem bw_1_10 : Cond.initialized RJ4 ∈ bigL := bgm (tm_1 _ (List.mem_of_getElem? (i := 10) rfl)) rfl
theorem bw_2_69 : Cond.fieldLink RX7 41 "BondedStore" "document" "Ljava/lang/StringBuilder;" ∈ bigL := bgm (tm_2 _ (List.mem_of_getElem? (i := 69) rfl)) rfl
theorem bw_2_70 : Cond.fieldLink RX7 45 "BondedStore" "reason" "I" ∈ bigL := bgm (tm_2 _ (List.mem_of_getElem? (i := 70) rfl)) rfl
theorem bw_1_31 : Cond.methodLink RX7 9 yX6_init ∈ bigL := bgm (tm_1 _ (List.mem_of_getElem? (i := 31) rfl)) rfl
theorem bw_1_32 : Cond.instanceMethod yX6_init ∈ bigL := bgm (tm_1 _ (List.mem_of_getElem? (i := 32) rfl)) rfl
theorem bw_1_33 : Cond.code yX6_init cX6_init 2 none ∈ bigL := bgm (tm_1 _ (List.mem_of_getElem? (i := 33) rfl)) rfl
theorem bw_1_34 : Cond.methodLink RX6 3 objectInit ∈ bigL := bgm (tm_1 _ (List.mem_of_getElem? (i := 34) rfl)) rfl
theorem bw_1_35 : Cond.classLink RX6 9 RX5 ∈ bigL := bgm (tm_1 _ (List.mem_of_getElem? (i := 35) rfl)) rfl
theorem bw_1_36 : Cond.instantiable RX5 6 ∈ bigL := bgm (tm_1 _ (List.mem_of_getElem? (i := 36) rfl)) rfl
theorem bw_1_3 : Cond.initialized RX5 ∈ bigL := bgm (tm_1 _ (List.mem_of_getElem? (i := 3) rfl)) rfl
theorem bw_1_181 : Cond.fieldLink RX6 12 "BondedStore$State" "settings" "LBondedStore$Settings;" ∈ bigL := bgm (tm_1 _ (List.mem_of_getElem? (i := 181) rfl)) rfl
theorem bw_1_67 : Cond.classLink RX6 18 RX4 ∈ bigL := bgm (tm_1 _ (List.mem_of_getElem? (i := 67) rfl)) rfl
theorem bw_1_183 : Cond.fieldLink RX6 20 "BondedStore$State" "owners" "[LBondedStore$Owner;" ∈ bigL := bgm (tm_1 _ (List.mem_of_getElem? (i := 183) rfl)) rfl
theorem bw_1_69 : Cond.instantiable RX4 4 ∈ bigL := bgm (tm_1 _ (List.mem_of_getElem? (i := 69) rfl)) rfl
theorem bw_1_4 : Cond.initialized RX4 ∈ bigL := bgm (tm_1 _ (List.mem_of_getElem? (i := 4) rfl)) rfl
theorem bw_1_92 : Cond.classLink RX6 25 RX2 ∈ bigL := bgm (tm_1 _ (List.mem_of_getElem? (i := 92) rfl)) rfl
theorem bw_1_184 : Cond.fieldLink RX6 27 "BondedStore$State" "lots" "[LBondedStore$Lot;" ∈ bigL := bgm (tm_1 _ (List.mem_of_getElem? (i := 184) rfl)) rfl
theorem bw_1_94 : Cond.instantiable RX2 11 ∈ bigL := bgm (tm_1 _ (List.mem_of_getElem? (i := 94) rfl)) rfl
theorem bw_1_5 : Cond.initialized RX2 ∈ bigL := bgm (tm_1 _ (List.mem_of_getElem? (i := 5) rfl)) rfl
theorem bw_1_149 : Cond.classLink RX6 32 RX0 ∈ bigL := bgm (tm_1 _ (List.mem_of_getElem? (i := 149) rfl)) rfl
theorem bw_1_186 : Cond.fieldLink RX6 34 "BondedStore$State" "exports" "[LBondedStore$Export;" ∈ bigL := bgm (tm_1 _ (List.mem_of_getElem? (i := 186) rfl)) rfl
theorem bw_1_151 : Cond.instantiable RX0 5 ∈ bigL := bgm (tm_1 _ (List.mem_of_getElem? (i := 151) rfl)) rfl
theorem bw_1_6 : Cond.initialized RX0 ∈ bigL := bgm (tm_1 _ (List.mem_of_getElem? (i := 6) rfl)) rfl
theorem bw_1_37 : Cond.methodLink RX6 11 yX5_init ∈ bigL := bgm (tm_1 _ (List.mem_of_getElem? (i := 37) rfl)) rfl
theorem bw_1_38 : Cond.instanceMethod yX5_init ∈ bigL := bgm (tm_1 _ (List.mem_of_getElem? (i := 38) rfl)) rfl
theorem bw_1_39 : Cond.code yX5_init cX5_init 2 none ∈ bigL := bgm (tm_1 _ (List.mem_of_getElem? (i := 39) rfl)) rfl
theorem bw_1_40 : Cond.methodLink RX5 3 objectInit ∈ bigL := bgm (tm_1 _ (List.mem_of_getElem? (i := 40) rfl)) rfl
theorem bw_1_66 : Cond.arrayClass .int ∈ bigL := bgm (tm_1 _ (List.mem_of_getElem? (i := 66) rfl)) rfl
theorem bw_1_41 : Cond.fieldLink RX5 9 "BondedStore$Settings" "rates" "[I" ∈ bigL := bgm (tm_1 _ (List.mem_of_getElem? (i := 41) rfl)) rfl
theorem bw_1_43 : Cond.fieldLink RX5 15 "BondedStore$Settings" "term" "I" ∈ bigL := bgm (tm_1 _ (List.mem_of_getElem? (i := 43) rfl)) rfl
theorem bw_1_45 : Cond.fieldLink RX5 19 "BondedStore$Settings" "proof" "I" ∈ bigL := bgm (tm_1 _ (List.mem_of_getElem? (i := 45) rfl)) rfl
theorem bw_1_47 : Cond.fieldLink RX5 22 "BondedStore$Settings" "cover" "I" ∈ bigL := bgm (tm_1 _ (List.mem_of_getElem? (i := 47) rfl)) rfl
theorem bw_1_49 : Cond.fieldLink RX5 25 "BondedStore$Settings" "allowance" "I" ∈ bigL := bgm (tm_1 _ (List.mem_of_getElem? (i := 49) rfl)) rfl
theorem bw_1_51 : Cond.fieldLink RX5 28 "BondedStore$Settings" "fee" "I" ∈ bigL := bgm (tm_1 _ (List.mem_of_getElem? (i := 51) rfl)) rfl
theorem bw_1_71 : Cond.instanceMethod yX4_init ∈ bigL := bgm (tm_1 _ (List.mem_of_getElem? (i := 71) rfl)) rfl
theorem bw_1_72 : Cond.code yX4_init cX4_init 1 none ∈ bigL := bgm (tm_1 _ (List.mem_of_getElem? (i := 72) rfl)) rfl
theorem bw_1_73 : Cond.methodLink RX4 1 objectInit ∈ bigL := bgm (tm_1 _ (List.mem_of_getElem? (i := 73) rfl)) rfl
theorem bw_1_96 : Cond.instanceMethod yX2_init ∈ bigL := bgm (tm_1 _ (List.mem_of_getElem? (i := 96) rfl)) rfl
theorem bw_1_97 : Cond.code yX2_init cX2_init 1 none ∈ bigL := bgm (tm_1 _ (List.mem_of_getElem? (i := 97) rfl)) rfl
theorem bw_1_98 : Cond.methodLink RX2 1 objectInit ∈ bigL := bgm (tm_1 _ (List.mem_of_getElem? (i := 98) rfl)) rfl
theorem bw_1_153 : Cond.instanceMethod yX0_init ∈ bigL := bgm (tm_1 _ (List.mem_of_getElem? (i := 153) rfl)) rfl
theorem bw_1_154 : Cond.code yX0_init cX0_init 1 none ∈ bigL := bgm (tm_1 _ (List.mem_of_getElem? (i := 154) rfl)) rfl
theorem bw_1_155 : Cond.methodLink RX0 1 objectInit ∈ bigL := bgm (tm_1 _ (List.mem_of_getElem? (i := 155) rfl)) rfl
theorem bw_1_227 : Cond.methodLink RX7 18 yX1_init ∈ bigL := bgm (tm_1 _ (List.mem_of_getElem? (i := 227) rfl)) rfl
theorem bw_1_228 : Cond.instanceMethod yX1_init ∈ bigL := bgm (tm_1 _ (List.mem_of_getElem? (i := 228) rfl)) rfl
theorem bw_1_229 : Cond.code yX1_init cX1_init 2 none ∈ bigL := bgm (tm_1 _ (List.mem_of_getElem? (i := 229) rfl)) rfl
theorem bw_1_230 : Cond.methodLink RX1 3 objectInit ∈ bigL := bgm (tm_1 _ (List.mem_of_getElem? (i := 230) rfl)) rfl
theorem bw_1_231 : Cond.classLink RX1 9 RX6 ∈ bigL := bgm (tm_1 _ (List.mem_of_getElem? (i := 231) rfl)) rfl
theorem bw_1_234 : Cond.fieldLink RX1 11 "BondedStore$History" "rows" "[LBondedStore$State;" ∈ bigL := bgm (tm_1 _ (List.mem_of_getElem? (i := 234) rfl)) rfl
theorem bw_1_233 : Cond.methodLink RX1 15 yX6_init ∈ bigL := bgm (tm_1 _ (List.mem_of_getElem? (i := 233) rfl)) rfl
theorem bw_2_7 : Cond.methodLink RX7 33 yX3_init ∈ bigL := bgm (tm_2 _ (List.mem_of_getElem? (i := 7) rfl)) rfl
theorem bw_2_8 : Cond.instanceMethod yX3_init ∈ bigL := bgm (tm_2 _ (List.mem_of_getElem? (i := 8) rfl)) rfl
theorem bw_2_9 : Cond.code yX3_init cX3_init 1 none ∈ bigL := bgm (tm_2 _ (List.mem_of_getElem? (i := 9) rfl)) rfl
theorem bw_2_10 : Cond.methodLink RX3 3 objectInit ∈ bigL := bgm (tm_2 _ (List.mem_of_getElem? (i := 10) rfl)) rfl
theorem bw_2_31 : Cond.arrayClass .char ∈ bigL := bgm (tm_2 _ (List.mem_of_getElem? (i := 31) rfl)) rfl
theorem bw_2_11 : Cond.fieldLink RX3 11 "BondedStore$Orders" "text" "[C" ∈ bigL := bgm (tm_2 _ (List.mem_of_getElem? (i := 11) rfl)) rfl
theorem bw_2_17 : Cond.fieldLink RX3 15 "BondedStore$Orders" "numbers" "[I" ∈ bigL := bgm (tm_2 _ (List.mem_of_getElem? (i := 17) rfl)) rfl
theorem bw_2_34 : Cond.methodLink RX7 40 yJ4_init_da8c8 ∈ bigL := bgm (tm_2 _ (List.mem_of_getElem? (i := 34) rfl)) rfl
theorem bw_2_35 : Cond.instanceMethod yJ4_init_da8c8 ∈ bigL := bgm (tm_2 _ (List.mem_of_getElem? (i := 35) rfl)) rfl
theorem bw_2_36 : Cond.code yJ4_init_da8c8 cJ4_init_da8c8 1 none ∈ bigL := bgm (tm_2 _ (List.mem_of_getElem? (i := 36) rfl)) rfl
theorem bw_2_37 : Cond.methodLink RJ4 1 yJ5_init_d00df ∈ bigL := bgm (tm_2 _ (List.mem_of_getElem? (i := 37) rfl)) rfl
theorem bw_2_38 : Cond.instanceMethod yJ5_init_d00df ∈ bigL := bgm (tm_2 _ (List.mem_of_getElem? (i := 38) rfl)) rfl
theorem bw_1_9 : Cond.initialized RJ5 ∈ bigL := bgm (tm_1 _ (List.mem_of_getElem? (i := 9) rfl)) rfl
theorem bw_2_39 : Cond.code yJ5_init_d00df cJ5_init_d00df 2 none ∈ bigL := bgm (tm_2 _ (List.mem_of_getElem? (i := 39) rfl)) rfl
theorem bw_2_40 : Cond.methodLink RJ5 3 objectInit ∈ bigL := bgm (tm_2 _ (List.mem_of_getElem? (i := 40) rfl)) rfl
theorem bw_2_41 : Cond.fieldLink RJ5 18 "java/lang/String" "COMPACT_STRINGS" "Z" ∈ bigL := bgm (tm_2 _ (List.mem_of_getElem? (i := 41) rfl)) rfl
theorem bw_2_63 : Cond.arrayClass .byte ∈ bigL := bgm (tm_2 _ (List.mem_of_getElem? (i := 63) rfl)) rfl
theorem bw_2_50 : Cond.fieldLink RJ5 15 "java/lang/AbstractStringBuilder" "value" "[B" ∈ bigL := bgm (tm_2 _ (List.mem_of_getElem? (i := 50) rfl)) rfl
theorem bw_2_51 : Cond.fieldLink RJ5 22 "java/lang/AbstractStringBuilder" "coder" "B" ∈ bigL := bgm (tm_2 _ (List.mem_of_getElem? (i := 51) rfl)) rfl
theorem bw_2_43 : Cond.methodLink RJ5 26 yJ2_newBytesFor_77867 ∈ bigL := bgm (tm_2 _ (List.mem_of_getElem? (i := 43) rfl)) rfl
theorem bw_2_44 : Cond.static yJ2_newBytesFor_77867 ∈ bigL := bgm (tm_2 _ (List.mem_of_getElem? (i := 44) rfl)) rfl
theorem bw_1_12 : Cond.initialized RJ2 ∈ bigL := bgm (tm_1 _ (List.mem_of_getElem? (i := 12) rfl)) rfl
theorem bw_2_45 : Cond.code yJ2_newBytesFor_77867 cJ2_newBytesFor_77867 1 (some (.array .byte)) ∈ bigL := bgm (tm_2 _ (List.mem_of_getElem? (i := 45) rfl)) rfl
theorem bw_2_46 : Cond.methodLink RJ2 11 yJ2_newBytesLength_0f7a4 ∈ bigL := bgm (tm_2 _ (List.mem_of_getElem? (i := 46) rfl)) rfl
theorem bw_2_47 : Cond.static yJ2_newBytesLength_0f7a4 ∈ bigL := bgm (tm_2 _ (List.mem_of_getElem? (i := 47) rfl)) rfl
theorem bw_2_48 : Cond.code yJ2_newBytesLength_0f7a4 cJ2_newBytesLength_0f7a4 1 (some .int) ∈ bigL := bgm (tm_2 _ (List.mem_of_getElem? (i := 48) rfl)) rfl
theorem bw_2_49 : Cond.constant RJ2 20 (1073741823) ∈ bigL := bgm (tm_2 _ (List.mem_of_getElem? (i := 49) rfl)) rfl
theorem bw_4_219 : Cond.methodLink RL 12 yX8_init ∈ bigL := bgm (tm_4 _ (List.mem_of_getElem? (i := 219) rfl)) rfl
theorem bw_4_220 : Cond.instanceMethod yX8_init ∈ bigL := bgm (tm_4 _ (List.mem_of_getElem? (i := 220) rfl)) rfl
theorem bw_4_221 : Cond.code yX8_init cX8_init 2 none ∈ bigL := bgm (tm_4 _ (List.mem_of_getElem? (i := 221) rfl)) rfl
theorem bw_4_222 : Cond.methodLink RX8 1 objectInit ∈ bigL := bgm (tm_4 _ (List.mem_of_getElem? (i := 222) rfl)) rfl
theorem bw_5_33 : Cond.arrayClass .long ∈ bigL := bgm (tm_5 _ (List.mem_of_getElem? (i := 33) rfl)) rfl
theorem bw_4_227 : Cond.fieldLink RX8 7 "BondedStoreModel" "now" "[J" ∈ bigL := bgm (tm_4 _ (List.mem_of_getElem? (i := 227) rfl)) rfl
theorem bw_4_228 : Cond.fieldLink RX8 13 "BondedStoreModel" "history" "[J" ∈ bigL := bgm (tm_4 _ (List.mem_of_getElem? (i := 228) rfl)) rfl
theorem bw_4_230 : Cond.fieldLink RX8 16 "BondedStoreModel" "slots" "[J" ∈ bigL := bgm (tm_4 _ (List.mem_of_getElem? (i := 230) rfl)) rfl
theorem bw_4_231 : Cond.fieldLink RX8 19 "BondedStoreModel" "isFilled" "[Z" ∈ bigL := bgm (tm_4 _ (List.mem_of_getElem? (i := 231) rfl)) rfl
theorem bw_4_234 : Cond.fieldLink RX8 23 "BondedStoreModel" "text" "[C" ∈ bigL := bgm (tm_4 _ (List.mem_of_getElem? (i := 234) rfl)) rfl
theorem bw_4_239 : Cond.fieldLink RX8 27 "BondedStoreModel" "orderOf" "[I" ∈ bigL := bgm (tm_4 _ (List.mem_of_getElem? (i := 239) rfl)) rfl
theorem bw_5_1 : Cond.fieldLink RX8 31 "BondedStoreModel" "document" "[I" ∈ bigL := bgm (tm_5 _ (List.mem_of_getElem? (i := 1) rfl)) rfl
theorem bw_4_223 : Cond.constantLong RX8 34 (100) ∈ bigL := bgm (tm_4 _ (List.mem_of_getElem? (i := 223) rfl)) rfl
theorem bw_4_224 : Cond.constantLong RX8 36 (30) ∈ bigL := bgm (tm_4 _ (List.mem_of_getElem? (i := 224) rfl)) rfl
theorem bw_4_225 : Cond.constantLong RX8 38 (20) ∈ bigL := bgm (tm_4 _ (List.mem_of_getElem? (i := 225) rfl)) rfl
theorem bw_4_226 : Cond.constantLong RX8 40 (10) ∈ bigL := bgm (tm_4 _ (List.mem_of_getElem? (i := 226) rfl)) rfl
theorem bw_2_86 : Cond.methodLink RL 13 yX7_addOwner ∈ bigL := bgm (tm_2 _ (List.mem_of_getElem? (i := 86) rfl)) rfl
theorem bw_2_87 : Cond.instanceMethod yX7_addOwner ∈ bigL := bgm (tm_2 _ (List.mem_of_getElem? (i := 87) rfl)) rfl
theorem bw_2_88 : Cond.selects RX7 yX7_addOwner yX7_addOwner ∈ bigL := bgm (tm_2 _ (List.mem_of_getElem? (i := 88) rfl)) rfl
theorem bw_2_89 : Cond.code yX7_addOwner cX7_addOwner 2 (some .int) ∈ bigL := bgm (tm_2 _ (List.mem_of_getElem? (i := 89) rfl)) rfl
theorem bw_1_188 : Cond.fieldLink RX7 49 "BondedStore$State" "ownerCount" "I" ∈ bigL := bgm (tm_1 _ (List.mem_of_getElem? (i := 188) rfl)) rfl
theorem bw_2_90 : Cond.constant RX7 52 (-100000004) ∈ bigL := bgm (tm_2 _ (List.mem_of_getElem? (i := 90) rfl)) rfl
theorem bw_2_91 : Cond.methodLink RX7 53 yX1_prepare ∈ bigL := bgm (tm_2 _ (List.mem_of_getElem? (i := 91) rfl)) rfl
theorem bw_2_92 : Cond.instanceMethod yX1_prepare ∈ bigL := bgm (tm_2 _ (List.mem_of_getElem? (i := 92) rfl)) rfl
theorem bw_2_93 : Cond.selects RX1 yX1_prepare yX1_prepare ∈ bigL := bgm (tm_2 _ (List.mem_of_getElem? (i := 93) rfl)) rfl
theorem bw_2_94 : Cond.code yX1_prepare cX1_prepare 2 none ∈ bigL := bgm (tm_2 _ (List.mem_of_getElem? (i := 94) rfl)) rfl
theorem bw_1_235 : Cond.fieldLink RX1 16 "BondedStore$History" "first" "I" ∈ bigL := bgm (tm_1 _ (List.mem_of_getElem? (i := 235) rfl)) rfl
theorem bw_1_236 : Cond.fieldLink RX1 20 "BondedStore$History" "size" "I" ∈ bigL := bgm (tm_1 _ (List.mem_of_getElem? (i := 236) rfl)) rfl
theorem bw_2_95 : Cond.methodLink RX1 23 yX6_copyFrom ∈ bigL := bgm (tm_2 _ (List.mem_of_getElem? (i := 95) rfl)) rfl
theorem bw_2_96 : Cond.instanceMethod yX6_copyFrom ∈ bigL := bgm (tm_2 _ (List.mem_of_getElem? (i := 96) rfl)) rfl
theorem bw_2_97 : Cond.selects RX6 yX6_copyFrom yX6_copyFrom ∈ bigL := bgm (tm_2 _ (List.mem_of_getElem? (i := 97) rfl)) rfl
theorem bw_2_98 : Cond.code yX6_copyFrom cX6_copyFrom 3 none ∈ bigL := bgm (tm_2 _ (List.mem_of_getElem? (i := 98) rfl)) rfl
theorem bw_1_189 : Cond.fieldLink RX6 52 "BondedStore$State" "ownerCount" "I" ∈ bigL := bgm (tm_1 _ (List.mem_of_getElem? (i := 189) rfl)) rfl
theorem bw_1_190 : Cond.fieldLink RX6 56 "BondedStore$State" "lotCount" "I" ∈ bigL := bgm (tm_1 _ (List.mem_of_getElem? (i := 190) rfl)) rfl
theorem bw_1_192 : Cond.fieldLink RX6 59 "BondedStore$State" "exportCount" "I" ∈ bigL := bgm (tm_1 _ (List.mem_of_getElem? (i := 192) rfl)) rfl
theorem bw_1_194 : Cond.fieldLink RX6 62 "BondedStore$State" "seizedLots" "I" ∈ bigL := bgm (tm_1 _ (List.mem_of_getElem? (i := 194) rfl)) rfl
theorem bw_1_196 : Cond.fieldLink RX6 65 "BondedStore$State" "day" "I" ∈ bigL := bgm (tm_1 _ (List.mem_of_getElem? (i := 196) rfl)) rfl
theorem bw_1_198 : Cond.fieldLink RX6 68 "BondedStore$State" "fees" "J" ∈ bigL := bgm (tm_1 _ (List.mem_of_getElem? (i := 198) rfl)) rfl
theorem bw_1_200 : Cond.fieldLink RX6 72 "BondedStore$State" "deposits" "J" ∈ bigL := bgm (tm_1 _ (List.mem_of_getElem? (i := 200) rfl)) rfl
theorem bw_2_99 : Cond.methodLink RX6 39 yX5_copyFrom ∈ bigL := bgm (tm_2 _ (List.mem_of_getElem? (i := 99) rfl)) rfl
theorem bw_2_100 : Cond.instanceMethod yX5_copyFrom ∈ bigL := bgm (tm_2 _ (List.mem_of_getElem? (i := 100) rfl)) rfl
theorem bw_2_101 : Cond.selects RX5 yX5_copyFrom yX5_copyFrom ∈ bigL := bgm (tm_2 _ (List.mem_of_getElem? (i := 101) rfl)) rfl
theorem bw_2_102 : Cond.code yX5_copyFrom cX5_copyFrom 2 none ∈ bigL := bgm (tm_2 _ (List.mem_of_getElem? (i := 102) rfl)) rfl
theorem bw_2_103 : Cond.methodLink RX5 31 arraycopyName ∈ bigL := bgm (tm_2 _ (List.mem_of_getElem? (i := 103) rfl)) rfl
theorem bw_2_105 : Cond.native arraycopyName ∈ bigL := bgm (tm_2 _ (List.mem_of_getElem? (i := 105) rfl)) rfl
theorem bw_2_104 : Cond.static arraycopyName ∈ bigL := bgm (tm_2 _ (List.mem_of_getElem? (i := 104) rfl)) rfl
theorem bw_1_14 : Cond.initialized "java/lang/System" ∈ bigL := bgm (tm_1 _ (List.mem_of_getElem? (i := 14) rfl)) rfl
theorem bw_2_106 : Cond.methodLink RX6 43 yX4_copyFrom ∈ bigL := bgm (tm_2 _ (List.mem_of_getElem? (i := 106) rfl)) rfl
theorem bw_2_107 : Cond.instanceMethod yX4_copyFrom ∈ bigL := bgm (tm_2 _ (List.mem_of_getElem? (i := 107) rfl)) rfl
theorem bw_2_108 : Cond.selects RX4 yX4_copyFrom yX4_copyFrom ∈ bigL := bgm (tm_2 _ (List.mem_of_getElem? (i := 108) rfl)) rfl
theorem bw_2_109 : Cond.code yX4_copyFrom cX4_copyFrom 2 none ∈ bigL := bgm (tm_2 _ (List.mem_of_getElem? (i := 109) rfl)) rfl
theorem bw_1_74 : Cond.fieldLink RX4 7 "BondedStore$Owner" "cash" "J" ∈ bigL := bgm (tm_1 _ (List.mem_of_getElem? (i := 74) rfl)) rfl
theorem bw_1_76 : Cond.fieldLink RX4 13 "BondedStore$Owner" "guarantee" "I" ∈ bigL := bgm (tm_1 _ (List.mem_of_getElem? (i := 76) rfl)) rfl
theorem bw_1_78 : Cond.fieldLink RX4 17 "BondedStore$Owner" "debt" "I" ∈ bigL := bgm (tm_1 _ (List.mem_of_getElem? (i := 78) rfl)) rfl
theorem bw_1_80 : Cond.fieldLink RX4 20 "BondedStore$Owner" "called" "I" ∈ bigL := bgm (tm_1 _ (List.mem_of_getElem? (i := 80) rfl)) rfl
theorem bw_2_110 : Cond.methodLink RX6 46 yX2_copyFrom ∈ bigL := bgm (tm_2 _ (List.mem_of_getElem? (i := 110) rfl)) rfl
theorem bw_2_111 : Cond.instanceMethod yX2_copyFrom ∈ bigL := bgm (tm_2 _ (List.mem_of_getElem? (i := 111) rfl)) rfl
theorem bw_2_112 : Cond.selects RX2 yX2_copyFrom yX2_copyFrom ∈ bigL := bgm (tm_2 _ (List.mem_of_getElem? (i := 112) rfl)) rfl
theorem bw_2_113 : Cond.code yX2_copyFrom cX2_copyFrom 2 none ∈ bigL := bgm (tm_2 _ (List.mem_of_getElem? (i := 113) rfl)) rfl
theorem bw_1_99 : Cond.fieldLink RX2 7 "BondedStore$Lot" "owner" "I" ∈ bigL := bgm (tm_1 _ (List.mem_of_getElem? (i := 99) rfl)) rfl
theorem bw_1_102 : Cond.fieldLink RX2 13 "BondedStore$Lot" "kind" "I" ∈ bigL := bgm (tm_1 _ (List.mem_of_getElem? (i := 102) rfl)) rfl
theorem bw_1_104 : Cond.fieldLink RX2 16 "BondedStore$Lot" "quantity" "I" ∈ bigL := bgm (tm_1 _ (List.mem_of_getElem? (i := 104) rfl)) rfl
theorem bw_1_107 : Cond.fieldLink RX2 19 "BondedStore$Lot" "value" "I" ∈ bigL := bgm (tm_1 _ (List.mem_of_getElem? (i := 107) rfl)) rfl
theorem bw_1_109 : Cond.fieldLink RX2 22 "BondedStore$Lot" "entered" "I" ∈ bigL := bgm (tm_1 _ (List.mem_of_getElem? (i := 109) rfl)) rfl
theorem bw_1_111 : Cond.fieldLink RX2 25 "BondedStore$Lot" "deadline" "I" ∈ bigL := bgm (tm_1 _ (List.mem_of_getElem? (i := 111) rfl)) rfl
theorem bw_1_113 : Cond.fieldLink RX2 28 "BondedStore$Lot" "due" "I" ∈ bigL := bgm (tm_1 _ (List.mem_of_getElem? (i := 113) rfl)) rfl
theorem bw_1_115 : Cond.fieldLink RX2 31 "BondedStore$Lot" "stored" "I" ∈ bigL := bgm (tm_1 _ (List.mem_of_getElem? (i := 115) rfl)) rfl
theorem bw_1_118 : Cond.fieldLink RX2 34 "BondedStore$Lot" "paid" "I" ∈ bigL := bgm (tm_1 _ (List.mem_of_getElem? (i := 118) rfl)) rfl
theorem bw_1_121 : Cond.fieldLink RX2 37 "BondedStore$Lot" "discharged" "I" ∈ bigL := bgm (tm_1 _ (List.mem_of_getElem? (i := 121) rfl)) rfl
theorem bw_1_123 : Cond.fieldLink RX2 40 "BondedStore$Lot" "sampled" "I" ∈ bigL := bgm (tm_1 _ (List.mem_of_getElem? (i := 123) rfl)) rfl
theorem bw_2_114 : Cond.methodLink RX6 49 yX0_copyFrom ∈ bigL := bgm (tm_2 _ (List.mem_of_getElem? (i := 114) rfl)) rfl
theorem bw_2_115 : Cond.instanceMethod yX0_copyFrom ∈ bigL := bgm (tm_2 _ (List.mem_of_getElem? (i := 115) rfl)) rfl
theorem bw_2_116 : Cond.selects RX0 yX0_copyFrom yX0_copyFrom ∈ bigL := bgm (tm_2 _ (List.mem_of_getElem? (i := 116) rfl)) rfl
theorem bw_2_117 : Cond.code yX0_copyFrom cX0_copyFrom 2 none ∈ bigL := bgm (tm_2 _ (List.mem_of_getElem? (i := 117) rfl)) rfl
theorem bw_1_156 : Cond.fieldLink RX0 7 "BondedStore$Export" "lot" "I" ∈ bigL := bgm (tm_1 _ (List.mem_of_getElem? (i := 156) rfl)) rfl
theorem bw_1_159 : Cond.fieldLink RX0 13 "BondedStore$Export" "units" "I" ∈ bigL := bgm (tm_1 _ (List.mem_of_getElem? (i := 159) rfl)) rfl
theorem bw_1_162 : Cond.fieldLink RX0 16 "BondedStore$Export" "duty" "I" ∈ bigL := bgm (tm_1 _ (List.mem_of_getElem? (i := 162) rfl)) rfl
theorem bw_1_165 : Cond.fieldLink RX0 19 "BondedStore$Export" "deadline" "I" ∈ bigL := bgm (tm_1 _ (List.mem_of_getElem? (i := 165) rfl)) rfl
theorem bw_1_167 : Cond.fieldLink RX0 22 "BondedStore$Export" "state" "I" ∈ bigL := bgm (tm_1 _ (List.mem_of_getElem? (i := 167) rfl)) rfl
theorem bw_2_118 : Cond.methodLink RX7 57 yX7_finishAct ∈ bigL := bgm (tm_2 _ (List.mem_of_getElem? (i := 118) rfl)) rfl
theorem bw_2_120 : Cond.instanceMethod yX7_finishAct ∈ bigL := bgm (tm_2 _ (List.mem_of_getElem? (i := 120) rfl)) rfl
theorem bs_0 : Cond.selects RX7 yX7_finishAct yX7_finishAct ∈ bigL := bgm (List.mem_append_left _ (List.mem_of_getElem? (i := 0) rfl)) rfl
theorem bw_2_121 : Cond.code yX7_finishAct cX7_finishAct 2 (some .int) ∈ bigL := bgm (tm_2 _ (List.mem_of_getElem? (i := 121) rfl)) rfl
theorem bw_2_122 : Cond.methodLink RX7 355 yX1_addPrepared ∈ bigL := bgm (tm_2 _ (List.mem_of_getElem? (i := 122) rfl)) rfl
theorem bw_2_123 : Cond.instanceMethod yX1_addPrepared ∈ bigL := bgm (tm_2 _ (List.mem_of_getElem? (i := 123) rfl)) rfl
theorem bw_2_124 : Cond.selects RX1 yX1_addPrepared yX1_addPrepared ∈ bigL := bgm (tm_2 _ (List.mem_of_getElem? (i := 124) rfl)) rfl
theorem bw_2_125 : Cond.code yX1_addPrepared cX1_addPrepared 1 none ∈ bigL := bgm (tm_2 _ (List.mem_of_getElem? (i := 125) rfl)) rfl
theorem bw_5_59 : Cond.methodLink RL 17 yX8_addOwner ∈ bigL := bgm (tm_5 _ (List.mem_of_getElem? (i := 59) rfl)) rfl
theorem bw_5_60 : Cond.instanceMethod yX8_addOwner ∈ bigL := bgm (tm_5 _ (List.mem_of_getElem? (i := 60) rfl)) rfl
theorem bw_5_61 : Cond.selects RX8 yX8_addOwner yX8_addOwner ∈ bigL := bgm (tm_5 _ (List.mem_of_getElem? (i := 61) rfl)) rfl
theorem bw_5_62 : Cond.code yX8_addOwner cX8_addOwner 3 (some .int) ∈ bigL := bgm (tm_5 _ (List.mem_of_getElem? (i := 62) rfl)) rfl
theorem bw_5_63 : Cond.constantLong RX8 63 (5) ∈ bigL := bgm (tm_5 _ (List.mem_of_getElem? (i := 63) rfl)) rfl
theorem bw_5_64 : Cond.constant RX8 97 (-100000004) ∈ bigL := bgm (tm_5 _ (List.mem_of_getElem? (i := 64) rfl)) rfl
theorem bw_5_55 : Cond.methodLink RX8 56 yX8_record ∈ bigL := bgm (tm_5 _ (List.mem_of_getElem? (i := 55) rfl)) rfl
theorem bw_5_57 : Cond.instanceMethod yX8_record ∈ bigL := bgm (tm_5 _ (List.mem_of_getElem? (i := 57) rfl)) rfl
theorem bs_21 : Cond.selects RX8 yX8_record yX8_record ∈ bigL := bgm (List.mem_append_left _ (List.mem_of_getElem? (i := 21) rfl)) rfl
theorem bw_5_58 : Cond.code yX8_record cX8_record 2 none ∈ bigL := bgm (tm_5 _ (List.mem_of_getElem? (i := 58) rfl)) rfl
theorem bw_4_229 : Cond.fieldLink RX8 42 "BondedStoreModel" "kept" "I" ∈ bigL := bgm (tm_4 _ (List.mem_of_getElem? (i := 229) rfl)) rfl
theorem bw_5_47 : Cond.methodLink RX8 52 yX8_number ∈ bigL := bgm (tm_5 _ (List.mem_of_getElem? (i := 47) rfl)) rfl
theorem bw_5_49 : Cond.instanceMethod yX8_number ∈ bigL := bgm (tm_5 _ (List.mem_of_getElem? (i := 49) rfl)) rfl
theorem bs_20 : Cond.selects RX8 yX8_number yX8_number ∈ bigL := bgm (List.mem_append_left _ (List.mem_of_getElem? (i := 20) rfl)) rfl
theorem bw_5_50 : Cond.code yX8_number cX8_number 2 (some .int) ∈ bigL := bgm (tm_5 _ (List.mem_of_getElem? (i := 50) rfl)) rfl
theorem bw_5_65 : Cond.methodLink RX8 94 yX8_ownerAt ∈ bigL := bgm (tm_5 _ (List.mem_of_getElem? (i := 65) rfl)) rfl
theorem bw_5_66 : Cond.static yX8_ownerAt ∈ bigL := bgm (tm_5 _ (List.mem_of_getElem? (i := 66) rfl)) rfl
theorem bw_5_67 : Cond.code yX8_ownerAt cX8_ownerAt 1 (some .int) ∈ bigL := bgm (tm_5 _ (List.mem_of_getElem? (i := 67) rfl)) rfl
theorem bw_2_126 : Cond.methodLink RL 18 yX7_deposit ∈ bigL := bgm (tm_2 _ (List.mem_of_getElem? (i := 126) rfl)) rfl
theorem bw_2_127 : Cond.instanceMethod yX7_deposit ∈ bigL := bgm (tm_2 _ (List.mem_of_getElem? (i := 127) rfl)) rfl
theorem bw_2_128 : Cond.selects RX7 yX7_deposit yX7_deposit ∈ bigL := bgm (tm_2 _ (List.mem_of_getElem? (i := 128) rfl)) rfl
theorem bw_2_129 : Cond.code yX7_deposit cX7_deposit 4 (some .int) ∈ bigL := bgm (tm_2 _ (List.mem_of_getElem? (i := 129) rfl)) rfl
theorem bw_2_134 : Cond.constant RX7 65 (-100000001) ∈ bigL := bgm (tm_2 _ (List.mem_of_getElem? (i := 134) rfl)) rfl
theorem bw_2_135 : Cond.constant RX7 66 (10000000) ∈ bigL := bgm (tm_2 _ (List.mem_of_getElem? (i := 135) rfl)) rfl
theorem bw_2_139 : Cond.constant RX7 71 (-100000002) ∈ bigL := bgm (tm_2 _ (List.mem_of_getElem? (i := 139) rfl)) rfl
theorem bw_1_201 : Cond.fieldLink RX7 78 "BondedStore$State" "deposits" "J" ∈ bigL := bgm (tm_1 _ (List.mem_of_getElem? (i := 201) rfl)) rfl
theorem bw_1_79 : Cond.fieldLink RX7 82 "BondedStore$Owner" "debt" "I" ∈ bigL := bgm (tm_1 _ (List.mem_of_getElem? (i := 79) rfl)) rfl
theorem bw_2_130 : Cond.methodLink RX7 61 yX6_findOwner ∈ bigL := bgm (tm_2 _ (List.mem_of_getElem? (i := 130) rfl)) rfl
theorem bw_2_131 : Cond.instanceMethod yX6_findOwner ∈ bigL := bgm (tm_2 _ (List.mem_of_getElem? (i := 131) rfl)) rfl
theorem bw_2_132 : Cond.selects RX6 yX6_findOwner yX6_findOwner ∈ bigL := bgm (tm_2 _ (List.mem_of_getElem? (i := 132) rfl)) rfl
theorem bw_2_133 : Cond.code yX6_findOwner cX6_findOwner 2 (some (.object "BondedStore$Owner")) ∈ bigL := bgm (tm_2 _ (List.mem_of_getElem? (i := 133) rfl)) rfl
theorem bw_2_136 : Cond.methodLink RX7 67 yX7_outside ∈ bigL := bgm (tm_2 _ (List.mem_of_getElem? (i := 136) rfl)) rfl
theorem bw_2_137 : Cond.static yX7_outside ∈ bigL := bgm (tm_2 _ (List.mem_of_getElem? (i := 137) rfl)) rfl
theorem bw_2_138 : Cond.code yX7_outside cX7_outside 3 (some .boolean) ∈ bigL := bgm (tm_2 _ (List.mem_of_getElem? (i := 138) rfl)) rfl
theorem bw_2_140 : Cond.methodLink RX7 72 yX4_payIn ∈ bigL := bgm (tm_2 _ (List.mem_of_getElem? (i := 140) rfl)) rfl
theorem bw_2_141 : Cond.instanceMethod yX4_payIn ∈ bigL := bgm (tm_2 _ (List.mem_of_getElem? (i := 141) rfl)) rfl
theorem bw_2_142 : Cond.selects RX4 yX4_payIn yX4_payIn ∈ bigL := bgm (tm_2 _ (List.mem_of_getElem? (i := 142) rfl)) rfl
theorem bw_2_143 : Cond.code yX4_payIn cX4_payIn 3 none ∈ bigL := bgm (tm_2 _ (List.mem_of_getElem? (i := 143) rfl)) rfl
theorem bw_2_144 : Cond.methodLink RX4 23 Lib.Math.min.name ∈ bigL := bgm (tm_2 _ (List.mem_of_getElem? (i := 144) rfl)) rfl
theorem bw_2_145 : Cond.static Lib.Math.min.name ∈ bigL := bgm (tm_2 _ (List.mem_of_getElem? (i := 145) rfl)) rfl
theorem bw_1_15 : Cond.initialized "java/lang/Math" ∈ bigL := bgm (tm_1 _ (List.mem_of_getElem? (i := 15) rfl)) rfl
theorem bw_5_68 : Cond.methodLink RL 22 yX8_deposit ∈ bigL := bgm (tm_5 _ (List.mem_of_getElem? (i := 68) rfl)) rfl
theorem bw_5_69 : Cond.instanceMethod yX8_deposit ∈ bigL := bgm (tm_5 _ (List.mem_of_getElem? (i := 69) rfl)) rfl
theorem bw_5_70 : Cond.selects RX8 yX8_deposit yX8_deposit ∈ bigL := bgm (tm_5 _ (List.mem_of_getElem? (i := 70) rfl)) rfl
theorem bw_5_71 : Cond.code yX8_deposit cX8_deposit 7 (some .int) ∈ bigL := bgm (tm_5 _ (List.mem_of_getElem? (i := 71) rfl)) rfl
theorem bw_5_46 : Cond.constant RX8 51 (-100000001) ∈ bigL := bgm (tm_5 _ (List.mem_of_getElem? (i := 46) rfl)) rfl
theorem bw_5_76 : Cond.constantLong RX8 101 (10000000) ∈ bigL := bgm (tm_5 _ (List.mem_of_getElem? (i := 76) rfl)) rfl
theorem bw_5_77 : Cond.constant RX8 103 (-100000002) ∈ bigL := bgm (tm_5 _ (List.mem_of_getElem? (i := 77) rfl)) rfl
theorem bw_5_72 : Cond.methodLink RX8 98 yX8_noOwner ∈ bigL := bgm (tm_5 _ (List.mem_of_getElem? (i := 72) rfl)) rfl
theorem bw_5_74 : Cond.instanceMethod yX8_noOwner ∈ bigL := bgm (tm_5 _ (List.mem_of_getElem? (i := 74) rfl)) rfl
theorem bs_22 : Cond.selects RX8 yX8_noOwner yX8_noOwner ∈ bigL := bgm (List.mem_append_left _ (List.mem_of_getElem? (i := 22) rfl)) rfl
theorem bw_5_75 : Cond.code yX8_noOwner cX8_noOwner 2 (some .boolean) ∈ bigL := bgm (tm_5 _ (List.mem_of_getElem? (i := 75) rfl)) rfl
theorem bw_5_43 : Cond.methodLink RX8 47 yX8_in ∈ bigL := bgm (tm_5 _ (List.mem_of_getElem? (i := 43) rfl)) rfl
theorem bw_5_44 : Cond.static yX8_in ∈ bigL := bgm (tm_5 _ (List.mem_of_getElem? (i := 44) rfl)) rfl
theorem bw_5_45 : Cond.code yX8_in cX8_in 6 (some .boolean) ∈ bigL := bgm (tm_5 _ (List.mem_of_getElem? (i := 45) rfl)) rfl
theorem bw_2_147 : Cond.methodLink RL 23 yX7_setGuarantee ∈ bigL := bgm (tm_2 _ (List.mem_of_getElem? (i := 147) rfl)) rfl
theorem bw_2_148 : Cond.instanceMethod yX7_setGuarantee ∈ bigL := bgm (tm_2 _ (List.mem_of_getElem? (i := 148) rfl)) rfl
theorem bw_2_149 : Cond.selects RX7 yX7_setGuarantee yX7_setGuarantee ∈ bigL := bgm (tm_2 _ (List.mem_of_getElem? (i := 149) rfl)) rfl
theorem bw_2_150 : Cond.code yX7_setGuarantee cX7_setGuarantee 5 (some .int) ∈ bigL := bgm (tm_2 _ (List.mem_of_getElem? (i := 150) rfl)) rfl
theorem bw_2_151 : Cond.constant RX7 85 (100000000) ∈ bigL := bgm (tm_2 _ (List.mem_of_getElem? (i := 151) rfl)) rfl
theorem bw_1_182 : Cond.fieldLink RX7 86 "BondedStore$State" "settings" "LBondedStore$Settings;" ∈ bigL := bgm (tm_1 _ (List.mem_of_getElem? (i := 182) rfl)) rfl
theorem bw_1_77 : Cond.fieldLink RX7 102 "BondedStore$Owner" "guarantee" "I" ∈ bigL := bgm (tm_1 _ (List.mem_of_getElem? (i := 77) rfl)) rfl
theorem bw_2_152 : Cond.methodLink RX7 90 yX6_useOf ∈ bigL := bgm (tm_2 _ (List.mem_of_getElem? (i := 152) rfl)) rfl
theorem bw_2_153 : Cond.instanceMethod yX6_useOf ∈ bigL := bgm (tm_2 _ (List.mem_of_getElem? (i := 153) rfl)) rfl
theorem bw_2_154 : Cond.selects RX6 yX6_useOf yX6_useOf ∈ bigL := bgm (tm_2 _ (List.mem_of_getElem? (i := 154) rfl)) rfl
theorem bw_2_155 : Cond.code yX6_useOf cX6_useOf 4 (some .int) ∈ bigL := bgm (tm_2 _ (List.mem_of_getElem? (i := 155) rfl)) rfl
theorem bw_1_100 : Cond.fieldLink RX6 75 "BondedStore$Lot" "owner" "I" ∈ bigL := bgm (tm_1 _ (List.mem_of_getElem? (i := 100) rfl)) rfl
theorem bw_2_156 : Cond.methodLink RX6 78 yX2_suspended ∈ bigL := bgm (tm_2 _ (List.mem_of_getElem? (i := 156) rfl)) rfl
theorem bw_2_157 : Cond.instanceMethod yX2_suspended ∈ bigL := bgm (tm_2 _ (List.mem_of_getElem? (i := 157) rfl)) rfl
theorem bw_2_158 : Cond.selects RX2 yX2_suspended yX2_suspended ∈ bigL := bgm (tm_2 _ (List.mem_of_getElem? (i := 158) rfl)) rfl
theorem bw_2_159 : Cond.code yX2_suspended cX2_suspended 1 (some .int) ∈ bigL := bgm (tm_2 _ (List.mem_of_getElem? (i := 159) rfl)) rfl
theorem bw_2_160 : Cond.methodLink RX7 93 yX5_covers ∈ bigL := bgm (tm_2 _ (List.mem_of_getElem? (i := 160) rfl)) rfl
theorem bw_2_161 : Cond.instanceMethod yX5_covers ∈ bigL := bgm (tm_2 _ (List.mem_of_getElem? (i := 161) rfl)) rfl
theorem bw_2_162 : Cond.selects RX5 yX5_covers yX5_covers ∈ bigL := bgm (tm_2 _ (List.mem_of_getElem? (i := 162) rfl)) rfl
theorem bw_2_163 : Cond.code yX5_covers cX5_covers 3 (some .boolean) ∈ bigL := bgm (tm_2 _ (List.mem_of_getElem? (i := 163) rfl)) rfl
theorem bw_2_164 : Cond.constantLong RX5 39 (100) ∈ bigL := bgm (tm_2 _ (List.mem_of_getElem? (i := 164) rfl)) rfl
theorem bw_2_165 : Cond.methodLink RX7 99 yX7_refuse ∈ bigL := bgm (tm_2 _ (List.mem_of_getElem? (i := 165) rfl)) rfl
theorem bw_2_167 : Cond.instanceMethod yX7_refuse ∈ bigL := bgm (tm_2 _ (List.mem_of_getElem? (i := 167) rfl)) rfl
theorem bs_1 : Cond.selects RX7 yX7_refuse yX7_refuse ∈ bigL := bgm (List.mem_append_left _ (List.mem_of_getElem? (i := 1) rfl)) rfl
theorem bw_2_168 : Cond.code yX7_refuse cX7_refuse 2 (some .int) ∈ bigL := bgm (tm_2 _ (List.mem_of_getElem? (i := 168) rfl)) rfl
theorem bw_2_169 : Cond.constant RX7 354 (-100000003) ∈ bigL := bgm (tm_2 _ (List.mem_of_getElem? (i := 169) rfl)) rfl
theorem bw_5_78 : Cond.methodLink RL 26 yX8_setGuarantee ∈ bigL := bgm (tm_5 _ (List.mem_of_getElem? (i := 78) rfl)) rfl
theorem bw_5_79 : Cond.instanceMethod yX8_setGuarantee ∈ bigL := bgm (tm_5 _ (List.mem_of_getElem? (i := 79) rfl)) rfl
theorem bw_5_80 : Cond.selects RX8 yX8_setGuarantee yX8_setGuarantee ∈ bigL := bgm (tm_5 _ (List.mem_of_getElem? (i := 80) rfl)) rfl
theorem bw_5_81 : Cond.code yX8_setGuarantee cX8_setGuarantee 4 (some .int) ∈ bigL := bgm (tm_5 _ (List.mem_of_getElem? (i := 81) rfl)) rfl
theorem bw_5_82 : Cond.constantLong RX8 104 (100000000) ∈ bigL := bgm (tm_5 _ (List.mem_of_getElem? (i := 82) rfl)) rfl
theorem bw_5_83 : Cond.methodLink RX8 106 yX8_use ∈ bigL := bgm (tm_5 _ (List.mem_of_getElem? (i := 83) rfl)) rfl
theorem bw_5_85 : Cond.instanceMethod yX8_use ∈ bigL := bgm (tm_5 _ (List.mem_of_getElem? (i := 85) rfl)) rfl
theorem bs_23 : Cond.selects RX8 yX8_use yX8_use ∈ bigL := bgm (List.mem_append_left _ (List.mem_of_getElem? (i := 23) rfl)) rfl
theorem bw_5_86 : Cond.code yX8_use cX8_use 5 (some .long) ∈ bigL := bgm (tm_5 _ (List.mem_of_getElem? (i := 86) rfl)) rfl
theorem bw_5_87 : Cond.methodLink RX8 65 yX8_lotAt ∈ bigL := bgm (tm_5 _ (List.mem_of_getElem? (i := 87) rfl)) rfl
theorem bw_5_88 : Cond.static yX8_lotAt ∈ bigL := bgm (tm_5 _ (List.mem_of_getElem? (i := 88) rfl)) rfl
theorem bw_5_89 : Cond.code yX8_lotAt cX8_lotAt 1 (some .int) ∈ bigL := bgm (tm_5 _ (List.mem_of_getElem? (i := 89) rfl)) rfl
theorem bw_5_90 : Cond.methodLink RX8 91 yX8_suspended ∈ bigL := bgm (tm_5 _ (List.mem_of_getElem? (i := 90) rfl)) rfl
theorem bw_5_92 : Cond.instanceMethod yX8_suspended ∈ bigL := bgm (tm_5 _ (List.mem_of_getElem? (i := 92) rfl)) rfl
theorem bs_24 : Cond.selects RX8 yX8_suspended yX8_suspended ∈ bigL := bgm (List.mem_append_left _ (List.mem_of_getElem? (i := 24) rfl)) rfl
theorem bw_5_93 : Cond.code yX8_suspended cX8_suspended 2 (some .long) ∈ bigL := bgm (tm_5 _ (List.mem_of_getElem? (i := 93) rfl)) rfl
theorem bw_5_94 : Cond.methodLink RX8 79 yX8_units ∈ bigL := bgm (tm_5 _ (List.mem_of_getElem? (i := 94) rfl)) rfl
theorem bw_5_96 : Cond.instanceMethod yX8_units ∈ bigL := bgm (tm_5 _ (List.mem_of_getElem? (i := 96) rfl)) rfl
theorem bs_25 : Cond.selects RX8 yX8_units yX8_units ∈ bigL := bgm (List.mem_append_left _ (List.mem_of_getElem? (i := 25) rfl)) rfl
theorem bw_5_97 : Cond.code yX8_units cX8_units 2 (some .long) ∈ bigL := bgm (tm_5 _ (List.mem_of_getElem? (i := 97) rfl)) rfl
theorem bw_5_98 : Cond.methodLink RX8 83 yX8_dutyNow ∈ bigL := bgm (tm_5 _ (List.mem_of_getElem? (i := 98) rfl)) rfl
theorem bw_5_100 : Cond.instanceMethod yX8_dutyNow ∈ bigL := bgm (tm_5 _ (List.mem_of_getElem? (i := 100) rfl)) rfl
theorem bs_26 : Cond.selects RX8 yX8_dutyNow yX8_dutyNow ∈ bigL := bgm (List.mem_append_left _ (List.mem_of_getElem? (i := 26) rfl)) rfl
theorem bw_5_101 : Cond.code yX8_dutyNow cX8_dutyNow 4 (some .long) ∈ bigL := bgm (tm_5 _ (List.mem_of_getElem? (i := 101) rfl)) rfl
theorem bw_5_102 : Cond.methodLink RX8 68 yX8_duty ∈ bigL := bgm (tm_5 _ (List.mem_of_getElem? (i := 102) rfl)) rfl
theorem bw_5_104 : Cond.instanceMethod yX8_duty ∈ bigL := bgm (tm_5 _ (List.mem_of_getElem? (i := 104) rfl)) rfl
theorem bs_27 : Cond.selects RX8 yX8_duty yX8_duty ∈ bigL := bgm (List.mem_append_left _ (List.mem_of_getElem? (i := 27) rfl)) rfl
theorem bw_5_105 : Cond.code yX8_duty cX8_duty 10 (some .long) ∈ bigL := bgm (tm_5 _ (List.mem_of_getElem? (i := 105) rfl)) rfl
theorem bw_5_106 : Cond.methodLink RX8 87 yX8_waiting ∈ bigL := bgm (tm_5 _ (List.mem_of_getElem? (i := 106) rfl)) rfl
theorem bw_5_108 : Cond.instanceMethod yX8_waiting ∈ bigL := bgm (tm_5 _ (List.mem_of_getElem? (i := 108) rfl)) rfl
theorem bs_28 : Cond.selects RX8 yX8_waiting yX8_waiting ∈ bigL := bgm (List.mem_append_left _ (List.mem_of_getElem? (i := 28) rfl)) rfl
theorem bw_5_109 : Cond.code yX8_waiting cX8_waiting 6 (some .long) ∈ bigL := bgm (tm_5 _ (List.mem_of_getElem? (i := 109) rfl)) rfl
theorem bw_5_110 : Cond.methodLink RX8 75 yX8_waits ∈ bigL := bgm (tm_5 _ (List.mem_of_getElem? (i := 110) rfl)) rfl
theorem bw_5_112 : Cond.instanceMethod yX8_waits ∈ bigL := bgm (tm_5 _ (List.mem_of_getElem? (i := 112) rfl)) rfl
theorem bs_29 : Cond.selects RX8 yX8_waits yX8_waits ∈ bigL := bgm (List.mem_append_left _ (List.mem_of_getElem? (i := 29) rfl)) rfl
theorem bw_5_113 : Cond.code yX8_waits cX8_waits 2 (some .boolean) ∈ bigL := bgm (tm_5 _ (List.mem_of_getElem? (i := 113) rfl)) rfl
theorem bw_5_114 : Cond.methodLink RX8 72 yX8_exportAt ∈ bigL := bgm (tm_5 _ (List.mem_of_getElem? (i := 114) rfl)) rfl
theorem bw_5_115 : Cond.static yX8_exportAt ∈ bigL := bgm (tm_5 _ (List.mem_of_getElem? (i := 115) rfl)) rfl
theorem bw_5_116 : Cond.code yX8_exportAt cX8_exportAt 1 (some .int) ∈ bigL := bgm (tm_5 _ (List.mem_of_getElem? (i := 116) rfl)) rfl
theorem bw_5_117 : Cond.methodLink RX8 109 yX8_isCovered ∈ bigL := bgm (tm_5 _ (List.mem_of_getElem? (i := 117) rfl)) rfl
theorem bw_5_119 : Cond.instanceMethod yX8_isCovered ∈ bigL := bgm (tm_5 _ (List.mem_of_getElem? (i := 119) rfl)) rfl
theorem bs_30 : Cond.selects RX8 yX8_isCovered yX8_isCovered ∈ bigL := bgm (List.mem_append_left _ (List.mem_of_getElem? (i := 30) rfl)) rfl
theorem bw_5_120 : Cond.code yX8_isCovered cX8_isCovered 5 (some .boolean) ∈ bigL := bgm (tm_5 _ (List.mem_of_getElem? (i := 120) rfl)) rfl
theorem bw_5_121 : Cond.methodLink RX8 113 yX8_refuse ∈ bigL := bgm (tm_5 _ (List.mem_of_getElem? (i := 121) rfl)) rfl
theorem bw_5_123 : Cond.instanceMethod yX8_refuse ∈ bigL := bgm (tm_5 _ (List.mem_of_getElem? (i := 123) rfl)) rfl
theorem bs_31 : Cond.selects RX8 yX8_refuse yX8_refuse ∈ bigL := bgm (List.mem_append_left _ (List.mem_of_getElem? (i := 31) rfl)) rfl
theorem bw_5_124 : Cond.code yX8_refuse cX8_refuse 2 (some .int) ∈ bigL := bgm (tm_5 _ (List.mem_of_getElem? (i := 124) rfl)) rfl
theorem bw_4_232 : Cond.fieldLink RX8 59 "BondedStoreModel" "reason" "I" ∈ bigL := bgm (tm_4 _ (List.mem_of_getElem? (i := 232) rfl)) rfl
theorem bw_5_125 : Cond.constant RX8 62 (-100000003) ∈ bigL := bgm (tm_5 _ (List.mem_of_getElem? (i := 125) rfl)) rfl
theorem bw_2_170 : Cond.methodLink RL 27 yX7_setRate ∈ bigL := bgm (tm_2 _ (List.mem_of_getElem? (i := 170) rfl)) rfl
theorem bw_2_171 : Cond.instanceMethod yX7_setRate ∈ bigL := bgm (tm_2 _ (List.mem_of_getElem? (i := 171) rfl)) rfl
theorem bw_2_172 : Cond.selects RX7 yX7_setRate yX7_setRate ∈ bigL := bgm (tm_2 _ (List.mem_of_getElem? (i := 172) rfl)) rfl
theorem bw_2_173 : Cond.code yX7_setRate cX7_setRate 4 (some .int) ∈ bigL := bgm (tm_2 _ (List.mem_of_getElem? (i := 173) rfl)) rfl
theorem bw_1_42 : Cond.fieldLink RX7 105 "BondedStore$Settings" "rates" "[I" ∈ bigL := bgm (tm_1 _ (List.mem_of_getElem? (i := 42) rfl)) rfl
theorem bw_5_126 : Cond.methodLink RL 30 yX8_setRate ∈ bigL := bgm (tm_5 _ (List.mem_of_getElem? (i := 126) rfl)) rfl
theorem bw_5_127 : Cond.instanceMethod yX8_setRate ∈ bigL := bgm (tm_5 _ (List.mem_of_getElem? (i := 127) rfl)) rfl
theorem bw_5_128 : Cond.selects RX8 yX8_setRate yX8_setRate ∈ bigL := bgm (tm_5 _ (List.mem_of_getElem? (i := 128) rfl)) rfl
theorem bw_5_129 : Cond.code yX8_setRate cX8_setRate 4 (some .int) ∈ bigL := bgm (tm_5 _ (List.mem_of_getElem? (i := 129) rfl)) rfl
theorem bw_5_133 : Cond.constantLong RX8 119 (1000) ∈ bigL := bgm (tm_5 _ (List.mem_of_getElem? (i := 133) rfl)) rfl
theorem bw_5_130 : Cond.methodLink RX8 116 yX8_noKind ∈ bigL := bgm (tm_5 _ (List.mem_of_getElem? (i := 130) rfl)) rfl
theorem bw_5_131 : Cond.static yX8_noKind ∈ bigL := bgm (tm_5 _ (List.mem_of_getElem? (i := 131) rfl)) rfl
theorem bw_5_132 : Cond.code yX8_noKind cX8_noKind 1 (some .boolean) ∈ bigL := bgm (tm_5 _ (List.mem_of_getElem? (i := 132) rfl)) rfl
theorem bw_2_174 : Cond.methodLink RL 31 yX7_setTerms ∈ bigL := bgm (tm_2 _ (List.mem_of_getElem? (i := 174) rfl)) rfl
theorem bw_2_175 : Cond.instanceMethod yX7_setTerms ∈ bigL := bgm (tm_2 _ (List.mem_of_getElem? (i := 175) rfl)) rfl
theorem bw_2_176 : Cond.selects RX7 yX7_setTerms yX7_setTerms ∈ bigL := bgm (tm_2 _ (List.mem_of_getElem? (i := 176) rfl)) rfl
theorem bw_2_177 : Cond.code yX7_setTerms cX7_setTerms 4 (some .int) ∈ bigL := bgm (tm_2 _ (List.mem_of_getElem? (i := 177) rfl)) rfl
theorem bw_1_44 : Cond.fieldLink RX7 109 "BondedStore$Settings" "term" "I" ∈ bigL := bgm (tm_1 _ (List.mem_of_getElem? (i := 44) rfl)) rfl
theorem bw_1_46 : Cond.fieldLink RX7 112 "BondedStore$Settings" "proof" "I" ∈ bigL := bgm (tm_1 _ (List.mem_of_getElem? (i := 46) rfl)) rfl
theorem bw_5_134 : Cond.methodLink RL 34 yX8_setTerms ∈ bigL := bgm (tm_5 _ (List.mem_of_getElem? (i := 134) rfl)) rfl
theorem bw_5_135 : Cond.instanceMethod yX8_setTerms ∈ bigL := bgm (tm_5 _ (List.mem_of_getElem? (i := 135) rfl)) rfl
theorem bw_5_136 : Cond.selects RX8 yX8_setTerms yX8_setTerms ∈ bigL := bgm (tm_5 _ (List.mem_of_getElem? (i := 136) rfl)) rfl
theorem bw_5_137 : Cond.code yX8_setTerms cX8_setTerms 4 (some .int) ∈ bigL := bgm (tm_5 _ (List.mem_of_getElem? (i := 137) rfl)) rfl
theorem bw_5_138 : Cond.constantLong RX8 121 (200) ∈ bigL := bgm (tm_5 _ (List.mem_of_getElem? (i := 138) rfl)) rfl
theorem bw_2_178 : Cond.methodLink RL 35 yX7_setRules ∈ bigL := bgm (tm_2 _ (List.mem_of_getElem? (i := 178) rfl)) rfl
theorem bw_2_179 : Cond.instanceMethod yX7_setRules ∈ bigL := bgm (tm_2 _ (List.mem_of_getElem? (i := 179) rfl)) rfl
theorem bw_2_180 : Cond.selects RX7 yX7_setRules yX7_setRules ∈ bigL := bgm (tm_2 _ (List.mem_of_getElem? (i := 180) rfl)) rfl
theorem bw_2_181 : Cond.code yX7_setRules cX7_setRules 5 (some .int) ∈ bigL := bgm (tm_2 _ (List.mem_of_getElem? (i := 181) rfl)) rfl
theorem bw_1_48 : Cond.fieldLink RX7 115 "BondedStore$Settings" "cover" "I" ∈ bigL := bgm (tm_1 _ (List.mem_of_getElem? (i := 48) rfl)) rfl
theorem bw_1_50 : Cond.fieldLink RX7 118 "BondedStore$Settings" "allowance" "I" ∈ bigL := bgm (tm_1 _ (List.mem_of_getElem? (i := 50) rfl)) rfl
theorem bw_1_52 : Cond.fieldLink RX7 121 "BondedStore$Settings" "fee" "I" ∈ bigL := bgm (tm_1 _ (List.mem_of_getElem? (i := 52) rfl)) rfl
theorem bw_5_139 : Cond.methodLink RL 39 yX8_setRules ∈ bigL := bgm (tm_5 _ (List.mem_of_getElem? (i := 139) rfl)) rfl
theorem bw_5_140 : Cond.instanceMethod yX8_setRules ∈ bigL := bgm (tm_5 _ (List.mem_of_getElem? (i := 140) rfl)) rfl
theorem bw_5_141 : Cond.selects RX8 yX8_setRules yX8_setRules ∈ bigL := bgm (tm_5 _ (List.mem_of_getElem? (i := 141) rfl)) rfl
theorem bw_5_142 : Cond.code yX8_setRules cX8_setRules 5 (some .int) ∈ bigL := bgm (tm_5 _ (List.mem_of_getElem? (i := 142) rfl)) rfl
theorem bw_2_182 : Cond.methodLink RL 40 yX7_enter ∈ bigL := bgm (tm_2 _ (List.mem_of_getElem? (i := 182) rfl)) rfl
theorem bw_2_183 : Cond.instanceMethod yX7_enter ∈ bigL := bgm (tm_2 _ (List.mem_of_getElem? (i := 183) rfl)) rfl
theorem bw_2_184 : Cond.selects RX7 yX7_enter yX7_enter ∈ bigL := bgm (tm_2 _ (List.mem_of_getElem? (i := 184) rfl)) rfl
theorem bw_2_185 : Cond.code yX7_enter cX7_enter 5 (some .int) ∈ bigL := bgm (tm_2 _ (List.mem_of_getElem? (i := 185) rfl)) rfl
theorem bw_2_186 : Cond.methodLink RX7 124 yX7_enterLot ∈ bigL := bgm (tm_2 _ (List.mem_of_getElem? (i := 186) rfl)) rfl
theorem bw_2_188 : Cond.instanceMethod yX7_enterLot ∈ bigL := bgm (tm_2 _ (List.mem_of_getElem? (i := 188) rfl)) rfl
theorem bs_2 : Cond.selects RX7 yX7_enterLot yX7_enterLot ∈ bigL := bgm (List.mem_append_left _ (List.mem_of_getElem? (i := 2) rfl)) rfl
theorem bw_2_189 : Cond.code yX7_enterLot cX7_enterLot 9 (some .int) ∈ bigL := bgm (tm_2 _ (List.mem_of_getElem? (i := 189) rfl)) rfl
theorem bw_2_190 : Cond.constant RX7 306 (1000000) ∈ bigL := bgm (tm_2 _ (List.mem_of_getElem? (i := 190) rfl)) rfl
theorem bw_1_191 : Cond.fieldLink RX7 175 "BondedStore$State" "lotCount" "I" ∈ bigL := bgm (tm_1 _ (List.mem_of_getElem? (i := 191) rfl)) rfl
theorem bw_1_185 : Cond.fieldLink RX7 268 "BondedStore$State" "lots" "[LBondedStore$Lot;" ∈ bigL := bgm (tm_1 _ (List.mem_of_getElem? (i := 185) rfl)) rfl
theorem bw_1_101 : Cond.fieldLink RX7 195 "BondedStore$Lot" "owner" "I" ∈ bigL := bgm (tm_1 _ (List.mem_of_getElem? (i := 101) rfl)) rfl
theorem bw_1_103 : Cond.fieldLink RX7 200 "BondedStore$Lot" "kind" "I" ∈ bigL := bgm (tm_1 _ (List.mem_of_getElem? (i := 103) rfl)) rfl
theorem bw_1_106 : Cond.fieldLink RX7 203 "BondedStore$Lot" "quantity" "I" ∈ bigL := bgm (tm_1 _ (List.mem_of_getElem? (i := 106) rfl)) rfl
theorem bw_1_108 : Cond.fieldLink RX7 206 "BondedStore$Lot" "value" "I" ∈ bigL := bgm (tm_1 _ (List.mem_of_getElem? (i := 108) rfl)) rfl
theorem bw_1_197 : Cond.fieldLink RX7 265 "BondedStore$State" "day" "I" ∈ bigL := bgm (tm_1 _ (List.mem_of_getElem? (i := 197) rfl)) rfl
theorem bw_1_110 : Cond.fieldLink RX7 209 "BondedStore$Lot" "entered" "I" ∈ bigL := bgm (tm_1 _ (List.mem_of_getElem? (i := 110) rfl)) rfl
theorem bw_1_112 : Cond.fieldLink RX7 212 "BondedStore$Lot" "deadline" "I" ∈ bigL := bgm (tm_1 _ (List.mem_of_getElem? (i := 112) rfl)) rfl
theorem bw_1_114 : Cond.fieldLink RX7 215 "BondedStore$Lot" "due" "I" ∈ bigL := bgm (tm_1 _ (List.mem_of_getElem? (i := 114) rfl)) rfl
theorem bw_1_117 : Cond.fieldLink RX7 218 "BondedStore$Lot" "stored" "I" ∈ bigL := bgm (tm_1 _ (List.mem_of_getElem? (i := 117) rfl)) rfl
theorem bw_2_191 : Cond.methodLink RX7 288 yX5_dutyOf ∈ bigL := bgm (tm_2 _ (List.mem_of_getElem? (i := 191) rfl)) rfl
theorem bw_2_192 : Cond.instanceMethod yX5_dutyOf ∈ bigL := bgm (tm_2 _ (List.mem_of_getElem? (i := 192) rfl)) rfl
theorem bw_2_193 : Cond.selects RX5 yX5_dutyOf yX5_dutyOf ∈ bigL := bgm (tm_2 _ (List.mem_of_getElem? (i := 193) rfl)) rfl
theorem bw_2_194 : Cond.code yX5_dutyOf cX5_dutyOf 3 (some .int) ∈ bigL := bgm (tm_2 _ (List.mem_of_getElem? (i := 194) rfl)) rfl
theorem bw_2_195 : Cond.constantLong RX5 37 (1000) ∈ bigL := bgm (tm_2 _ (List.mem_of_getElem? (i := 195) rfl)) rfl
theorem bw_5_143 : Cond.methodLink RL 44 yX8_enter ∈ bigL := bgm (tm_5 _ (List.mem_of_getElem? (i := 143) rfl)) rfl
theorem bw_5_144 : Cond.instanceMethod yX8_enter ∈ bigL := bgm (tm_5 _ (List.mem_of_getElem? (i := 144) rfl)) rfl
theorem bw_5_145 : Cond.selects RX8 yX8_enter yX8_enter ∈ bigL := bgm (tm_5 _ (List.mem_of_getElem? (i := 145) rfl)) rfl
theorem bw_5_146 : Cond.code yX8_enter cX8_enter 6 (some .int) ∈ bigL := bgm (tm_5 _ (List.mem_of_getElem? (i := 146) rfl)) rfl
theorem bw_5_147 : Cond.methodLink RX8 159 yX8_checkEnter ∈ bigL := bgm (tm_5 _ (List.mem_of_getElem? (i := 147) rfl)) rfl
theorem bw_5_149 : Cond.instanceMethod yX8_checkEnter ∈ bigL := bgm (tm_5 _ (List.mem_of_getElem? (i := 149) rfl)) rfl
theorem bs_32 : Cond.selects RX8 yX8_checkEnter yX8_checkEnter ∈ bigL := bgm (List.mem_append_left _ (List.mem_of_getElem? (i := 32) rfl)) rfl
theorem bw_5_150 : Cond.code yX8_checkEnter cX8_checkEnter 5 (some .int) ∈ bigL := bgm (tm_5 _ (List.mem_of_getElem? (i := 150) rfl)) rfl
theorem bw_5_151 : Cond.methodLink RX8 125 yX8_areUnits ∈ bigL := bgm (tm_5 _ (List.mem_of_getElem? (i := 151) rfl)) rfl
theorem bw_5_152 : Cond.static yX8_areUnits ∈ bigL := bgm (tm_5 _ (List.mem_of_getElem? (i := 152) rfl)) rfl
theorem bw_5_153 : Cond.code yX8_areUnits cX8_areUnits 1 (some .boolean) ∈ bigL := bgm (tm_5 _ (List.mem_of_getElem? (i := 153) rfl)) rfl
theorem bw_5_154 : Cond.constantLong RX8 123 (1000000) ∈ bigL := bgm (tm_5 _ (List.mem_of_getElem? (i := 154) rfl)) rfl
theorem bw_5_155 : Cond.methodLink RX8 163 yX8_enters ∈ bigL := bgm (tm_5 _ (List.mem_of_getElem? (i := 155) rfl)) rfl
theorem bw_5_157 : Cond.instanceMethod yX8_enters ∈ bigL := bgm (tm_5 _ (List.mem_of_getElem? (i := 157) rfl)) rfl
theorem bs_33 : Cond.selects RX8 yX8_enters yX8_enters ∈ bigL := bgm (List.mem_append_left _ (List.mem_of_getElem? (i := 33) rfl)) rfl
theorem bw_5_158 : Cond.code yX8_enters cX8_enters 8 (some .int) ∈ bigL := bgm (tm_5 _ (List.mem_of_getElem? (i := 158) rfl)) rfl
theorem bw_2_196 : Cond.methodLink RL 45 yX7_release ∈ bigL := bgm (tm_2 _ (List.mem_of_getElem? (i := 196) rfl)) rfl
theorem bw_2_197 : Cond.instanceMethod yX7_release ∈ bigL := bgm (tm_2 _ (List.mem_of_getElem? (i := 197) rfl)) rfl
theorem bw_2_198 : Cond.selects RX7 yX7_release yX7_release ∈ bigL := bgm (tm_2 _ (List.mem_of_getElem? (i := 198) rfl)) rfl
theorem bw_2_199 : Cond.code yX7_release cX7_release 3 (some .int) ∈ bigL := bgm (tm_2 _ (List.mem_of_getElem? (i := 199) rfl)) rfl
theorem bw_2_200 : Cond.methodLink RX7 128 yX7_releaseUnits ∈ bigL := bgm (tm_2 _ (List.mem_of_getElem? (i := 200) rfl)) rfl
theorem bw_2_202 : Cond.instanceMethod yX7_releaseUnits ∈ bigL := bgm (tm_2 _ (List.mem_of_getElem? (i := 202) rfl)) rfl
theorem bs_3 : Cond.selects RX7 yX7_releaseUnits yX7_releaseUnits ∈ bigL := bgm (List.mem_append_left _ (List.mem_of_getElem? (i := 3) rfl)) rfl
theorem bw_2_203 : Cond.code yX7_releaseUnits cX7_releaseUnits 7 (some .int) ∈ bigL := bgm (tm_2 _ (List.mem_of_getElem? (i := 203) rfl)) rfl
theorem bw_1_75 : Cond.fieldLink RX7 180 "BondedStore$Owner" "cash" "J" ∈ bigL := bgm (tm_1 _ (List.mem_of_getElem? (i := 75) rfl)) rfl
theorem bw_1_120 : Cond.fieldLink RX7 224 "BondedStore$Lot" "paid" "I" ∈ bigL := bgm (tm_1 _ (List.mem_of_getElem? (i := 120) rfl)) rfl
theorem bw_2_204 : Cond.methodLink RX7 191 yX6_findLot ∈ bigL := bgm (tm_2 _ (List.mem_of_getElem? (i := 204) rfl)) rfl
theorem bw_2_205 : Cond.instanceMethod yX6_findLot ∈ bigL := bgm (tm_2 _ (List.mem_of_getElem? (i := 205) rfl)) rfl
theorem bw_2_206 : Cond.selects RX6 yX6_findLot yX6_findLot ∈ bigL := bgm (tm_2 _ (List.mem_of_getElem? (i := 206) rfl)) rfl
theorem bw_2_207 : Cond.code yX6_findLot cX6_findLot 2 (some (.object "BondedStore$Lot")) ∈ bigL := bgm (tm_2 _ (List.mem_of_getElem? (i := 207) rfl)) rfl
theorem bw_2_208 : Cond.methodLink RX7 307 yX7_errorOfTaking ∈ bigL := bgm (tm_2 _ (List.mem_of_getElem? (i := 208) rfl)) rfl
theorem bw_2_210 : Cond.instanceMethod yX7_errorOfTaking ∈ bigL := bgm (tm_2 _ (List.mem_of_getElem? (i := 210) rfl)) rfl
theorem bs_4 : Cond.selects RX7 yX7_errorOfTaking yX7_errorOfTaking ∈ bigL := bgm (List.mem_append_left _ (List.mem_of_getElem? (i := 4) rfl)) rfl
theorem bw_2_211 : Cond.code yX7_errorOfTaking cX7_errorOfTaking 3 (some .int) ∈ bigL := bgm (tm_2 _ (List.mem_of_getElem? (i := 211) rfl)) rfl
theorem bw_2_212 : Cond.methodLink RX7 311 yX2_dutyOfNext ∈ bigL := bgm (tm_2 _ (List.mem_of_getElem? (i := 212) rfl)) rfl
theorem bw_2_213 : Cond.instanceMethod yX2_dutyOfNext ∈ bigL := bgm (tm_2 _ (List.mem_of_getElem? (i := 213) rfl)) rfl
theorem bw_2_214 : Cond.selects RX2 yX2_dutyOfNext yX2_dutyOfNext ∈ bigL := bgm (tm_2 _ (List.mem_of_getElem? (i := 214) rfl)) rfl
theorem bw_2_215 : Cond.code yX2_dutyOfNext cX2_dutyOfNext 4 (some .int) ∈ bigL := bgm (tm_2 _ (List.mem_of_getElem? (i := 215) rfl)) rfl
theorem bw_2_216 : Cond.methodLink RX2 47 yX2_dutyOfFirst ∈ bigL := bgm (tm_2 _ (List.mem_of_getElem? (i := 216) rfl)) rfl
theorem bw_2_218 : Cond.instanceMethod yX2_dutyOfFirst ∈ bigL := bgm (tm_2 _ (List.mem_of_getElem? (i := 218) rfl)) rfl
theorem bs_5 : Cond.selects RX2 yX2_dutyOfFirst yX2_dutyOfFirst ∈ bigL := bgm (List.mem_append_left _ (List.mem_of_getElem? (i := 5) rfl)) rfl
theorem bw_2_219 : Cond.code yX2_dutyOfFirst cX2_dutyOfFirst 2 (some .int) ∈ bigL := bgm (tm_2 _ (List.mem_of_getElem? (i := 219) rfl)) rfl
theorem bw_5_159 : Cond.methodLink RL 48 yX8_release ∈ bigL := bgm (tm_5 _ (List.mem_of_getElem? (i := 159) rfl)) rfl
theorem bw_5_160 : Cond.instanceMethod yX8_release ∈ bigL := bgm (tm_5 _ (List.mem_of_getElem? (i := 160) rfl)) rfl
theorem bw_5_161 : Cond.selects RX8 yX8_release yX8_release ∈ bigL := bgm (tm_5 _ (List.mem_of_getElem? (i := 161) rfl)) rfl
theorem bw_5_162 : Cond.code yX8_release cX8_release 4 (some .int) ∈ bigL := bgm (tm_5 _ (List.mem_of_getElem? (i := 162) rfl)) rfl
theorem bw_5_163 : Cond.methodLink RX8 166 yX8_checkRelease ∈ bigL := bgm (tm_5 _ (List.mem_of_getElem? (i := 163) rfl)) rfl
theorem bw_5_165 : Cond.instanceMethod yX8_checkRelease ∈ bigL := bgm (tm_5 _ (List.mem_of_getElem? (i := 165) rfl)) rfl
theorem bs_34 : Cond.selects RX8 yX8_checkRelease yX8_checkRelease ∈ bigL := bgm (List.mem_append_left _ (List.mem_of_getElem? (i := 34) rfl)) rfl
theorem bw_5_166 : Cond.code yX8_checkRelease cX8_checkRelease 4 (some .int) ∈ bigL := bgm (tm_5 _ (List.mem_of_getElem? (i := 166) rfl)) rfl
theorem bw_5_167 : Cond.methodLink RX8 131 yX8_checkUnits ∈ bigL := bgm (tm_5 _ (List.mem_of_getElem? (i := 167) rfl)) rfl
theorem bw_5_169 : Cond.instanceMethod yX8_checkUnits ∈ bigL := bgm (tm_5 _ (List.mem_of_getElem? (i := 169) rfl)) rfl
theorem bs_35 : Cond.selects RX8 yX8_checkUnits yX8_checkUnits ∈ bigL := bgm (List.mem_append_left _ (List.mem_of_getElem? (i := 35) rfl)) rfl
theorem bw_5_170 : Cond.code yX8_checkUnits cX8_checkUnits 3 (some .int) ∈ bigL := bgm (tm_5 _ (List.mem_of_getElem? (i := 170) rfl)) rfl
theorem bw_5_171 : Cond.methodLink RX8 128 yX8_noLot ∈ bigL := bgm (tm_5 _ (List.mem_of_getElem? (i := 171) rfl)) rfl
theorem bw_5_173 : Cond.instanceMethod yX8_noLot ∈ bigL := bgm (tm_5 _ (List.mem_of_getElem? (i := 173) rfl)) rfl
theorem bs_36 : Cond.selects RX8 yX8_noLot yX8_noLot ∈ bigL := bgm (List.mem_append_left _ (List.mem_of_getElem? (i := 36) rfl)) rfl
theorem bw_5_174 : Cond.code yX8_noLot cX8_noLot 2 (some .boolean) ∈ bigL := bgm (tm_5 _ (List.mem_of_getElem? (i := 174) rfl)) rfl
theorem bw_5_175 : Cond.methodLink RX8 135 yX8_cash ∈ bigL := bgm (tm_5 _ (List.mem_of_getElem? (i := 175) rfl)) rfl
theorem bw_5_177 : Cond.instanceMethod yX8_cash ∈ bigL := bgm (tm_5 _ (List.mem_of_getElem? (i := 177) rfl)) rfl
theorem bs_37 : Cond.selects RX8 yX8_cash yX8_cash ∈ bigL := bgm (List.mem_append_left _ (List.mem_of_getElem? (i := 37) rfl)) rfl
theorem bw_5_178 : Cond.code yX8_cash cX8_cash 2 (some .long) ∈ bigL := bgm (tm_5 _ (List.mem_of_getElem? (i := 178) rfl)) rfl
theorem bw_5_179 : Cond.methodLink RX8 169 yX8_releases ∈ bigL := bgm (tm_5 _ (List.mem_of_getElem? (i := 179) rfl)) rfl
theorem bw_5_181 : Cond.instanceMethod yX8_releases ∈ bigL := bgm (tm_5 _ (List.mem_of_getElem? (i := 181) rfl)) rfl
theorem bs_38 : Cond.selects RX8 yX8_releases yX8_releases ∈ bigL := bgm (List.mem_append_left _ (List.mem_of_getElem? (i := 38) rfl)) rfl
theorem bw_5_182 : Cond.code yX8_releases cX8_releases 5 (some .int) ∈ bigL := bgm (tm_5 _ (List.mem_of_getElem? (i := 182) rfl)) rfl
theorem bw_5_183 : Cond.methodLink RX8 138 yX8_take ∈ bigL := bgm (tm_5 _ (List.mem_of_getElem? (i := 183) rfl)) rfl
theorem bw_5_185 : Cond.instanceMethod yX8_take ∈ bigL := bgm (tm_5 _ (List.mem_of_getElem? (i := 185) rfl)) rfl
theorem bs_39 : Cond.selects RX8 yX8_take yX8_take ∈ bigL := bgm (List.mem_append_left _ (List.mem_of_getElem? (i := 39) rfl)) rfl
theorem bw_5_186 : Cond.code yX8_take cX8_take 4 none ∈ bigL := bgm (tm_5 _ (List.mem_of_getElem? (i := 186) rfl)) rfl
theorem bw_5_187 : Cond.methodLink RX8 142 yX8_pay ∈ bigL := bgm (tm_5 _ (List.mem_of_getElem? (i := 187) rfl)) rfl
theorem bw_5_189 : Cond.instanceMethod yX8_pay ∈ bigL := bgm (tm_5 _ (List.mem_of_getElem? (i := 189) rfl)) rfl
theorem bs_40 : Cond.selects RX8 yX8_pay yX8_pay ∈ bigL := bgm (List.mem_append_left _ (List.mem_of_getElem? (i := 40) rfl)) rfl
theorem bw_5_190 : Cond.code yX8_pay cX8_pay 4 none ∈ bigL := bgm (tm_5 _ (List.mem_of_getElem? (i := 190) rfl)) rfl
theorem bw_2_220 : Cond.methodLink RL 49 yX7_sample ∈ bigL := bgm (tm_2 _ (List.mem_of_getElem? (i := 220) rfl)) rfl
theorem bw_2_221 : Cond.instanceMethod yX7_sample ∈ bigL := bgm (tm_2 _ (List.mem_of_getElem? (i := 221) rfl)) rfl
theorem bw_2_222 : Cond.selects RX7 yX7_sample yX7_sample ∈ bigL := bgm (tm_2 _ (List.mem_of_getElem? (i := 222) rfl)) rfl
theorem bw_2_223 : Cond.code yX7_sample cX7_sample 3 (some .int) ∈ bigL := bgm (tm_2 _ (List.mem_of_getElem? (i := 223) rfl)) rfl
theorem bw_2_224 : Cond.methodLink RX7 132 yX7_sampleUnits ∈ bigL := bgm (tm_2 _ (List.mem_of_getElem? (i := 224) rfl)) rfl
theorem bw_2_226 : Cond.instanceMethod yX7_sampleUnits ∈ bigL := bgm (tm_2 _ (List.mem_of_getElem? (i := 226) rfl)) rfl
theorem bs_6 : Cond.selects RX7 yX7_sampleUnits yX7_sampleUnits ∈ bigL := bgm (List.mem_append_left _ (List.mem_of_getElem? (i := 6) rfl)) rfl
theorem bw_2_227 : Cond.code yX7_sampleUnits cX7_sampleUnits 9 (some .int) ∈ bigL := bgm (tm_2 _ (List.mem_of_getElem? (i := 227) rfl)) rfl
theorem bw_2_235 : Cond.methodLink RX7 318 Lib.Math.min.name ∈ bigL := bgm (tm_2 _ (List.mem_of_getElem? (i := 235) rfl)) rfl
theorem bw_1_122 : Cond.fieldLink RX7 227 "BondedStore$Lot" "discharged" "I" ∈ bigL := bgm (tm_1 _ (List.mem_of_getElem? (i := 122) rfl)) rfl
theorem bw_1_125 : Cond.fieldLink RX7 230 "BondedStore$Lot" "sampled" "I" ∈ bigL := bgm (tm_1 _ (List.mem_of_getElem? (i := 125) rfl)) rfl
theorem bw_2_228 : Cond.methodLink RX7 314 yX5_freeUnitsOf ∈ bigL := bgm (tm_2 _ (List.mem_of_getElem? (i := 228) rfl)) rfl
theorem bw_2_229 : Cond.instanceMethod yX5_freeUnitsOf ∈ bigL := bgm (tm_2 _ (List.mem_of_getElem? (i := 229) rfl)) rfl
theorem bw_2_230 : Cond.selects RX5 yX5_freeUnitsOf yX5_freeUnitsOf ∈ bigL := bgm (tm_2 _ (List.mem_of_getElem? (i := 230) rfl)) rfl
theorem bw_2_231 : Cond.code yX5_freeUnitsOf cX5_freeUnitsOf 3 (some .int) ∈ bigL := bgm (tm_2 _ (List.mem_of_getElem? (i := 231) rfl)) rfl
theorem bw_1_105 : Cond.fieldLink RX5 41 "BondedStore$Lot" "quantity" "I" ∈ bigL := bgm (tm_1 _ (List.mem_of_getElem? (i := 105) rfl)) rfl
theorem bw_1_124 : Cond.fieldLink RX5 46 "BondedStore$Lot" "sampled" "I" ∈ bigL := bgm (tm_1 _ (List.mem_of_getElem? (i := 124) rfl)) rfl
theorem bw_2_232 : Cond.methodLink RX5 49 Lib.Math.max.name ∈ bigL := bgm (tm_2 _ (List.mem_of_getElem? (i := 232) rfl)) rfl
theorem bw_2_233 : Cond.static Lib.Math.max.name ∈ bigL := bgm (tm_2 _ (List.mem_of_getElem? (i := 233) rfl)) rfl
theorem bw_5_191 : Cond.methodLink RL 52 yX8_sample ∈ bigL := bgm (tm_5 _ (List.mem_of_getElem? (i := 191) rfl)) rfl
theorem bw_5_192 : Cond.instanceMethod yX8_sample ∈ bigL := bgm (tm_5 _ (List.mem_of_getElem? (i := 192) rfl)) rfl
theorem bw_5_193 : Cond.selects RX8 yX8_sample yX8_sample ∈ bigL := bgm (tm_5 _ (List.mem_of_getElem? (i := 193) rfl)) rfl
theorem bw_5_194 : Cond.code yX8_sample cX8_sample 4 (some .int) ∈ bigL := bgm (tm_5 _ (List.mem_of_getElem? (i := 194) rfl)) rfl
theorem bw_5_195 : Cond.methodLink RX8 172 yX8_checkSample ∈ bigL := bgm (tm_5 _ (List.mem_of_getElem? (i := 195) rfl)) rfl
theorem bw_5_197 : Cond.instanceMethod yX8_checkSample ∈ bigL := bgm (tm_5 _ (List.mem_of_getElem? (i := 197) rfl)) rfl
theorem bs_41 : Cond.selects RX8 yX8_checkSample yX8_checkSample ∈ bigL := bgm (List.mem_append_left _ (List.mem_of_getElem? (i := 41) rfl)) rfl
theorem bw_5_198 : Cond.code yX8_checkSample cX8_checkSample 4 (some .int) ∈ bigL := bgm (tm_5 _ (List.mem_of_getElem? (i := 198) rfl)) rfl
theorem bw_5_199 : Cond.methodLink RX8 148 yX8_paidFor ∈ bigL := bgm (tm_5 _ (List.mem_of_getElem? (i := 199) rfl)) rfl
theorem bw_5_201 : Cond.instanceMethod yX8_paidFor ∈ bigL := bgm (tm_5 _ (List.mem_of_getElem? (i := 201) rfl)) rfl
theorem bs_42 : Cond.selects RX8 yX8_paidFor yX8_paidFor ∈ bigL := bgm (List.mem_append_left _ (List.mem_of_getElem? (i := 42) rfl)) rfl
theorem bw_5_202 : Cond.code yX8_paidFor cX8_paidFor 6 (some .long) ∈ bigL := bgm (tm_5 _ (List.mem_of_getElem? (i := 202) rfl)) rfl
theorem bw_5_203 : Cond.methodLink RX8 145 yX8_free ∈ bigL := bgm (tm_5 _ (List.mem_of_getElem? (i := 203) rfl)) rfl
theorem bw_5_205 : Cond.instanceMethod yX8_free ∈ bigL := bgm (tm_5 _ (List.mem_of_getElem? (i := 205) rfl)) rfl
theorem bs_43 : Cond.selects RX8 yX8_free yX8_free ∈ bigL := bgm (List.mem_append_left _ (List.mem_of_getElem? (i := 43) rfl)) rfl
theorem bw_5_206 : Cond.code yX8_free cX8_free 6 (some .long) ∈ bigL := bgm (tm_5 _ (List.mem_of_getElem? (i := 206) rfl)) rfl
theorem bw_5_207 : Cond.methodLink RX8 175 yX8_samples ∈ bigL := bgm (tm_5 _ (List.mem_of_getElem? (i := 207) rfl)) rfl
theorem bw_5_209 : Cond.instanceMethod yX8_samples ∈ bigL := bgm (tm_5 _ (List.mem_of_getElem? (i := 209) rfl)) rfl
theorem bs_44 : Cond.selects RX8 yX8_samples yX8_samples ∈ bigL := bgm (List.mem_append_left _ (List.mem_of_getElem? (i := 44) rfl)) rfl
theorem bw_5_210 : Cond.code yX8_samples cX8_samples 5 (some .int) ∈ bigL := bgm (tm_5 _ (List.mem_of_getElem? (i := 210) rfl)) rfl
theorem bw_2_236 : Cond.methodLink RL 53 yX7_export ∈ bigL := bgm (tm_2 _ (List.mem_of_getElem? (i := 236) rfl)) rfl
theorem bw_2_237 : Cond.instanceMethod yX7_export ∈ bigL := bgm (tm_2 _ (List.mem_of_getElem? (i := 237) rfl)) rfl
theorem bw_2_238 : Cond.selects RX7 yX7_export yX7_export ∈ bigL := bgm (tm_2 _ (List.mem_of_getElem? (i := 238) rfl)) rfl
theorem bw_2_239 : Cond.code yX7_export cX7_export 3 (some .int) ∈ bigL := bgm (tm_2 _ (List.mem_of_getElem? (i := 239) rfl)) rfl
theorem bw_3_0 : Cond.methodLink RX7 135 yX7_exportUnits ∈ bigL := bgm (tm_3 _ (List.mem_of_getElem? (i := 0) rfl)) rfl
theorem bw_3_2 : Cond.instanceMethod yX7_exportUnits ∈ bigL := bgm (tm_3 _ (List.mem_of_getElem? (i := 2) rfl)) rfl
theorem bs_7 : Cond.selects RX7 yX7_exportUnits yX7_exportUnits ∈ bigL := bgm (List.mem_append_left _ (List.mem_of_getElem? (i := 7) rfl)) rfl
theorem bw_3_3 : Cond.code yX7_exportUnits cX7_exportUnits 7 (some .int) ∈ bigL := bgm (tm_3 _ (List.mem_of_getElem? (i := 3) rfl)) rfl
theorem bw_1_193 : Cond.fieldLink RX7 276 "BondedStore$State" "exportCount" "I" ∈ bigL := bgm (tm_1 _ (List.mem_of_getElem? (i := 193) rfl)) rfl
theorem bw_1_187 : Cond.fieldLink RX7 279 "BondedStore$State" "exports" "[LBondedStore$Export;" ∈ bigL := bgm (tm_1 _ (List.mem_of_getElem? (i := 187) rfl)) rfl
theorem bw_1_158 : Cond.fieldLink RX7 240 "BondedStore$Export" "lot" "I" ∈ bigL := bgm (tm_1 _ (List.mem_of_getElem? (i := 158) rfl)) rfl
theorem bw_1_161 : Cond.fieldLink RX7 245 "BondedStore$Export" "units" "I" ∈ bigL := bgm (tm_1 _ (List.mem_of_getElem? (i := 161) rfl)) rfl
theorem bw_1_164 : Cond.fieldLink RX7 248 "BondedStore$Export" "duty" "I" ∈ bigL := bgm (tm_1 _ (List.mem_of_getElem? (i := 164) rfl)) rfl
theorem bw_1_166 : Cond.fieldLink RX7 251 "BondedStore$Export" "deadline" "I" ∈ bigL := bgm (tm_1 _ (List.mem_of_getElem? (i := 166) rfl)) rfl
theorem bw_1_169 : Cond.fieldLink RX7 252 "BondedStore$Export" "state" "I" ∈ bigL := bgm (tm_1 _ (List.mem_of_getElem? (i := 169) rfl)) rfl
theorem bw_5_211 : Cond.methodLink RL 56 yX8_export ∈ bigL := bgm (tm_5 _ (List.mem_of_getElem? (i := 211) rfl)) rfl
theorem bw_5_212 : Cond.instanceMethod yX8_export ∈ bigL := bgm (tm_5 _ (List.mem_of_getElem? (i := 212) rfl)) rfl
theorem bw_5_213 : Cond.selects RX8 yX8_export yX8_export ∈ bigL := bgm (tm_5 _ (List.mem_of_getElem? (i := 213) rfl)) rfl
theorem bw_5_214 : Cond.code yX8_export cX8_export 4 (some .int) ∈ bigL := bgm (tm_5 _ (List.mem_of_getElem? (i := 214) rfl)) rfl
theorem bw_5_215 : Cond.methodLink RX8 178 yX8_checkExport ∈ bigL := bgm (tm_5 _ (List.mem_of_getElem? (i := 215) rfl)) rfl
theorem bw_5_217 : Cond.instanceMethod yX8_checkExport ∈ bigL := bgm (tm_5 _ (List.mem_of_getElem? (i := 217) rfl)) rfl
theorem bs_45 : Cond.selects RX8 yX8_checkExport yX8_checkExport ∈ bigL := bgm (List.mem_append_left _ (List.mem_of_getElem? (i := 45) rfl)) rfl
theorem bw_5_218 : Cond.code yX8_checkExport cX8_checkExport 4 (some .int) ∈ bigL := bgm (tm_5 _ (List.mem_of_getElem? (i := 218) rfl)) rfl
theorem bw_5_219 : Cond.methodLink RX8 181 yX8_exports ∈ bigL := bgm (tm_5 _ (List.mem_of_getElem? (i := 219) rfl)) rfl
theorem bw_5_221 : Cond.instanceMethod yX8_exports ∈ bigL := bgm (tm_5 _ (List.mem_of_getElem? (i := 221) rfl)) rfl
theorem bs_46 : Cond.selects RX8 yX8_exports yX8_exports ∈ bigL := bgm (List.mem_append_left _ (List.mem_of_getElem? (i := 46) rfl)) rfl
theorem bw_5_222 : Cond.code yX8_exports cX8_exports 5 (some .int) ∈ bigL := bgm (tm_5 _ (List.mem_of_getElem? (i := 222) rfl)) rfl
theorem bw_3_4 : Cond.methodLink RL 57 yX7_prove ∈ bigL := bgm (tm_3 _ (List.mem_of_getElem? (i := 4) rfl)) rfl
theorem bw_3_5 : Cond.instanceMethod yX7_prove ∈ bigL := bgm (tm_3 _ (List.mem_of_getElem? (i := 5) rfl)) rfl
theorem bw_3_6 : Cond.selects RX7 yX7_prove yX7_prove ∈ bigL := bgm (tm_3 _ (List.mem_of_getElem? (i := 6) rfl)) rfl
theorem bw_3_7 : Cond.code yX7_prove cX7_prove 2 (some .int) ∈ bigL := bgm (tm_3 _ (List.mem_of_getElem? (i := 7) rfl)) rfl
theorem bw_3_8 : Cond.methodLink RX7 138 yX7_proveExport ∈ bigL := bgm (tm_3 _ (List.mem_of_getElem? (i := 8) rfl)) rfl
theorem bw_3_10 : Cond.instanceMethod yX7_proveExport ∈ bigL := bgm (tm_3 _ (List.mem_of_getElem? (i := 10) rfl)) rfl
theorem bs_8 : Cond.selects RX7 yX7_proveExport yX7_proveExport ∈ bigL := bgm (List.mem_append_left _ (List.mem_of_getElem? (i := 8) rfl)) rfl
theorem bw_3_11 : Cond.code yX7_proveExport cX7_proveExport 4 (some .int) ∈ bigL := bgm (tm_3 _ (List.mem_of_getElem? (i := 11) rfl)) rfl
theorem bw_3_12 : Cond.methodLink RX7 236 yX6_findExport ∈ bigL := bgm (tm_3 _ (List.mem_of_getElem? (i := 12) rfl)) rfl
theorem bw_3_13 : Cond.instanceMethod yX6_findExport ∈ bigL := bgm (tm_3 _ (List.mem_of_getElem? (i := 13) rfl)) rfl
theorem bw_3_14 : Cond.selects RX6 yX6_findExport yX6_findExport ∈ bigL := bgm (tm_3 _ (List.mem_of_getElem? (i := 14) rfl)) rfl
theorem bw_3_15 : Cond.code yX6_findExport cX6_findExport 2 (some (.object "BondedStore$Export")) ∈ bigL := bgm (tm_3 _ (List.mem_of_getElem? (i := 15) rfl)) rfl
theorem bw_3_16 : Cond.methodLink RX7 323 yX0_waits ∈ bigL := bgm (tm_3 _ (List.mem_of_getElem? (i := 16) rfl)) rfl
theorem bw_3_17 : Cond.instanceMethod yX0_waits ∈ bigL := bgm (tm_3 _ (List.mem_of_getElem? (i := 17) rfl)) rfl
theorem bw_3_18 : Cond.selects RX0 yX0_waits yX0_waits ∈ bigL := bgm (tm_3 _ (List.mem_of_getElem? (i := 18) rfl)) rfl
theorem bw_3_19 : Cond.code yX0_waits cX0_waits 1 (some .boolean) ∈ bigL := bgm (tm_3 _ (List.mem_of_getElem? (i := 19) rfl)) rfl
theorem bw_5_223 : Cond.methodLink RL 61 yX8_prove ∈ bigL := bgm (tm_5 _ (List.mem_of_getElem? (i := 223) rfl)) rfl
theorem bw_5_224 : Cond.instanceMethod yX8_prove ∈ bigL := bgm (tm_5 _ (List.mem_of_getElem? (i := 224) rfl)) rfl
theorem bw_5_225 : Cond.selects RX8 yX8_prove yX8_prove ∈ bigL := bgm (tm_5 _ (List.mem_of_getElem? (i := 225) rfl)) rfl
theorem bw_5_226 : Cond.code yX8_prove cX8_prove 3 (some .int) ∈ bigL := bgm (tm_5 _ (List.mem_of_getElem? (i := 226) rfl)) rfl
theorem bw_5_227 : Cond.methodLink RX8 184 yX8_checkProve ∈ bigL := bgm (tm_5 _ (List.mem_of_getElem? (i := 227) rfl)) rfl
theorem bw_5_229 : Cond.instanceMethod yX8_checkProve ∈ bigL := bgm (tm_5 _ (List.mem_of_getElem? (i := 229) rfl)) rfl
theorem bs_47 : Cond.selects RX8 yX8_checkProve yX8_checkProve ∈ bigL := bgm (List.mem_append_left _ (List.mem_of_getElem? (i := 47) rfl)) rfl
theorem bw_5_230 : Cond.code yX8_checkProve cX8_checkProve 2 (some .int) ∈ bigL := bgm (tm_5 _ (List.mem_of_getElem? (i := 230) rfl)) rfl
theorem bw_5_231 : Cond.methodLink RX8 151 yX8_noExport ∈ bigL := bgm (tm_5 _ (List.mem_of_getElem? (i := 231) rfl)) rfl
theorem bw_5_233 : Cond.instanceMethod yX8_noExport ∈ bigL := bgm (tm_5 _ (List.mem_of_getElem? (i := 233) rfl)) rfl
theorem bs_48 : Cond.selects RX8 yX8_noExport yX8_noExport ∈ bigL := bgm (List.mem_append_left _ (List.mem_of_getElem? (i := 48) rfl)) rfl
theorem bw_5_234 : Cond.code yX8_noExport cX8_noExport 2 (some .boolean) ∈ bigL := bgm (tm_5 _ (List.mem_of_getElem? (i := 234) rfl)) rfl
theorem bw_5_235 : Cond.methodLink RX8 187 yX8_proves ∈ bigL := bgm (tm_5 _ (List.mem_of_getElem? (i := 235) rfl)) rfl
theorem bw_5_237 : Cond.instanceMethod yX8_proves ∈ bigL := bgm (tm_5 _ (List.mem_of_getElem? (i := 237) rfl)) rfl
theorem bs_49 : Cond.selects RX8 yX8_proves yX8_proves ∈ bigL := bgm (List.mem_append_left _ (List.mem_of_getElem? (i := 49) rfl)) rfl
theorem bw_5_238 : Cond.code yX8_proves cX8_proves 2 (some .int) ∈ bigL := bgm (tm_5 _ (List.mem_of_getElem? (i := 238) rfl)) rfl
theorem bw_3_20 : Cond.methodLink RL 62 yX7_destroy ∈ bigL := bgm (tm_3 _ (List.mem_of_getElem? (i := 20) rfl)) rfl
theorem bw_3_21 : Cond.instanceMethod yX7_destroy ∈ bigL := bgm (tm_3 _ (List.mem_of_getElem? (i := 21) rfl)) rfl
theorem bw_3_22 : Cond.selects RX7 yX7_destroy yX7_destroy ∈ bigL := bgm (tm_3 _ (List.mem_of_getElem? (i := 22) rfl)) rfl
theorem bw_3_23 : Cond.code yX7_destroy cX7_destroy 3 (some .int) ∈ bigL := bgm (tm_3 _ (List.mem_of_getElem? (i := 23) rfl)) rfl
theorem bw_3_24 : Cond.methodLink RX7 141 yX7_destroyUnits ∈ bigL := bgm (tm_3 _ (List.mem_of_getElem? (i := 24) rfl)) rfl
theorem bw_3_26 : Cond.instanceMethod yX7_destroyUnits ∈ bigL := bgm (tm_3 _ (List.mem_of_getElem? (i := 26) rfl)) rfl
theorem bs_9 : Cond.selects RX7 yX7_destroyUnits yX7_destroyUnits ∈ bigL := bgm (List.mem_append_left _ (List.mem_of_getElem? (i := 9) rfl)) rfl
theorem bw_3_27 : Cond.code yX7_destroyUnits cX7_destroyUnits 9 (some .int) ∈ bigL := bgm (tm_3 _ (List.mem_of_getElem? (i := 27) rfl)) rfl
theorem bw_1_199 : Cond.fieldLink RX7 297 "BondedStore$State" "fees" "J" ∈ bigL := bgm (tm_1 _ (List.mem_of_getElem? (i := 199) rfl)) rfl
theorem bw_5_239 : Cond.methodLink RL 65 yX8_destroy ∈ bigL := bgm (tm_5 _ (List.mem_of_getElem? (i := 239) rfl)) rfl
theorem bw_6_0 : Cond.instanceMethod yX8_destroy ∈ bigL := bgm (tm_6 _ (List.mem_of_getElem? (i := 0) rfl)) rfl
theorem bw_6_1 : Cond.selects RX8 yX8_destroy yX8_destroy ∈ bigL := bgm (tm_6 _ (List.mem_of_getElem? (i := 1) rfl)) rfl
theorem bw_6_2 : Cond.code yX8_destroy cX8_destroy 4 (some .int) ∈ bigL := bgm (tm_6 _ (List.mem_of_getElem? (i := 2) rfl)) rfl
theorem bw_6_3 : Cond.methodLink RX8 190 yX8_checkDestroy ∈ bigL := bgm (tm_6 _ (List.mem_of_getElem? (i := 3) rfl)) rfl
theorem bw_6_5 : Cond.instanceMethod yX8_checkDestroy ∈ bigL := bgm (tm_6 _ (List.mem_of_getElem? (i := 5) rfl)) rfl
theorem bs_50 : Cond.selects RX8 yX8_checkDestroy yX8_checkDestroy ∈ bigL := bgm (List.mem_append_left _ (List.mem_of_getElem? (i := 50) rfl)) rfl
theorem bw_6_6 : Cond.code yX8_checkDestroy cX8_checkDestroy 4 (some .int) ∈ bigL := bgm (tm_6 _ (List.mem_of_getElem? (i := 6) rfl)) rfl
theorem bw_6_7 : Cond.methodLink RX8 193 yX8_destroys ∈ bigL := bgm (tm_6 _ (List.mem_of_getElem? (i := 7) rfl)) rfl
theorem bw_6_9 : Cond.instanceMethod yX8_destroys ∈ bigL := bgm (tm_6 _ (List.mem_of_getElem? (i := 9) rfl)) rfl
theorem bs_51 : Cond.selects RX8 yX8_destroys yX8_destroys ∈ bigL := bgm (List.mem_append_left _ (List.mem_of_getElem? (i := 51) rfl)) rfl
theorem bw_6_10 : Cond.code yX8_destroys cX8_destroys 5 (some .int) ∈ bigL := bgm (tm_6 _ (List.mem_of_getElem? (i := 10) rfl)) rfl
theorem bw_3_28 : Cond.methodLink RL 66 yX7_give ∈ bigL := bgm (tm_3 _ (List.mem_of_getElem? (i := 28) rfl)) rfl
theorem bw_3_29 : Cond.instanceMethod yX7_give ∈ bigL := bgm (tm_3 _ (List.mem_of_getElem? (i := 29) rfl)) rfl
theorem bw_3_30 : Cond.selects RX7 yX7_give yX7_give ∈ bigL := bgm (tm_3 _ (List.mem_of_getElem? (i := 30) rfl)) rfl
theorem bw_3_31 : Cond.code yX7_give cX7_give 3 (some .int) ∈ bigL := bgm (tm_3 _ (List.mem_of_getElem? (i := 31) rfl)) rfl
theorem bw_3_32 : Cond.methodLink RX7 144 yX7_giveLot ∈ bigL := bgm (tm_3 _ (List.mem_of_getElem? (i := 32) rfl)) rfl
theorem bw_3_34 : Cond.instanceMethod yX7_giveLot ∈ bigL := bgm (tm_3 _ (List.mem_of_getElem? (i := 34) rfl)) rfl
theorem bs_10 : Cond.selects RX7 yX7_giveLot yX7_giveLot ∈ bigL := bgm (List.mem_append_left _ (List.mem_of_getElem? (i := 10) rfl)) rfl
theorem bw_3_35 : Cond.code yX7_giveLot cX7_giveLot 6 (some .int) ∈ bigL := bgm (tm_3 _ (List.mem_of_getElem? (i := 35) rfl)) rfl
theorem bw_3_36 : Cond.methodLink RX7 221 yX2_suspended ∈ bigL := bgm (tm_3 _ (List.mem_of_getElem? (i := 36) rfl)) rfl
theorem bw_6_11 : Cond.methodLink RL 69 yX8_give ∈ bigL := bgm (tm_6 _ (List.mem_of_getElem? (i := 11) rfl)) rfl
theorem bw_6_12 : Cond.instanceMethod yX8_give ∈ bigL := bgm (tm_6 _ (List.mem_of_getElem? (i := 12) rfl)) rfl
theorem bw_6_13 : Cond.selects RX8 yX8_give yX8_give ∈ bigL := bgm (tm_6 _ (List.mem_of_getElem? (i := 13) rfl)) rfl
theorem bw_6_14 : Cond.code yX8_give cX8_give 4 (some .int) ∈ bigL := bgm (tm_6 _ (List.mem_of_getElem? (i := 14) rfl)) rfl
theorem bw_6_15 : Cond.methodLink RX8 196 yX8_checkGive ∈ bigL := bgm (tm_6 _ (List.mem_of_getElem? (i := 15) rfl)) rfl
theorem bw_6_17 : Cond.instanceMethod yX8_checkGive ∈ bigL := bgm (tm_6 _ (List.mem_of_getElem? (i := 17) rfl)) rfl
theorem bs_52 : Cond.selects RX8 yX8_checkGive yX8_checkGive ∈ bigL := bgm (List.mem_append_left _ (List.mem_of_getElem? (i := 52) rfl)) rfl
theorem bw_6_18 : Cond.code yX8_checkGive cX8_checkGive 3 (some .int) ∈ bigL := bgm (tm_6 _ (List.mem_of_getElem? (i := 18) rfl)) rfl
theorem bw_6_19 : Cond.methodLink RX8 199 yX8_gives ∈ bigL := bgm (tm_6 _ (List.mem_of_getElem? (i := 19) rfl)) rfl
theorem bw_6_21 : Cond.instanceMethod yX8_gives ∈ bigL := bgm (tm_6 _ (List.mem_of_getElem? (i := 21) rfl)) rfl
theorem bs_53 : Cond.selects RX8 yX8_gives yX8_gives ∈ bigL := bgm (List.mem_append_left _ (List.mem_of_getElem? (i := 53) rfl)) rfl
theorem bw_6_22 : Cond.code yX8_gives cX8_gives 4 (some .int) ∈ bigL := bgm (tm_6 _ (List.mem_of_getElem? (i := 22) rfl)) rfl
theorem bw_3_37 : Cond.methodLink RL 70 yX7_pass ∈ bigL := bgm (tm_3 _ (List.mem_of_getElem? (i := 37) rfl)) rfl
theorem bw_3_38 : Cond.instanceMethod yX7_pass ∈ bigL := bgm (tm_3 _ (List.mem_of_getElem? (i := 38) rfl)) rfl
theorem bw_3_39 : Cond.selects RX7 yX7_pass yX7_pass ∈ bigL := bgm (tm_3 _ (List.mem_of_getElem? (i := 39) rfl)) rfl
theorem bw_3_40 : Cond.code yX7_pass cX7_pass 2 (some .int) ∈ bigL := bgm (tm_3 _ (List.mem_of_getElem? (i := 40) rfl)) rfl
theorem bw_3_41 : Cond.methodLink RX7 147 yX7_passDays ∈ bigL := bgm (tm_3 _ (List.mem_of_getElem? (i := 41) rfl)) rfl
theorem bw_3_43 : Cond.instanceMethod yX7_passDays ∈ bigL := bgm (tm_3 _ (List.mem_of_getElem? (i := 43) rfl)) rfl
theorem bs_11 : Cond.selects RX7 yX7_passDays yX7_passDays ∈ bigL := bgm (List.mem_append_left _ (List.mem_of_getElem? (i := 11) rfl)) rfl
theorem bw_3_44 : Cond.code yX7_passDays cX7_passDays 2 (some .int) ∈ bigL := bgm (tm_3 _ (List.mem_of_getElem? (i := 44) rfl)) rfl
theorem bw_3_45 : Cond.methodLink RX7 327 yX6_loseExports ∈ bigL := bgm (tm_3 _ (List.mem_of_getElem? (i := 45) rfl)) rfl
theorem bw_3_46 : Cond.instanceMethod yX6_loseExports ∈ bigL := bgm (tm_3 _ (List.mem_of_getElem? (i := 46) rfl)) rfl
theorem bw_3_47 : Cond.selects RX6 yX6_loseExports yX6_loseExports ∈ bigL := bgm (tm_3 _ (List.mem_of_getElem? (i := 47) rfl)) rfl
theorem bw_3_48 : Cond.code yX6_loseExports cX6_loseExports 5 (some .int) ∈ bigL := bgm (tm_3 _ (List.mem_of_getElem? (i := 48) rfl)) rfl
theorem bw_1_157 : Cond.fieldLink RX6 92 "BondedStore$Export" "lot" "I" ∈ bigL := bgm (tm_1 _ (List.mem_of_getElem? (i := 157) rfl)) rfl
theorem bw_1_168 : Cond.fieldLink RX6 118 "BondedStore$Export" "state" "I" ∈ bigL := bgm (tm_1 _ (List.mem_of_getElem? (i := 168) rfl)) rfl
theorem bw_1_163 : Cond.fieldLink RX6 106 "BondedStore$Export" "duty" "I" ∈ bigL := bgm (tm_1 _ (List.mem_of_getElem? (i := 163) rfl)) rfl
theorem bw_3_49 : Cond.methodLink RX6 114 yX6_findLot ∈ bigL := bgm (tm_3 _ (List.mem_of_getElem? (i := 49) rfl)) rfl
theorem bw_3_50 : Cond.methodLink RX6 102 yX0_endsBefore ∈ bigL := bgm (tm_3 _ (List.mem_of_getElem? (i := 50) rfl)) rfl
theorem bw_3_51 : Cond.instanceMethod yX0_endsBefore ∈ bigL := bgm (tm_3 _ (List.mem_of_getElem? (i := 51) rfl)) rfl
theorem bw_3_52 : Cond.selects RX0 yX0_endsBefore yX0_endsBefore ∈ bigL := bgm (tm_3 _ (List.mem_of_getElem? (i := 52) rfl)) rfl
theorem bw_3_53 : Cond.code yX0_endsBefore cX0_endsBefore 2 (some .boolean) ∈ bigL := bgm (tm_3 _ (List.mem_of_getElem? (i := 53) rfl)) rfl
theorem bw_3_54 : Cond.methodLink RX0 25 yX0_waits ∈ bigL := bgm (tm_3 _ (List.mem_of_getElem? (i := 54) rfl)) rfl
theorem bw_3_55 : Cond.methodLink RX6 121 yX6_callDuty ∈ bigL := bgm (tm_3 _ (List.mem_of_getElem? (i := 55) rfl)) rfl
theorem bw_3_57 : Cond.instanceMethod yX6_callDuty ∈ bigL := bgm (tm_3 _ (List.mem_of_getElem? (i := 57) rfl)) rfl
theorem bs_12 : Cond.selects RX6 yX6_callDuty yX6_callDuty ∈ bigL := bgm (List.mem_append_left _ (List.mem_of_getElem? (i := 12) rfl)) rfl
theorem bw_3_58 : Cond.code yX6_callDuty cX6_callDuty 4 none ∈ bigL := bgm (tm_3 _ (List.mem_of_getElem? (i := 58) rfl)) rfl
theorem bw_1_119 : Cond.fieldLink RX6 125 "BondedStore$Lot" "paid" "I" ∈ bigL := bgm (tm_1 _ (List.mem_of_getElem? (i := 119) rfl)) rfl
theorem bw_3_59 : Cond.methodLink RX6 128 yX6_findOwner ∈ bigL := bgm (tm_3 _ (List.mem_of_getElem? (i := 59) rfl)) rfl
theorem bw_3_60 : Cond.methodLink RX6 132 yX4_answerFor ∈ bigL := bgm (tm_3 _ (List.mem_of_getElem? (i := 60) rfl)) rfl
theorem bw_3_61 : Cond.instanceMethod yX4_answerFor ∈ bigL := bgm (tm_3 _ (List.mem_of_getElem? (i := 61) rfl)) rfl
theorem bw_3_62 : Cond.selects RX4 yX4_answerFor yX4_answerFor ∈ bigL := bgm (tm_3 _ (List.mem_of_getElem? (i := 62) rfl)) rfl
theorem bw_3_63 : Cond.code yX4_answerFor cX4_answerFor 3 none ∈ bigL := bgm (tm_3 _ (List.mem_of_getElem? (i := 63) rfl)) rfl
theorem bw_3_64 : Cond.methodLink RX7 330 yX6_seizeLots ∈ bigL := bgm (tm_3 _ (List.mem_of_getElem? (i := 64) rfl)) rfl
theorem bw_3_65 : Cond.instanceMethod yX6_seizeLots ∈ bigL := bgm (tm_3 _ (List.mem_of_getElem? (i := 65) rfl)) rfl
theorem bw_3_66 : Cond.selects RX6 yX6_seizeLots yX6_seizeLots ∈ bigL := bgm (tm_3 _ (List.mem_of_getElem? (i := 66) rfl)) rfl
theorem bw_3_67 : Cond.code yX6_seizeLots cX6_seizeLots 5 (some .int) ∈ bigL := bgm (tm_3 _ (List.mem_of_getElem? (i := 67) rfl)) rfl
theorem bw_1_116 : Cond.fieldLink RX6 82 "BondedStore$Lot" "stored" "I" ∈ bigL := bgm (tm_1 _ (List.mem_of_getElem? (i := 116) rfl)) rfl
theorem bw_3_68 : Cond.methodLink RX6 109 yX2_endsBefore ∈ bigL := bgm (tm_3 _ (List.mem_of_getElem? (i := 68) rfl)) rfl
theorem bw_3_69 : Cond.instanceMethod yX2_endsBefore ∈ bigL := bgm (tm_3 _ (List.mem_of_getElem? (i := 69) rfl)) rfl
theorem bw_3_70 : Cond.selects RX2 yX2_endsBefore yX2_endsBefore ∈ bigL := bgm (tm_3 _ (List.mem_of_getElem? (i := 70) rfl)) rfl
theorem bw_3_71 : Cond.code yX2_endsBefore cX2_endsBefore 2 (some .boolean) ∈ bigL := bgm (tm_3 _ (List.mem_of_getElem? (i := 71) rfl)) rfl
theorem bw_3_72 : Cond.methodLink RX6 110 yX2_dutyOfNext ∈ bigL := bgm (tm_3 _ (List.mem_of_getElem? (i := 72) rfl)) rfl
theorem bw_6_23 : Cond.methodLink RL 73 yX8_pass ∈ bigL := bgm (tm_6 _ (List.mem_of_getElem? (i := 23) rfl)) rfl
theorem bw_6_24 : Cond.instanceMethod yX8_pass ∈ bigL := bgm (tm_6 _ (List.mem_of_getElem? (i := 24) rfl)) rfl
theorem bw_6_25 : Cond.selects RX8 yX8_pass yX8_pass ∈ bigL := bgm (tm_6 _ (List.mem_of_getElem? (i := 25) rfl)) rfl
theorem bw_6_26 : Cond.code yX8_pass cX8_pass 2 (some .int) ∈ bigL := bgm (tm_6 _ (List.mem_of_getElem? (i := 26) rfl)) rfl
theorem bw_6_27 : Cond.methodLink RX8 202 yX8_passes ∈ bigL := bgm (tm_6 _ (List.mem_of_getElem? (i := 27) rfl)) rfl
theorem bw_6_29 : Cond.instanceMethod yX8_passes ∈ bigL := bgm (tm_6 _ (List.mem_of_getElem? (i := 29) rfl)) rfl
theorem bs_54 : Cond.selects RX8 yX8_passes yX8_passes ∈ bigL := bgm (List.mem_append_left _ (List.mem_of_getElem? (i := 54) rfl)) rfl
theorem bw_6_30 : Cond.code yX8_passes cX8_passes 8 (some .int) ∈ bigL := bgm (tm_6 _ (List.mem_of_getElem? (i := 30) rfl)) rfl
theorem bw_6_31 : Cond.constantLong RX8 154 (2) ∈ bigL := bgm (tm_6 _ (List.mem_of_getElem? (i := 31) rfl)) rfl
theorem bw_6_32 : Cond.methodLink RX8 156 yX8_call ∈ bigL := bgm (tm_6 _ (List.mem_of_getElem? (i := 32) rfl)) rfl
theorem bw_6_34 : Cond.instanceMethod yX8_call ∈ bigL := bgm (tm_6 _ (List.mem_of_getElem? (i := 34) rfl)) rfl
theorem bs_55 : Cond.selects RX8 yX8_call yX8_call ∈ bigL := bgm (List.mem_append_left _ (List.mem_of_getElem? (i := 55) rfl)) rfl
theorem bw_6_35 : Cond.code yX8_call cX8_call 7 none ∈ bigL := bgm (tm_6 _ (List.mem_of_getElem? (i := 35) rfl)) rfl
theorem bw_3_73 : Cond.methodLink RL 74 yX7_type ∈ bigL := bgm (tm_3 _ (List.mem_of_getElem? (i := 73) rfl)) rfl
theorem bw_3_74 : Cond.instanceMethod yX7_type ∈ bigL := bgm (tm_3 _ (List.mem_of_getElem? (i := 74) rfl)) rfl
theorem bw_3_75 : Cond.selects RX7 yX7_type yX7_type ∈ bigL := bgm (tm_3 _ (List.mem_of_getElem? (i := 75) rfl)) rfl
theorem bw_3_76 : Cond.code yX7_type cX7_type 2 (some .int) ∈ bigL := bgm (tm_3 _ (List.mem_of_getElem? (i := 76) rfl)) rfl
theorem bw_2_13 : Cond.fieldLink RX7 154 "BondedStore$Orders" "length" "I" ∈ bigL := bgm (tm_2 _ (List.mem_of_getElem? (i := 13) rfl)) rfl
theorem bw_3_77 : Cond.methodLink RX7 150 yX3_append ∈ bigL := bgm (tm_3 _ (List.mem_of_getElem? (i := 77) rfl)) rfl
theorem bw_3_78 : Cond.instanceMethod yX3_append ∈ bigL := bgm (tm_3 _ (List.mem_of_getElem? (i := 78) rfl)) rfl
theorem bw_3_79 : Cond.selects RX3 yX3_append yX3_append ∈ bigL := bgm (tm_3 _ (List.mem_of_getElem? (i := 79) rfl)) rfl
theorem bw_3_80 : Cond.code yX3_append cX3_append 2 (some .boolean) ∈ bigL := bgm (tm_3 _ (List.mem_of_getElem? (i := 80) rfl)) rfl
theorem bw_2_12 : Cond.fieldLink RX3 19 "BondedStore$Orders" "length" "I" ∈ bigL := bgm (tm_2 _ (List.mem_of_getElem? (i := 12) rfl)) rfl
theorem bw_6_36 : Cond.methodLink RL 78 yX8_type ∈ bigL := bgm (tm_6 _ (List.mem_of_getElem? (i := 36) rfl)) rfl
theorem bw_6_37 : Cond.instanceMethod yX8_type ∈ bigL := bgm (tm_6 _ (List.mem_of_getElem? (i := 37) rfl)) rfl
theorem bw_6_38 : Cond.selects RX8 yX8_type yX8_type ∈ bigL := bgm (tm_6 _ (List.mem_of_getElem? (i := 38) rfl)) rfl
theorem bw_6_39 : Cond.code yX8_type cX8_type 2 (some .int) ∈ bigL := bgm (tm_6 _ (List.mem_of_getElem? (i := 39) rfl)) rfl
theorem bw_4_233 : Cond.fieldLink RX8 205 "BondedStoreModel" "typed" "I" ∈ bigL := bgm (tm_4 _ (List.mem_of_getElem? (i := 233) rfl)) rfl
theorem bw_3_81 : Cond.methodLink RL 79 yX7_clearText ∈ bigL := bgm (tm_3 _ (List.mem_of_getElem? (i := 81) rfl)) rfl
theorem bw_3_82 : Cond.instanceMethod yX7_clearText ∈ bigL := bgm (tm_3 _ (List.mem_of_getElem? (i := 82) rfl)) rfl
theorem bw_3_83 : Cond.selects RX7 yX7_clearText yX7_clearText ∈ bigL := bgm (tm_3 _ (List.mem_of_getElem? (i := 83) rfl)) rfl
theorem bw_3_84 : Cond.code yX7_clearText cX7_clearText 2 (some .int) ∈ bigL := bgm (tm_3 _ (List.mem_of_getElem? (i := 84) rfl)) rfl
theorem bw_6_40 : Cond.methodLink RL 82 yX8_clearText ∈ bigL := bgm (tm_6 _ (List.mem_of_getElem? (i := 40) rfl)) rfl
theorem bw_6_41 : Cond.instanceMethod yX8_clearText ∈ bigL := bgm (tm_6 _ (List.mem_of_getElem? (i := 41) rfl)) rfl
theorem bw_6_42 : Cond.selects RX8 yX8_clearText yX8_clearText ∈ bigL := bgm (tm_6 _ (List.mem_of_getElem? (i := 42) rfl)) rfl
theorem bw_6_43 : Cond.code yX8_clearText cX8_clearText 2 (some .int) ∈ bigL := bgm (tm_6 _ (List.mem_of_getElem? (i := 43) rfl)) rfl
theorem bw_3_85 : Cond.methodLink RL 83 yX7_runOrders ∈ bigL := bgm (tm_3 _ (List.mem_of_getElem? (i := 85) rfl)) rfl
theorem bw_3_86 : Cond.instanceMethod yX7_runOrders ∈ bigL := bgm (tm_3 _ (List.mem_of_getElem? (i := 86) rfl)) rfl
theorem bw_3_87 : Cond.selects RX7 yX7_runOrders yX7_runOrders ∈ bigL := bgm (tm_3 _ (List.mem_of_getElem? (i := 87) rfl)) rfl
theorem bw_3_88 : Cond.code yX7_runOrders cX7_runOrders 2 (some .int) ∈ bigL := bgm (tm_3 _ (List.mem_of_getElem? (i := 88) rfl)) rfl
theorem bw_3_89 : Cond.methodLink RX7 157 yX3_findFault ∈ bigL := bgm (tm_3 _ (List.mem_of_getElem? (i := 89) rfl)) rfl
theorem bw_3_90 : Cond.instanceMethod yX3_findFault ∈ bigL := bgm (tm_3 _ (List.mem_of_getElem? (i := 90) rfl)) rfl
theorem bw_3_91 : Cond.selects RX3 yX3_findFault yX3_findFault ∈ bigL := bgm (tm_3 _ (List.mem_of_getElem? (i := 91) rfl)) rfl
theorem bw_3_92 : Cond.code yX3_findFault cX3_findFault 2 (some .int) ∈ bigL := bgm (tm_3 _ (List.mem_of_getElem? (i := 92) rfl)) rfl
theorem bw_2_14 : Cond.fieldLink RX3 30 "BondedStore$Orders" "position" "I" ∈ bigL := bgm (tm_2 _ (List.mem_of_getElem? (i := 14) rfl)) rfl
theorem bw_3_93 : Cond.methodLink RX3 23 yX3_goToStart ∈ bigL := bgm (tm_3 _ (List.mem_of_getElem? (i := 93) rfl)) rfl
theorem bw_3_94 : Cond.instanceMethod yX3_goToStart ∈ bigL := bgm (tm_3 _ (List.mem_of_getElem? (i := 94) rfl)) rfl
theorem bw_3_95 : Cond.selects RX3 yX3_goToStart yX3_goToStart ∈ bigL := bgm (tm_3 _ (List.mem_of_getElem? (i := 95) rfl)) rfl
theorem bw_3_96 : Cond.code yX3_goToStart cX3_goToStart 1 none ∈ bigL := bgm (tm_3 _ (List.mem_of_getElem? (i := 96) rfl)) rfl
theorem bw_3_97 : Cond.methodLink RX3 26 yX3_readOrder ∈ bigL := bgm (tm_3 _ (List.mem_of_getElem? (i := 97) rfl)) rfl
theorem bw_3_98 : Cond.instanceMethod yX3_readOrder ∈ bigL := bgm (tm_3 _ (List.mem_of_getElem? (i := 98) rfl)) rfl
theorem bw_3_99 : Cond.selects RX3 yX3_readOrder yX3_readOrder ∈ bigL := bgm (tm_3 _ (List.mem_of_getElem? (i := 99) rfl)) rfl
theorem bw_3_100 : Cond.code yX3_readOrder cX3_readOrder 4 (some .boolean) ∈ bigL := bgm (tm_3 _ (List.mem_of_getElem? (i := 100) rfl)) rfl
theorem bw_2_15 : Cond.fieldLink RX3 47 "BondedStore$Orders" "word" "I" ∈ bigL := bgm (tm_2 _ (List.mem_of_getElem? (i := 15) rfl)) rfl
theorem bw_3_101 : Cond.methodLink RX3 39 yX3_endOfToken ∈ bigL := bgm (tm_3 _ (List.mem_of_getElem? (i := 101) rfl)) rfl
theorem bw_3_103 : Cond.instanceMethod yX3_endOfToken ∈ bigL := bgm (tm_3 _ (List.mem_of_getElem? (i := 103) rfl)) rfl
theorem bs_13 : Cond.selects RX3 yX3_endOfToken yX3_endOfToken ∈ bigL := bgm (List.mem_append_left _ (List.mem_of_getElem? (i := 13) rfl)) rfl
theorem bw_3_104 : Cond.code yX3_endOfToken cX3_endOfToken 3 (some .int) ∈ bigL := bgm (tm_3 _ (List.mem_of_getElem? (i := 104) rfl)) rfl
theorem bw_3_105 : Cond.methodLink RX3 43 yX3_wordBetween ∈ bigL := bgm (tm_3 _ (List.mem_of_getElem? (i := 105) rfl)) rfl
theorem bw_3_107 : Cond.instanceMethod yX3_wordBetween ∈ bigL := bgm (tm_3 _ (List.mem_of_getElem? (i := 107) rfl)) rfl
theorem bs_14 : Cond.selects RX3 yX3_wordBetween yX3_wordBetween ∈ bigL := bgm (List.mem_append_left _ (List.mem_of_getElem? (i := 14) rfl)) rfl
theorem bw_3_108 : Cond.code yX3_wordBetween cX3_wordBetween 4 (some .int) ∈ bigL := bgm (tm_3 _ (List.mem_of_getElem? (i := 108) rfl)) rfl
theorem bw_3_109 : Cond.methodLink RX3 67 yX3_wordOf ∈ bigL := bgm (tm_3 _ (List.mem_of_getElem? (i := 109) rfl)) rfl
theorem bw_3_110 : Cond.static yX3_wordOf ∈ bigL := bgm (tm_3 _ (List.mem_of_getElem? (i := 110) rfl)) rfl
theorem bw_3_111 : Cond.code yX3_wordOf cX3_wordOf 1 (some (.object "java/lang/String")) ∈ bigL := bgm (tm_3 _ (List.mem_of_getElem? (i := 111) rfl)) rfl
theorem bw_3_120 : Cond.methodLink RX3 70 yX3_standsBetween ∈ bigL := bgm (tm_3 _ (List.mem_of_getElem? (i := 120) rfl)) rfl
theorem bw_3_122 : Cond.instanceMethod yX3_standsBetween ∈ bigL := bgm (tm_3 _ (List.mem_of_getElem? (i := 122) rfl)) rfl
theorem bs_15 : Cond.selects RX3 yX3_standsBetween yX3_standsBetween ∈ bigL := bgm (List.mem_append_left _ (List.mem_of_getElem? (i := 15) rfl)) rfl
theorem bw_3_123 : Cond.code yX3_standsBetween cX3_standsBetween 5 (some .boolean) ∈ bigL := bgm (tm_3 _ (List.mem_of_getElem? (i := 123) rfl)) rfl
theorem bw_3_124 : Cond.methodLink RX3 54 yJ0_length_8abf5 ∈ bigL := bgm (tm_3 _ (List.mem_of_getElem? (i := 124) rfl)) rfl
theorem bw_3_125 : Cond.instanceMethod yJ0_length_8abf5 ∈ bigL := bgm (tm_3 _ (List.mem_of_getElem? (i := 125) rfl)) rfl
theorem bw_3_126 : Cond.selects RJ0 yJ0_length_8abf5 yJ0_length_8abf5 ∈ bigL := bgm (tm_3 _ (List.mem_of_getElem? (i := 126) rfl)) rfl
theorem bw_1_11 : Cond.initialized RJ0 ∈ bigL := bgm (tm_1 _ (List.mem_of_getElem? (i := 11) rfl)) rfl
theorem bw_3_127 : Cond.code yJ0_length_8abf5 cJ0_length_8abf5 1 (some .int) ∈ bigL := bgm (tm_3 _ (List.mem_of_getElem? (i := 127) rfl)) rfl
theorem bw_6_166 : Cond.fieldLink RJ0 9 "java/lang/String" "value" "[B" ∈ bigL := bgm (tm_6 _ (List.mem_of_getElem? (i := 166) rfl)) rfl
theorem bw_3_128 : Cond.methodLink RJ0 335 yJ0_coder_7d493 ∈ bigL := bgm (tm_3 _ (List.mem_of_getElem? (i := 128) rfl)) rfl
theorem bw_3_129 : Cond.instanceMethod yJ0_coder_7d493 ∈ bigL := bgm (tm_3 _ (List.mem_of_getElem? (i := 129) rfl)) rfl
theorem bw_3_130 : Cond.selects RJ0 yJ0_coder_7d493 yJ0_coder_7d493 ∈ bigL := bgm (tm_3 _ (List.mem_of_getElem? (i := 130) rfl)) rfl
theorem bw_3_131 : Cond.code yJ0_coder_7d493 cJ0_coder_7d493 1 (some .byte) ∈ bigL := bgm (tm_3 _ (List.mem_of_getElem? (i := 131) rfl)) rfl
theorem bw_3_132 : Cond.fieldLink RJ0 38 "java/lang/String" "COMPACT_STRINGS" "Z" ∈ bigL := bgm (tm_3 _ (List.mem_of_getElem? (i := 132) rfl)) rfl
theorem bw_6_167 : Cond.fieldLink RJ0 15 "java/lang/String" "coder" "B" ∈ bigL := bgm (tm_6 _ (List.mem_of_getElem? (i := 167) rfl)) rfl
theorem bw_3_133 : Cond.methodLink RX3 59 yJ0_charAt_5068e ∈ bigL := bgm (tm_3 _ (List.mem_of_getElem? (i := 133) rfl)) rfl
theorem bw_3_134 : Cond.instanceMethod yJ0_charAt_5068e ∈ bigL := bgm (tm_3 _ (List.mem_of_getElem? (i := 134) rfl)) rfl
theorem bw_3_135 : Cond.selects RJ0 yJ0_charAt_5068e yJ0_charAt_5068e ∈ bigL := bgm (tm_3 _ (List.mem_of_getElem? (i := 135) rfl)) rfl
theorem bw_3_136 : Cond.code yJ0_charAt_5068e cJ0_charAt_5068e 2 (some .char) ∈ bigL := bgm (tm_3 _ (List.mem_of_getElem? (i := 136) rfl)) rfl
theorem bw_3_137 : Cond.methodLink RJ0 492 yJ0_isLatin1_aae02 ∈ bigL := bgm (tm_3 _ (List.mem_of_getElem? (i := 137) rfl)) rfl
theorem bw_3_138 : Cond.instanceMethod yJ0_isLatin1_aae02 ∈ bigL := bgm (tm_3 _ (List.mem_of_getElem? (i := 138) rfl)) rfl
theorem bw_3_139 : Cond.selects RJ0 yJ0_isLatin1_aae02 yJ0_isLatin1_aae02 ∈ bigL := bgm (tm_3 _ (List.mem_of_getElem? (i := 139) rfl)) rfl
theorem bw_3_140 : Cond.code yJ0_isLatin1_aae02 cJ0_isLatin1_aae02 1 (some .boolean) ∈ bigL := bgm (tm_3 _ (List.mem_of_getElem? (i := 140) rfl)) rfl
theorem bw_3_141 : Cond.methodLink RJ0 495 yJ1_charAt_3b067 ∈ bigL := bgm (tm_3 _ (List.mem_of_getElem? (i := 141) rfl)) rfl
theorem bw_3_142 : Cond.static yJ1_charAt_3b067 ∈ bigL := bgm (tm_3 _ (List.mem_of_getElem? (i := 142) rfl)) rfl
theorem bw_1_16 : Cond.initialized RJ1 ∈ bigL := bgm (tm_1 _ (List.mem_of_getElem? (i := 16) rfl)) rfl
theorem bw_3_143 : Cond.code yJ1_charAt_3b067 cJ1_charAt_3b067 2 (some .char) ∈ bigL := bgm (tm_3 _ (List.mem_of_getElem? (i := 143) rfl)) rfl
theorem bw_3_144 : Cond.methodLink RJ1 9 yJ0_checkIndex_df160 ∈ bigL := bgm (tm_3 _ (List.mem_of_getElem? (i := 144) rfl)) rfl
theorem bw_3_145 : Cond.static yJ0_checkIndex_df160 ∈ bigL := bgm (tm_3 _ (List.mem_of_getElem? (i := 145) rfl)) rfl
theorem bw_3_146 : Cond.code yJ0_checkIndex_df160 cJ0_checkIndex_df160 2 none ∈ bigL := bgm (tm_3 _ (List.mem_of_getElem? (i := 146) rfl)) rfl
theorem bw_3_147 : Cond.fieldLink RJ0 1053 "jdk/internal/util/Preconditions" "SIOOBE_FORMATTER" "Ljava/util/function/BiFunction;" ∈ bigL := bgm (tm_3 _ (List.mem_of_getElem? (i := 147) rfl)) rfl
theorem bw_3_149 : Cond.methodLink RJ0 1059 yJ3_checkIndex_8e157 ∈ bigL := bgm (tm_3 _ (List.mem_of_getElem? (i := 149) rfl)) rfl
theorem bw_3_150 : Cond.static yJ3_checkIndex_8e157 ∈ bigL := bgm (tm_3 _ (List.mem_of_getElem? (i := 150) rfl)) rfl
theorem bw_1_17 : Cond.initialized RJ3 ∈ bigL := bgm (tm_1 _ (List.mem_of_getElem? (i := 17) rfl)) rfl
theorem bw_3_151 : Cond.code yJ3_checkIndex_8e157 cJ3_checkIndex_8e157 3 (some .int) ∈ bigL := bgm (tm_3 _ (List.mem_of_getElem? (i := 151) rfl)) rfl
theorem bw_3_152 : Cond.methodLink RJ0 498 yJ2_charAt_3b067 ∈ bigL := bgm (tm_3 _ (List.mem_of_getElem? (i := 152) rfl)) rfl
theorem bw_3_153 : Cond.static yJ2_charAt_3b067 ∈ bigL := bgm (tm_3 _ (List.mem_of_getElem? (i := 153) rfl)) rfl
theorem bw_3_154 : Cond.code yJ2_charAt_3b067 cJ2_charAt_3b067 2 (some .char) ∈ bigL := bgm (tm_3 _ (List.mem_of_getElem? (i := 154) rfl)) rfl
theorem bw_3_155 : Cond.methodLink RJ2 67 yJ2_checkIndex_2214a ∈ bigL := bgm (tm_3 _ (List.mem_of_getElem? (i := 155) rfl)) rfl
theorem bw_3_156 : Cond.static yJ2_checkIndex_2214a ∈ bigL := bgm (tm_3 _ (List.mem_of_getElem? (i := 156) rfl)) rfl
theorem bw_3_157 : Cond.code yJ2_checkIndex_2214a cJ2_checkIndex_2214a 2 none ∈ bigL := bgm (tm_3 _ (List.mem_of_getElem? (i := 157) rfl)) rfl
theorem bw_3_158 : Cond.methodLink RJ2 48 yJ2_length_9d52b ∈ bigL := bgm (tm_3 _ (List.mem_of_getElem? (i := 158) rfl)) rfl
theorem bw_3_159 : Cond.static yJ2_length_9d52b ∈ bigL := bgm (tm_3 _ (List.mem_of_getElem? (i := 159) rfl)) rfl
theorem bw_3_160 : Cond.code yJ2_length_9d52b cJ2_length_9d52b 1 (some .int) ∈ bigL := bgm (tm_3 _ (List.mem_of_getElem? (i := 160) rfl)) rfl
theorem bw_3_161 : Cond.methodLink RJ2 414 yJ0_checkIndex_df160 ∈ bigL := bgm (tm_3 _ (List.mem_of_getElem? (i := 161) rfl)) rfl
theorem bw_3_162 : Cond.methodLink RJ2 71 yJ2_getChar_3b067 ∈ bigL := bgm (tm_3 _ (List.mem_of_getElem? (i := 162) rfl)) rfl
theorem bw_3_163 : Cond.static yJ2_getChar_3b067 ∈ bigL := bgm (tm_3 _ (List.mem_of_getElem? (i := 163) rfl)) rfl
theorem bw_3_164 : Cond.code yJ2_getChar_3b067 cJ2_getChar_3b067 2 (some .char) ∈ bigL := bgm (tm_3 _ (List.mem_of_getElem? (i := 164) rfl)) rfl
theorem bw_3_165 : Cond.fieldLink RJ2 44 "java/lang/StringUTF16" "$assertionsDisabled" "Z" ∈ bigL := bgm (tm_3 _ (List.mem_of_getElem? (i := 165) rfl)) rfl
theorem bw_3_167 : Cond.fieldLink RJ2 59 "java/lang/StringUTF16" "HI_BYTE_SHIFT" "I" ∈ bigL := bgm (tm_3 _ (List.mem_of_getElem? (i := 167) rfl)) rfl
theorem bw_3_169 : Cond.fieldLink RJ2 63 "java/lang/StringUTF16" "LO_BYTE_SHIFT" "I" ∈ bigL := bgm (tm_3 _ (List.mem_of_getElem? (i := 169) rfl)) rfl
theorem bw_3_171 : Cond.methodLink RX3 50 yX3_placesOf ∈ bigL := bgm (tm_3 _ (List.mem_of_getElem? (i := 171) rfl)) rfl
theorem bw_3_172 : Cond.static yX3_placesOf ∈ bigL := bgm (tm_3 _ (List.mem_of_getElem? (i := 172) rfl)) rfl
theorem bw_3_173 : Cond.code yX3_placesOf cX3_placesOf 1 (some (.object "java/lang/String")) ∈ bigL := bgm (tm_3 _ (List.mem_of_getElem? (i := 173) rfl)) rfl
theorem bw_3_179 : Cond.methodLink RX3 33 yX3_atEnd ∈ bigL := bgm (tm_3 _ (List.mem_of_getElem? (i := 179) rfl)) rfl
theorem bw_3_180 : Cond.instanceMethod yX3_atEnd ∈ bigL := bgm (tm_3 _ (List.mem_of_getElem? (i := 180) rfl)) rfl
theorem bw_3_181 : Cond.selects RX3 yX3_atEnd yX3_atEnd ∈ bigL := bgm (tm_3 _ (List.mem_of_getElem? (i := 181) rfl)) rfl
theorem bw_3_182 : Cond.code yX3_atEnd cX3_atEnd 1 (some .boolean) ∈ bigL := bgm (tm_3 _ (List.mem_of_getElem? (i := 182) rfl)) rfl
theorem bw_3_183 : Cond.methodLink RX3 63 yX3_numberBetween ∈ bigL := bgm (tm_3 _ (List.mem_of_getElem? (i := 183) rfl)) rfl
theorem bw_3_185 : Cond.instanceMethod yX3_numberBetween ∈ bigL := bgm (tm_3 _ (List.mem_of_getElem? (i := 185) rfl)) rfl
theorem bs_16 : Cond.selects RX3 yX3_numberBetween yX3_numberBetween ∈ bigL := bgm (List.mem_append_left _ (List.mem_of_getElem? (i := 16) rfl)) rfl
theorem bw_3_186 : Cond.code yX3_numberBetween cX3_numberBetween 6 (some .int) ∈ bigL := bgm (tm_3 _ (List.mem_of_getElem? (i := 186) rfl)) rfl
theorem bw_3_187 : Cond.methodLink RX3 74 yX3_leastAt ∈ bigL := bgm (tm_3 _ (List.mem_of_getElem? (i := 187) rfl)) rfl
theorem bw_3_188 : Cond.static yX3_leastAt ∈ bigL := bgm (tm_3 _ (List.mem_of_getElem? (i := 188) rfl)) rfl
theorem bw_3_189 : Cond.code yX3_leastAt cX3_leastAt 1 (some .int) ∈ bigL := bgm (tm_3 _ (List.mem_of_getElem? (i := 189) rfl)) rfl
theorem bw_3_190 : Cond.methodLink RX3 78 yX3_mostAt ∈ bigL := bgm (tm_3 _ (List.mem_of_getElem? (i := 190) rfl)) rfl
theorem bw_3_191 : Cond.static yX3_mostAt ∈ bigL := bgm (tm_3 _ (List.mem_of_getElem? (i := 191) rfl)) rfl
theorem bw_3_192 : Cond.code yX3_mostAt cX3_mostAt 1 (some .int) ∈ bigL := bgm (tm_3 _ (List.mem_of_getElem? (i := 192) rfl)) rfl
theorem bw_3_193 : Cond.constant RX3 111 (1000000) ∈ bigL := bgm (tm_3 _ (List.mem_of_getElem? (i := 193) rfl)) rfl
theorem bw_3_194 : Cond.constant RX3 112 (10000000) ∈ bigL := bgm (tm_3 _ (List.mem_of_getElem? (i := 194) rfl)) rfl
theorem bw_3_196 : Cond.methodLink RX3 36 yX3_skipSeparator ∈ bigL := bgm (tm_3 _ (List.mem_of_getElem? (i := 196) rfl)) rfl
theorem bw_3_197 : Cond.instanceMethod yX3_skipSeparator ∈ bigL := bgm (tm_3 _ (List.mem_of_getElem? (i := 197) rfl)) rfl
theorem bw_3_198 : Cond.selects RX3 yX3_skipSeparator yX3_skipSeparator ∈ bigL := bgm (tm_3 _ (List.mem_of_getElem? (i := 198) rfl)) rfl
theorem bw_3_199 : Cond.code yX3_skipSeparator cX3_skipSeparator 1 none ∈ bigL := bgm (tm_3 _ (List.mem_of_getElem? (i := 199) rfl)) rfl
theorem bw_3_200 : Cond.methodLink RX7 161 yX7_carryOutOrders ∈ bigL := bgm (tm_3 _ (List.mem_of_getElem? (i := 200) rfl)) rfl
theorem bw_3_202 : Cond.instanceMethod yX7_carryOutOrders ∈ bigL := bgm (tm_3 _ (List.mem_of_getElem? (i := 202) rfl)) rfl
theorem bs_17 : Cond.selects RX7 yX7_carryOutOrders yX7_carryOutOrders ∈ bigL := bgm (List.mem_append_left _ (List.mem_of_getElem? (i := 17) rfl)) rfl
theorem bw_3_203 : Cond.code yX7_carryOutOrders cX7_carryOutOrders 2 (some .int) ∈ bigL := bgm (tm_3 _ (List.mem_of_getElem? (i := 203) rfl)) rfl
theorem bw_3_204 : Cond.methodLink RX7 333 yX3_goToStart ∈ bigL := bgm (tm_3 _ (List.mem_of_getElem? (i := 204) rfl)) rfl
theorem bw_3_205 : Cond.methodLink RX7 336 yX3_atEnd ∈ bigL := bgm (tm_3 _ (List.mem_of_getElem? (i := 205) rfl)) rfl
theorem bw_3_206 : Cond.methodLink RX7 339 yX3_readOrder ∈ bigL := bgm (tm_3 _ (List.mem_of_getElem? (i := 206) rfl)) rfl
theorem bw_3_207 : Cond.methodLink RX7 342 yX7_carryOutOrder ∈ bigL := bgm (tm_3 _ (List.mem_of_getElem? (i := 207) rfl)) rfl
theorem bw_3_209 : Cond.instanceMethod yX7_carryOutOrder ∈ bigL := bgm (tm_3 _ (List.mem_of_getElem? (i := 209) rfl)) rfl
theorem bs_18 : Cond.selects RX7 yX7_carryOutOrder yX7_carryOutOrder ∈ bigL := bgm (List.mem_append_left _ (List.mem_of_getElem? (i := 18) rfl)) rfl
theorem bw_3_210 : Cond.code yX7_carryOutOrder cX7_carryOutOrder 2 (some .int) ∈ bigL := bgm (tm_3 _ (List.mem_of_getElem? (i := 210) rfl)) rfl
theorem bw_2_18 : Cond.fieldLink RX7 348 "BondedStore$Orders" "numbers" "[I" ∈ bigL := bgm (tm_2 _ (List.mem_of_getElem? (i := 18) rfl)) rfl
theorem bw_2_16 : Cond.fieldLink RX7 351 "BondedStore$Orders" "word" "I" ∈ bigL := bgm (tm_2 _ (List.mem_of_getElem? (i := 16) rfl)) rfl
theorem bw_3_211 : Cond.methodLink RX7 345 yX3_skipSeparator ∈ bigL := bgm (tm_3 _ (List.mem_of_getElem? (i := 211) rfl)) rfl
theorem bw_6_44 : Cond.methodLink RL 86 yX8_runOrders ∈ bigL := bgm (tm_6 _ (List.mem_of_getElem? (i := 44) rfl)) rfl
theorem bw_6_45 : Cond.instanceMethod yX8_runOrders ∈ bigL := bgm (tm_6 _ (List.mem_of_getElem? (i := 45) rfl)) rfl
theorem bw_6_46 : Cond.selects RX8 yX8_runOrders yX8_runOrders ∈ bigL := bgm (tm_6 _ (List.mem_of_getElem? (i := 46) rfl)) rfl
theorem bw_6_47 : Cond.code yX8_runOrders cX8_runOrders 4 (some .int) ∈ bigL := bgm (tm_6 _ (List.mem_of_getElem? (i := 47) rfl)) rfl
theorem bw_4_237 : Cond.fieldLink RX8 214 "BondedStoreModel" "fault" "I" ∈ bigL := bgm (tm_4 _ (List.mem_of_getElem? (i := 237) rfl)) rfl
theorem bw_4_238 : Cond.fieldLink RX8 235 "BondedStoreModel" "orders" "I" ∈ bigL := bgm (tm_4 _ (List.mem_of_getElem? (i := 238) rfl)) rfl
theorem bw_6_48 : Cond.methodLink RX8 246 yX8_readAll ∈ bigL := bgm (tm_6 _ (List.mem_of_getElem? (i := 48) rfl)) rfl
theorem bw_6_50 : Cond.instanceMethod yX8_readAll ∈ bigL := bgm (tm_6 _ (List.mem_of_getElem? (i := 50) rfl)) rfl
theorem bs_56 : Cond.selects RX8 yX8_readAll yX8_readAll ∈ bigL := bgm (List.mem_append_left _ (List.mem_of_getElem? (i := 56) rfl)) rfl
theorem bw_6_51 : Cond.code yX8_readAll cX8_readAll 1 none ∈ bigL := bgm (tm_6 _ (List.mem_of_getElem? (i := 51) rfl)) rfl
theorem bw_4_236 : Cond.fieldLink RX8 211 "BondedStoreModel" "to" "I" ∈ bigL := bgm (tm_4 _ (List.mem_of_getElem? (i := 236) rfl)) rfl
theorem bw_6_52 : Cond.methodLink RX8 243 yX8_readOrder ∈ bigL := bgm (tm_6 _ (List.mem_of_getElem? (i := 52) rfl)) rfl
theorem bw_6_54 : Cond.instanceMethod yX8_readOrder ∈ bigL := bgm (tm_6 _ (List.mem_of_getElem? (i := 54) rfl)) rfl
theorem bs_57 : Cond.selects RX8 yX8_readOrder yX8_readOrder ∈ bigL := bgm (List.mem_append_left _ (List.mem_of_getElem? (i := 57) rfl)) rfl
theorem bw_6_55 : Cond.code yX8_readOrder cX8_readOrder 4 none ∈ bigL := bgm (tm_6 _ (List.mem_of_getElem? (i := 55) rfl)) rfl
theorem bw_5_38 : Cond.constant RX8 46 (-100000005) ∈ bigL := bgm (tm_5 _ (List.mem_of_getElem? (i := 38) rfl)) rfl
theorem bw_4_235 : Cond.fieldLink RX8 208 "BondedStoreModel" "from" "I" ∈ bigL := bgm (tm_4 _ (List.mem_of_getElem? (i := 235) rfl)) rfl
theorem bw_6_77 : Cond.constant RX8 241 (1000000) ∈ bigL := bgm (tm_6 _ (List.mem_of_getElem? (i := 77) rfl)) rfl
theorem bw_6_78 : Cond.constant RX8 242 (10000000) ∈ bigL := bgm (tm_6 _ (List.mem_of_getElem? (i := 78) rfl)) rfl
theorem bw_6_56 : Cond.methodLink RX8 225 yX8_find ∈ bigL := bgm (tm_6 _ (List.mem_of_getElem? (i := 56) rfl)) rfl
theorem bw_6_58 : Cond.instanceMethod yX8_find ∈ bigL := bgm (tm_6 _ (List.mem_of_getElem? (i := 58) rfl)) rfl
theorem bs_58 : Cond.selects RX8 yX8_find yX8_find ∈ bigL := bgm (List.mem_append_left _ (List.mem_of_getElem? (i := 58) rfl)) rfl
theorem bw_6_59 : Cond.code yX8_find cX8_find 2 none ∈ bigL := bgm (tm_6 _ (List.mem_of_getElem? (i := 59) rfl)) rfl
theorem bw_6_60 : Cond.methodLink RX8 231 yX8_word ∈ bigL := bgm (tm_6 _ (List.mem_of_getElem? (i := 60) rfl)) rfl
theorem bw_6_62 : Cond.instanceMethod yX8_word ∈ bigL := bgm (tm_6 _ (List.mem_of_getElem? (i := 62) rfl)) rfl
theorem bs_59 : Cond.selects RX8 yX8_word yX8_word ∈ bigL := bgm (List.mem_append_left _ (List.mem_of_getElem? (i := 59) rfl)) rfl
theorem bw_6_63 : Cond.code yX8_word cX8_word 1 (some .int) ∈ bigL := bgm (tm_6 _ (List.mem_of_getElem? (i := 63) rfl)) rfl
theorem bw_6_64 : Cond.methodLink RX8 217 yX8_begins ∈ bigL := bgm (tm_6 _ (List.mem_of_getElem? (i := 64) rfl)) rfl
theorem bw_6_66 : Cond.instanceMethod yX8_begins ∈ bigL := bgm (tm_6 _ (List.mem_of_getElem? (i := 66) rfl)) rfl
theorem bs_60 : Cond.selects RX8 yX8_begins yX8_begins ∈ bigL := bgm (List.mem_append_left _ (List.mem_of_getElem? (i := 60) rfl)) rfl
theorem bw_6_67 : Cond.code yX8_begins cX8_begins 6 (some .boolean) ∈ bigL := bgm (tm_6 _ (List.mem_of_getElem? (i := 67) rfl)) rfl
theorem bw_6_68 : Cond.methodLink RX8 221 yX8_isAt ∈ bigL := bgm (tm_6 _ (List.mem_of_getElem? (i := 68) rfl)) rfl
theorem bw_6_70 : Cond.instanceMethod yX8_isAt ∈ bigL := bgm (tm_6 _ (List.mem_of_getElem? (i := 70) rfl)) rfl
theorem bs_61 : Cond.selects RX8 yX8_isAt yX8_isAt ∈ bigL := bgm (List.mem_append_left _ (List.mem_of_getElem? (i := 61) rfl)) rfl
theorem bw_6_71 : Cond.code yX8_isAt cX8_isAt 3 (some .boolean) ∈ bigL := bgm (tm_6 _ (List.mem_of_getElem? (i := 71) rfl)) rfl
theorem bw_6_72 : Cond.methodLink RX8 238 yX8_told ∈ bigL := bgm (tm_6 _ (List.mem_of_getElem? (i := 72) rfl)) rfl
theorem bw_6_74 : Cond.instanceMethod yX8_told ∈ bigL := bgm (tm_6 _ (List.mem_of_getElem? (i := 74) rfl)) rfl
theorem bs_62 : Cond.selects RX8 yX8_told yX8_told ∈ bigL := bgm (List.mem_append_left _ (List.mem_of_getElem? (i := 62) rfl)) rfl
theorem bw_6_75 : Cond.code yX8_told cX8_told 6 (some .int) ∈ bigL := bgm (tm_6 _ (List.mem_of_getElem? (i := 75) rfl)) rfl
theorem bw_6_76 : Cond.constantLong RX8 229 (8) ∈ bigL := bgm (tm_6 _ (List.mem_of_getElem? (i := 76) rfl)) rfl
theorem bw_6_79 : Cond.methodLink RX8 249 yX8_check ∈ bigL := bgm (tm_6 _ (List.mem_of_getElem? (i := 79) rfl)) rfl
theorem bw_6_81 : Cond.instanceMethod yX8_check ∈ bigL := bgm (tm_6 _ (List.mem_of_getElem? (i := 81) rfl)) rfl
theorem bs_63 : Cond.selects RX8 yX8_check yX8_check ∈ bigL := bgm (List.mem_append_left _ (List.mem_of_getElem? (i := 63) rfl)) rfl
theorem bw_6_82 : Cond.code yX8_check cX8_check 6 (some .int) ∈ bigL := bgm (tm_6 _ (List.mem_of_getElem? (i := 82) rfl)) rfl
theorem bw_6_83 : Cond.methodLink RX8 253 yX8_does ∈ bigL := bgm (tm_6 _ (List.mem_of_getElem? (i := 83) rfl)) rfl
theorem bw_6_85 : Cond.instanceMethod yX8_does ∈ bigL := bgm (tm_6 _ (List.mem_of_getElem? (i := 85) rfl)) rfl
theorem bs_64 : Cond.selects RX8 yX8_does yX8_does ∈ bigL := bgm (List.mem_append_left _ (List.mem_of_getElem? (i := 64) rfl)) rfl
theorem bw_6_86 : Cond.code yX8_does cX8_does 6 (some .int) ∈ bigL := bgm (tm_6 _ (List.mem_of_getElem? (i := 86) rfl)) rfl
theorem bw_3_212 : Cond.methodLink RL 87 yX7_undo ∈ bigL := bgm (tm_3 _ (List.mem_of_getElem? (i := 212) rfl)) rfl
theorem bw_3_213 : Cond.instanceMethod yX7_undo ∈ bigL := bgm (tm_3 _ (List.mem_of_getElem? (i := 213) rfl)) rfl
theorem bw_3_214 : Cond.selects RX7 yX7_undo yX7_undo ∈ bigL := bgm (tm_3 _ (List.mem_of_getElem? (i := 214) rfl)) rfl
theorem bw_3_215 : Cond.code yX7_undo cX7_undo 1 (some .int) ∈ bigL := bgm (tm_3 _ (List.mem_of_getElem? (i := 215) rfl)) rfl
theorem bw_1_237 : Cond.fieldLink RX7 168 "BondedStore$History" "size" "I" ∈ bigL := bgm (tm_1 _ (List.mem_of_getElem? (i := 237) rfl)) rfl
theorem bw_3_220 : Cond.constant RX7 171 (-100000005) ∈ bigL := bgm (tm_3 _ (List.mem_of_getElem? (i := 220) rfl)) rfl
theorem bw_3_216 : Cond.methodLink RX7 164 yX1_takeBack ∈ bigL := bgm (tm_3 _ (List.mem_of_getElem? (i := 216) rfl)) rfl
theorem bw_3_217 : Cond.instanceMethod yX1_takeBack ∈ bigL := bgm (tm_3 _ (List.mem_of_getElem? (i := 217) rfl)) rfl
theorem bw_3_218 : Cond.selects RX1 yX1_takeBack yX1_takeBack ∈ bigL := bgm (tm_3 _ (List.mem_of_getElem? (i := 218) rfl)) rfl
theorem bw_3_219 : Cond.code yX1_takeBack cX1_takeBack 2 (some .boolean) ∈ bigL := bgm (tm_3 _ (List.mem_of_getElem? (i := 219) rfl)) rfl
theorem bw_5_34 : Cond.methodLink RL 90 yX8_undo ∈ bigL := bgm (tm_5 _ (List.mem_of_getElem? (i := 34) rfl)) rfl
theorem bw_5_35 : Cond.instanceMethod yX8_undo ∈ bigL := bgm (tm_5 _ (List.mem_of_getElem? (i := 35) rfl)) rfl
theorem bw_5_36 : Cond.selects RX8 yX8_undo yX8_undo ∈ bigL := bgm (tm_5 _ (List.mem_of_getElem? (i := 36) rfl)) rfl
theorem bw_5_37 : Cond.code yX8_undo cX8_undo 2 (some .int) ∈ bigL := bgm (tm_5 _ (List.mem_of_getElem? (i := 37) rfl)) rfl
theorem bw_3_221 : Cond.methodLink RL 91 yX7_keep ∈ bigL := bgm (tm_3 _ (List.mem_of_getElem? (i := 221) rfl)) rfl
theorem bw_3_222 : Cond.instanceMethod yX7_keep ∈ bigL := bgm (tm_3 _ (List.mem_of_getElem? (i := 222) rfl)) rfl
theorem bw_3_223 : Cond.selects RX7 yX7_keep yX7_keep ∈ bigL := bgm (tm_3 _ (List.mem_of_getElem? (i := 223) rfl)) rfl
theorem bw_3_224 : Cond.code yX7_keep cX7_keep 2 (some .int) ∈ bigL := bgm (tm_3 _ (List.mem_of_getElem? (i := 224) rfl)) rfl
theorem bw_3_225 : Cond.methodLink RX7 172 yX6_copyFrom ∈ bigL := bgm (tm_3 _ (List.mem_of_getElem? (i := 225) rfl)) rfl
theorem bw_5_39 : Cond.methodLink RL 94 yX8_keep ∈ bigL := bgm (tm_5 _ (List.mem_of_getElem? (i := 39) rfl)) rfl
theorem bw_5_40 : Cond.instanceMethod yX8_keep ∈ bigL := bgm (tm_5 _ (List.mem_of_getElem? (i := 40) rfl)) rfl
theorem bw_5_41 : Cond.selects RX8 yX8_keep yX8_keep ∈ bigL := bgm (tm_5 _ (List.mem_of_getElem? (i := 41) rfl)) rfl
theorem bw_5_42 : Cond.code yX8_keep cX8_keep 3 (some .int) ∈ bigL := bgm (tm_5 _ (List.mem_of_getElem? (i := 42) rfl)) rfl
theorem bw_3_226 : Cond.methodLink RL 95 yX7_restore ∈ bigL := bgm (tm_3 _ (List.mem_of_getElem? (i := 226) rfl)) rfl
theorem bw_3_227 : Cond.instanceMethod yX7_restore ∈ bigL := bgm (tm_3 _ (List.mem_of_getElem? (i := 227) rfl)) rfl
theorem bw_3_228 : Cond.selects RX7 yX7_restore yX7_restore ∈ bigL := bgm (tm_3 _ (List.mem_of_getElem? (i := 228) rfl)) rfl
theorem bw_3_229 : Cond.code yX7_restore cX7_restore 2 (some .int) ∈ bigL := bgm (tm_3 _ (List.mem_of_getElem? (i := 229) rfl)) rfl
theorem bw_5_51 : Cond.methodLink RL 98 yX8_restore ∈ bigL := bgm (tm_5 _ (List.mem_of_getElem? (i := 51) rfl)) rfl
theorem bw_5_52 : Cond.instanceMethod yX8_restore ∈ bigL := bgm (tm_5 _ (List.mem_of_getElem? (i := 52) rfl)) rfl
theorem bw_5_53 : Cond.selects RX8 yX8_restore yX8_restore ∈ bigL := bgm (tm_5 _ (List.mem_of_getElem? (i := 53) rfl)) rfl
theorem bw_5_54 : Cond.code yX8_restore cX8_restore 3 (some .int) ∈ bigL := bgm (tm_5 _ (List.mem_of_getElem? (i := 54) rfl)) rfl
theorem bw_3_230 : Cond.methodLink RL 99 yX7_owner ∈ bigL := bgm (tm_3 _ (List.mem_of_getElem? (i := 230) rfl)) rfl
theorem bw_3_231 : Cond.instanceMethod yX7_owner ∈ bigL := bgm (tm_3 _ (List.mem_of_getElem? (i := 231) rfl)) rfl
theorem bw_3_232 : Cond.selects RX7 yX7_owner yX7_owner ∈ bigL := bgm (tm_3 _ (List.mem_of_getElem? (i := 232) rfl)) rfl
theorem bw_3_233 : Cond.code yX7_owner cX7_owner 4 (some .long) ∈ bigL := bgm (tm_3 _ (List.mem_of_getElem? (i := 233) rfl)) rfl
theorem bw_3_234 : Cond.constantLong RX7 178 (-100000001) ∈ bigL := bgm (tm_3 _ (List.mem_of_getElem? (i := 234) rfl)) rfl
theorem bw_1_82 : Cond.fieldLink RX7 186 "BondedStore$Owner" "called" "I" ∈ bigL := bgm (tm_1 _ (List.mem_of_getElem? (i := 82) rfl)) rfl
theorem bw_3_239 : Cond.constantLong RX7 189 (-100000002) ∈ bigL := bgm (tm_3 _ (List.mem_of_getElem? (i := 239) rfl)) rfl
theorem bw_3_235 : Cond.methodLink RX7 183 yX6_storedLotsOf ∈ bigL := bgm (tm_3 _ (List.mem_of_getElem? (i := 235) rfl)) rfl
theorem bw_3_236 : Cond.instanceMethod yX6_storedLotsOf ∈ bigL := bgm (tm_3 _ (List.mem_of_getElem? (i := 236) rfl)) rfl
theorem bw_3_237 : Cond.selects RX6 yX6_storedLotsOf yX6_storedLotsOf ∈ bigL := bgm (tm_3 _ (List.mem_of_getElem? (i := 237) rfl)) rfl
theorem bw_3_238 : Cond.code yX6_storedLotsOf cX6_storedLotsOf 4 (some .int) ∈ bigL := bgm (tm_3 _ (List.mem_of_getElem? (i := 238) rfl)) rfl
theorem bw_6_87 : Cond.methodLink RL 103 yX8_owner ∈ bigL := bgm (tm_6 _ (List.mem_of_getElem? (i := 87) rfl)) rfl
theorem bw_6_88 : Cond.instanceMethod yX8_owner ∈ bigL := bgm (tm_6 _ (List.mem_of_getElem? (i := 88) rfl)) rfl
theorem bw_6_89 : Cond.selects RX8 yX8_owner yX8_owner ∈ bigL := bgm (tm_6 _ (List.mem_of_getElem? (i := 89) rfl)) rfl
theorem bw_6_90 : Cond.code yX8_owner cX8_owner 3 (some .long) ∈ bigL := bgm (tm_6 _ (List.mem_of_getElem? (i := 90) rfl)) rfl
theorem bw_6_91 : Cond.constantLong RX8 256 (-100000001) ∈ bigL := bgm (tm_6 _ (List.mem_of_getElem? (i := 91) rfl)) rfl
theorem bw_6_96 : Cond.constantLong RX8 261 (-100000002) ∈ bigL := bgm (tm_6 _ (List.mem_of_getElem? (i := 96) rfl)) rfl
theorem bw_6_92 : Cond.methodLink RX8 258 yX8_stored ∈ bigL := bgm (tm_6 _ (List.mem_of_getElem? (i := 92) rfl)) rfl
theorem bw_6_94 : Cond.instanceMethod yX8_stored ∈ bigL := bgm (tm_6 _ (List.mem_of_getElem? (i := 94) rfl)) rfl
theorem bs_65 : Cond.selects RX8 yX8_stored yX8_stored ∈ bigL := bgm (List.mem_append_left _ (List.mem_of_getElem? (i := 65) rfl)) rfl
theorem bw_6_95 : Cond.code yX8_stored cX8_stored 5 (some .long) ∈ bigL := bgm (tm_6 _ (List.mem_of_getElem? (i := 95) rfl)) rfl
theorem bw_4_0 : Cond.methodLink RL 104 yX7_lot ∈ bigL := bgm (tm_4 _ (List.mem_of_getElem? (i := 0) rfl)) rfl
theorem bw_4_1 : Cond.instanceMethod yX7_lot ∈ bigL := bgm (tm_4 _ (List.mem_of_getElem? (i := 1) rfl)) rfl
theorem bw_4_2 : Cond.selects RX7 yX7_lot yX7_lot ∈ bigL := bgm (tm_4 _ (List.mem_of_getElem? (i := 2) rfl)) rfl
theorem bw_4_3 : Cond.code yX7_lot cX7_lot 4 (some .int) ∈ bigL := bgm (tm_4 _ (List.mem_of_getElem? (i := 3) rfl)) rfl
theorem bw_4_4 : Cond.methodLink RX7 233 yX6_waitingUnitsOf ∈ bigL := bgm (tm_4 _ (List.mem_of_getElem? (i := 4) rfl)) rfl
theorem bw_4_5 : Cond.instanceMethod yX6_waitingUnitsOf ∈ bigL := bgm (tm_4 _ (List.mem_of_getElem? (i := 5) rfl)) rfl
theorem bw_4_6 : Cond.selects RX6 yX6_waitingUnitsOf yX6_waitingUnitsOf ∈ bigL := bgm (tm_4 _ (List.mem_of_getElem? (i := 6) rfl)) rfl
theorem bw_4_7 : Cond.code yX6_waitingUnitsOf cX6_waitingUnitsOf 4 (some .int) ∈ bigL := bgm (tm_4 _ (List.mem_of_getElem? (i := 7) rfl)) rfl
theorem bw_1_160 : Cond.fieldLink RX6 99 "BondedStore$Export" "units" "I" ∈ bigL := bgm (tm_1 _ (List.mem_of_getElem? (i := 160) rfl)) rfl
theorem bw_4_8 : Cond.methodLink RX6 95 yX0_waits ∈ bigL := bgm (tm_4 _ (List.mem_of_getElem? (i := 8) rfl)) rfl
theorem bw_6_97 : Cond.methodLink RL 107 yX8_lot ∈ bigL := bgm (tm_6 _ (List.mem_of_getElem? (i := 97) rfl)) rfl
theorem bw_6_98 : Cond.instanceMethod yX8_lot ∈ bigL := bgm (tm_6 _ (List.mem_of_getElem? (i := 98) rfl)) rfl
theorem bw_6_99 : Cond.selects RX8 yX8_lot yX8_lot ∈ bigL := bgm (tm_6 _ (List.mem_of_getElem? (i := 99) rfl)) rfl
theorem bw_6_100 : Cond.code yX8_lot cX8_lot 3 (some .int) ∈ bigL := bgm (tm_6 _ (List.mem_of_getElem? (i := 100) rfl)) rfl
theorem bw_6_101 : Cond.constantLong RX8 263 (6) ∈ bigL := bgm (tm_6 _ (List.mem_of_getElem? (i := 101) rfl)) rfl
theorem bw_4_9 : Cond.methodLink RL 108 yX7_exported ∈ bigL := bgm (tm_4 _ (List.mem_of_getElem? (i := 9) rfl)) rfl
theorem bw_4_10 : Cond.instanceMethod yX7_exported ∈ bigL := bgm (tm_4 _ (List.mem_of_getElem? (i := 10) rfl)) rfl
theorem bw_4_11 : Cond.selects RX7 yX7_exported yX7_exported ∈ bigL := bgm (tm_4 _ (List.mem_of_getElem? (i := 11) rfl)) rfl
theorem bw_4_12 : Cond.code yX7_exported cX7_exported 4 (some .int) ∈ bigL := bgm (tm_4 _ (List.mem_of_getElem? (i := 12) rfl)) rfl
theorem bw_6_102 : Cond.methodLink RL 111 yX8_exported ∈ bigL := bgm (tm_6 _ (List.mem_of_getElem? (i := 102) rfl)) rfl
theorem bw_6_103 : Cond.instanceMethod yX8_exported ∈ bigL := bgm (tm_6 _ (List.mem_of_getElem? (i := 103) rfl)) rfl
theorem bw_6_104 : Cond.selects RX8 yX8_exported yX8_exported ∈ bigL := bgm (tm_6 _ (List.mem_of_getElem? (i := 104) rfl)) rfl
theorem bw_6_105 : Cond.code yX8_exported cX8_exported 3 (some .int) ∈ bigL := bgm (tm_6 _ (List.mem_of_getElem? (i := 105) rfl)) rfl
theorem bw_6_106 : Cond.constantLong RX8 265 (4) ∈ bigL := bgm (tm_6 _ (List.mem_of_getElem? (i := 106) rfl)) rfl
theorem bw_4_13 : Cond.methodLink RL 112 yX7_documentLength ∈ bigL := bgm (tm_4 _ (List.mem_of_getElem? (i := 13) rfl)) rfl
theorem bw_4_14 : Cond.instanceMethod yX7_documentLength ∈ bigL := bgm (tm_4 _ (List.mem_of_getElem? (i := 14) rfl)) rfl
theorem bw_4_15 : Cond.selects RX7 yX7_documentLength yX7_documentLength ∈ bigL := bgm (tm_4 _ (List.mem_of_getElem? (i := 15) rfl)) rfl
theorem bw_4_16 : Cond.code yX7_documentLength cX7_documentLength 3 (some .int) ∈ bigL := bgm (tm_4 _ (List.mem_of_getElem? (i := 16) rfl)) rfl
theorem bw_4_17 : Cond.methodLink RX7 255 yX7_writeDocument ∈ bigL := bgm (tm_4 _ (List.mem_of_getElem? (i := 17) rfl)) rfl
theorem bw_4_19 : Cond.instanceMethod yX7_writeDocument ∈ bigL := bgm (tm_4 _ (List.mem_of_getElem? (i := 19) rfl)) rfl
theorem bs_19 : Cond.selects RX7 yX7_writeDocument yX7_writeDocument ∈ bigL := bgm (List.mem_append_left _ (List.mem_of_getElem? (i := 19) rfl)) rfl
theorem bw_4_20 : Cond.code yX7_writeDocument cX7_writeDocument 4 none ∈ bigL := bgm (tm_4 _ (List.mem_of_getElem? (i := 20) rfl)) rfl
theorem bw_4_21 : Cond.methodLink RX7 358 yJ4_setLength_d00df ∈ bigL := bgm (tm_4 _ (List.mem_of_getElem? (i := 21) rfl)) rfl
theorem bw_4_22 : Cond.instanceMethod yJ4_setLength_d00df ∈ bigL := bgm (tm_4 _ (List.mem_of_getElem? (i := 22) rfl)) rfl
theorem bw_4_23 : Cond.selects RJ4 yJ4_setLength_d00df yJ4_setLength_d00df ∈ bigL := bgm (tm_4 _ (List.mem_of_getElem? (i := 23) rfl)) rfl
theorem bw_4_24 : Cond.code yJ4_setLength_d00df cJ4_setLength_d00df 2 none ∈ bigL := bgm (tm_4 _ (List.mem_of_getElem? (i := 24) rfl)) rfl
theorem bw_4_25 : Cond.methodLink RJ4 333 yJ5_setLength_d00df ∈ bigL := bgm (tm_4 _ (List.mem_of_getElem? (i := 25) rfl)) rfl
theorem bw_6_158 : Cond.sameMethod "java/lang/AbstractStringBuilder" "java/lang/AbstractStringBuilder" "setLength" "(I)V" ∈ bigL := bgm (tm_6 _ (List.mem_of_getElem? (i := 158) rfl)) rfl
theorem bw_2_62 : Cond.superclass RJ4 RJ5 ∈ bigL := bgm (tm_2 _ (List.mem_of_getElem? (i := 62) rfl)) rfl
theorem bw_4_26 : Cond.instanceMethod yJ5_setLength_d00df ∈ bigL := bgm (tm_4 _ (List.mem_of_getElem? (i := 26) rfl)) rfl
theorem bw_4_27 : Cond.code yJ5_setLength_d00df cJ5_setLength_d00df 2 none ∈ bigL := bgm (tm_4 _ (List.mem_of_getElem? (i := 27) rfl)) rfl
theorem bw_2_53 : Cond.fieldLink RJ5 79 "java/lang/AbstractStringBuilder" "count" "I" ∈ bigL := bgm (tm_2 _ (List.mem_of_getElem? (i := 53) rfl)) rfl
theorem bw_2_52 : Cond.fieldLink RJ5 73 "java/lang/AbstractStringBuilder" "maybeLatin1" "Z" ∈ bigL := bgm (tm_2 _ (List.mem_of_getElem? (i := 52) rfl)) rfl
theorem bw_4_28 : Cond.methodLink RJ5 100 ⟨"java/lang/AbstractStringBuilder", "ensureCapacityInternal", "(I)V"⟩ ∈ bigL := bgm (tm_4 _ (List.mem_of_getElem? (i := 28) rfl)) rfl
theorem bw_6_159 : Cond.sameMethod "java/lang/AbstractStringBuilder" "java/lang/AbstractStringBuilder" "ensureCapacityInternal" "(I)V" ∈ bigL := bgm (tm_6 _ (List.mem_of_getElem? (i := 159) rfl)) rfl
theorem bw_4_30 : Cond.instanceMethod yJ5_ensureCapacityInternal_d00df ∈ bigL := bgm (tm_4 _ (List.mem_of_getElem? (i := 30) rfl)) rfl
theorem bw_4_31 : Cond.code yJ5_ensureCapacityInternal_d00df cJ5_ensureCapacityInternal_d00df 3 none ∈ bigL := bgm (tm_4 _ (List.mem_of_getElem? (i := 31) rfl)) rfl
theorem bw_4_32 : Cond.methodLink RJ5 104 ⟨"java/lang/AbstractStringBuilder", "newCapacity", "(I)I"⟩ ∈ bigL := bgm (tm_4 _ (List.mem_of_getElem? (i := 32) rfl)) rfl
theorem bw_6_160 : Cond.sameMethod "java/lang/AbstractStringBuilder" "java/lang/AbstractStringBuilder" "newCapacity" "(I)I" ∈ bigL := bgm (tm_6 _ (List.mem_of_getElem? (i := 160) rfl)) rfl
theorem bw_4_34 : Cond.instanceMethod yJ5_newCapacity_0f7a4 ∈ bigL := bgm (tm_4 _ (List.mem_of_getElem? (i := 34) rfl)) rfl
theorem bw_4_35 : Cond.code yJ5_newCapacity_0f7a4 cJ5_newCapacity_0f7a4 6 (some .int) ∈ bigL := bgm (tm_4 _ (List.mem_of_getElem? (i := 35) rfl)) rfl
theorem bw_4_44 : Cond.constant RJ5 39 (2147483647) ∈ bigL := bgm (tm_4 _ (List.mem_of_getElem? (i := 44) rfl)) rfl
theorem bw_4_36 : Cond.methodLink RJ5 114 yJ8_newLength_cabcc ∈ bigL := bgm (tm_4 _ (List.mem_of_getElem? (i := 36) rfl)) rfl
theorem bw_4_37 : Cond.static yJ8_newLength_cabcc ∈ bigL := bgm (tm_4 _ (List.mem_of_getElem? (i := 37) rfl)) rfl
theorem bw_1_18 : Cond.initialized RJ8 ∈ bigL := bgm (tm_1 _ (List.mem_of_getElem? (i := 18) rfl)) rfl
theorem bw_4_38 : Cond.code yJ8_newLength_cabcc cJ8_newLength_cabcc 4 (some .int) ∈ bigL := bgm (tm_4 _ (List.mem_of_getElem? (i := 38) rfl)) rfl
theorem bw_4_39 : Cond.methodLink RJ8 194 Lib.Math.max.name ∈ bigL := bgm (tm_4 _ (List.mem_of_getElem? (i := 39) rfl)) rfl
theorem bw_4_40 : Cond.constant RJ8 200 (2147483639) ∈ bigL := bgm (tm_4 _ (List.mem_of_getElem? (i := 40) rfl)) rfl
theorem bw_4_41 : Cond.methodLink RJ8 201 yJ8_hugeLength_7cf53 ∈ bigL := bgm (tm_4 _ (List.mem_of_getElem? (i := 41) rfl)) rfl
theorem bw_4_42 : Cond.static yJ8_hugeLength_7cf53 ∈ bigL := bgm (tm_4 _ (List.mem_of_getElem? (i := 42) rfl)) rfl
theorem bw_4_43 : Cond.code yJ8_hugeLength_7cf53 cJ8_hugeLength_7cf53 3 (some .int) ∈ bigL := bgm (tm_4 _ (List.mem_of_getElem? (i := 43) rfl)) rfl
theorem bw_4_45 : Cond.methodLink RJ5 108 yJ7_copyOf_9075b ∈ bigL := bgm (tm_4 _ (List.mem_of_getElem? (i := 45) rfl)) rfl
theorem bw_4_46 : Cond.static yJ7_copyOf_9075b ∈ bigL := bgm (tm_4 _ (List.mem_of_getElem? (i := 46) rfl)) rfl
theorem bw_1_19 : Cond.initialized RJ7 ∈ bigL := bgm (tm_1 _ (List.mem_of_getElem? (i := 19) rfl)) rfl
theorem bw_4_47 : Cond.code yJ7_copyOf_9075b cJ7_copyOf_9075b 3 (some (.array .byte)) ∈ bigL := bgm (tm_4 _ (List.mem_of_getElem? (i := 47) rfl)) rfl
theorem bw_4_48 : Cond.methodLink RJ7 310 ⟨"[B", "clone", "()Ljava/lang/Object;"⟩ ∈ bigL := bgm (tm_4 _ (List.mem_of_getElem? (i := 48) rfl)) rfl
theorem bw_4_49 : Cond.sameMethod "[B" "java/lang/Object" "clone" "()Ljava/lang/Object;" ∈ bigL := bgm (tm_4 _ (List.mem_of_getElem? (i := 49) rfl)) rfl
theorem bw_4_50 : Cond.native ⟨"java/lang/Object", "clone", "()Ljava/lang/Object;"⟩ ∈ bigL := bgm (tm_4 _ (List.mem_of_getElem? (i := 50) rfl)) rfl
theorem bw_4_51 : Cond.instanceMethod ⟨"java/lang/Object", "clone", "()Ljava/lang/Object;"⟩ ∈ bigL := bgm (tm_4 _ (List.mem_of_getElem? (i := 51) rfl)) rfl
theorem bw_4_52 : Cond.selects "[B" ⟨"[B", "clone", "()Ljava/lang/Object;"⟩ ⟨"java/lang/Object", "clone", "()Ljava/lang/Object;"⟩ ∈ bigL := bgm (tm_4 _ (List.mem_of_getElem? (i := 52) rfl)) rfl
theorem bw_4_54 : Cond.classLink RJ7 311 "[B" ∈ bigL := bgm (tm_4 _ (List.mem_of_getElem? (i := 54) rfl)) rfl
theorem bw_4_55 : Cond.methodLink RJ7 304 Lib.Math.min.name ∈ bigL := bgm (tm_4 _ (List.mem_of_getElem? (i := 55) rfl)) rfl
theorem bw_4_56 : Cond.methodLink RJ7 150 arraycopyName ∈ bigL := bgm (tm_4 _ (List.mem_of_getElem? (i := 56) rfl)) rfl
theorem bw_4_57 : Cond.methodLink RJ5 83 ⟨"java/lang/AbstractStringBuilder", "isLatin1", "()Z"⟩ ∈ bigL := bgm (tm_4 _ (List.mem_of_getElem? (i := 57) rfl)) rfl
theorem bw_4_59 : Cond.sameMethod "java/lang/AbstractStringBuilder" "java/lang/AbstractStringBuilder" "isLatin1" "()Z" ∈ bigL := bgm (tm_4 _ (List.mem_of_getElem? (i := 59) rfl)) rfl
theorem bw_4_60 : Cond.selects RJ4 ⟨"java/lang/AbstractStringBuilder", "isLatin1", "()Z"⟩ yJ5_isLatin1_aae02 ∈ bigL := bgm (tm_4 _ (List.mem_of_getElem? (i := 60) rfl)) rfl
theorem bw_4_58 : Cond.instanceMethod yJ5_isLatin1_aae02 ∈ bigL := bgm (tm_4 _ (List.mem_of_getElem? (i := 58) rfl)) rfl
theorem bw_4_61 : Cond.code yJ5_isLatin1_aae02 cJ5_isLatin1_aae02 1 (some .boolean) ∈ bigL := bgm (tm_4 _ (List.mem_of_getElem? (i := 61) rfl)) rfl
theorem bw_4_62 : Cond.methodLink RJ5 133 yJ1_fillNull_b72d1 ∈ bigL := bgm (tm_4 _ (List.mem_of_getElem? (i := 62) rfl)) rfl
theorem bw_4_63 : Cond.static yJ1_fillNull_b72d1 ∈ bigL := bgm (tm_4 _ (List.mem_of_getElem? (i := 63) rfl)) rfl
theorem bw_4_64 : Cond.code yJ1_fillNull_b72d1 cJ1_fillNull_b72d1 3 none ∈ bigL := bgm (tm_4 _ (List.mem_of_getElem? (i := 64) rfl)) rfl
theorem bw_4_65 : Cond.methodLink RJ1 236 yJ7_fill_eb02e ∈ bigL := bgm (tm_4 _ (List.mem_of_getElem? (i := 65) rfl)) rfl
theorem bw_4_66 : Cond.static yJ7_fill_eb02e ∈ bigL := bgm (tm_4 _ (List.mem_of_getElem? (i := 66) rfl)) rfl
theorem bw_4_67 : Cond.code yJ7_fill_eb02e cJ7_fill_eb02e 5 none ∈ bigL := bgm (tm_4 _ (List.mem_of_getElem? (i := 67) rfl)) rfl
theorem bw_4_68 : Cond.methodLink RJ7 13 yJ7_rangeCheck_23922 ∈ bigL := bgm (tm_4 _ (List.mem_of_getElem? (i := 68) rfl)) rfl
theorem bw_4_69 : Cond.static yJ7_rangeCheck_23922 ∈ bigL := bgm (tm_4 _ (List.mem_of_getElem? (i := 69) rfl)) rfl
theorem bw_4_70 : Cond.code yJ7_rangeCheck_23922 cJ7_rangeCheck_23922 3 none ∈ bigL := bgm (tm_4 _ (List.mem_of_getElem? (i := 70) rfl)) rfl
theorem bw_4_71 : Cond.methodLink RJ5 137 yJ2_fillNull_b72d1 ∈ bigL := bgm (tm_4 _ (List.mem_of_getElem? (i := 71) rfl)) rfl
theorem bw_4_72 : Cond.static yJ2_fillNull_b72d1 ∈ bigL := bgm (tm_4 _ (List.mem_of_getElem? (i := 72) rfl)) rfl
theorem bw_4_73 : Cond.code yJ2_fillNull_b72d1 cJ2_fillNull_b72d1 3 none ∈ bigL := bgm (tm_4 _ (List.mem_of_getElem? (i := 73) rfl)) rfl
theorem bw_4_74 : Cond.methodLink RJ2 380 yJ7_fill_eb02e ∈ bigL := bgm (tm_4 _ (List.mem_of_getElem? (i := 74) rfl)) rfl
theorem bw_4_75 : Cond.methodLink RX7 361 yJ4_append_cf468 ∈ bigL := bgm (tm_4 _ (List.mem_of_getElem? (i := 75) rfl)) rfl
theorem bw_4_76 : Cond.instanceMethod yJ4_append_cf468 ∈ bigL := bgm (tm_4 _ (List.mem_of_getElem? (i := 76) rfl)) rfl
theorem bw_4_77 : Cond.selects RJ4 yJ4_append_cf468 yJ4_append_cf468 ∈ bigL := bgm (tm_4 _ (List.mem_of_getElem? (i := 77) rfl)) rfl
theorem bw_4_78 : Cond.code yJ4_append_cf468 cJ4_append_cf468 2 (some (.object "java/lang/StringBuilder")) ∈ bigL := bgm (tm_4 _ (List.mem_of_getElem? (i := 78) rfl)) rfl
theorem bw_4_79 : Cond.methodLink RJ4 50 yJ5_append_3fe6f ∈ bigL := bgm (tm_4 _ (List.mem_of_getElem? (i := 79) rfl)) rfl
theorem bw_6_161 : Cond.sameMethod "java/lang/AbstractStringBuilder" "java/lang/AbstractStringBuilder" "append" "(C)Ljava/lang/AbstractStringBuilder;" ∈ bigL := bgm (tm_6 _ (List.mem_of_getElem? (i := 161) rfl)) rfl
theorem bw_4_80 : Cond.instanceMethod yJ5_append_3fe6f ∈ bigL := bgm (tm_4 _ (List.mem_of_getElem? (i := 80) rfl)) rfl
theorem bw_4_81 : Cond.code yJ5_append_3fe6f cJ5_append_3fe6f 2 (some (.object "java/lang/AbstractStringBuilder")) ∈ bigL := bgm (tm_4 _ (List.mem_of_getElem? (i := 81) rfl)) rfl
theorem bw_4_82 : Cond.methodLink RJ5 191 yJ1_canEncode_fc78d ∈ bigL := bgm (tm_4 _ (List.mem_of_getElem? (i := 82) rfl)) rfl
theorem bw_4_83 : Cond.static yJ1_canEncode_fc78d ∈ bigL := bgm (tm_4 _ (List.mem_of_getElem? (i := 83) rfl)) rfl
theorem bw_4_84 : Cond.code yJ1_canEncode_fc78d cJ1_canEncode_fc78d 1 (some .boolean) ∈ bigL := bgm (tm_4 _ (List.mem_of_getElem? (i := 84) rfl)) rfl
theorem bw_4_85 : Cond.methodLink RJ5 195 ⟨"java/lang/AbstractStringBuilder", "inflate", "()V"⟩ ∈ bigL := bgm (tm_4 _ (List.mem_of_getElem? (i := 85) rfl)) rfl
theorem bw_6_162 : Cond.sameMethod "java/lang/AbstractStringBuilder" "java/lang/AbstractStringBuilder" "inflate" "()V" ∈ bigL := bgm (tm_6 _ (List.mem_of_getElem? (i := 162) rfl)) rfl
theorem bw_4_87 : Cond.instanceMethod yJ5_inflate_da8c8 ∈ bigL := bgm (tm_4 _ (List.mem_of_getElem? (i := 87) rfl)) rfl
theorem bw_4_88 : Cond.code yJ5_inflate_da8c8 cJ5_inflate_da8c8 2 none ∈ bigL := bgm (tm_4 _ (List.mem_of_getElem? (i := 88) rfl)) rfl
theorem bw_4_89 : Cond.methodLink RJ5 125 yJ1_inflate_0e8fd ∈ bigL := bgm (tm_4 _ (List.mem_of_getElem? (i := 89) rfl)) rfl
theorem bw_4_90 : Cond.static yJ1_inflate_0e8fd ∈ bigL := bgm (tm_4 _ (List.mem_of_getElem? (i := 90) rfl)) rfl
theorem bw_4_91 : Cond.code yJ1_inflate_0e8fd cJ1_inflate_0e8fd 5 none ∈ bigL := bgm (tm_4 _ (List.mem_of_getElem? (i := 91) rfl)) rfl
theorem bw_4_92 : Cond.methodLink RJ1 240 yJ2_inflate_0e8fd ∈ bigL := bgm (tm_4 _ (List.mem_of_getElem? (i := 92) rfl)) rfl
theorem bw_4_93 : Cond.static yJ2_inflate_0e8fd ∈ bigL := bgm (tm_4 _ (List.mem_of_getElem? (i := 93) rfl)) rfl
theorem bw_4_94 : Cond.code yJ2_inflate_0e8fd cJ2_inflate_0e8fd 6 none ∈ bigL := bgm (tm_4 _ (List.mem_of_getElem? (i := 94) rfl)) rfl
theorem bw_4_95 : Cond.methodLink RJ2 173 yJ2_checkBoundsOffCount_d044e ∈ bigL := bgm (tm_4 _ (List.mem_of_getElem? (i := 95) rfl)) rfl
theorem bw_4_96 : Cond.static yJ2_checkBoundsOffCount_d044e ∈ bigL := bgm (tm_4 _ (List.mem_of_getElem? (i := 96) rfl)) rfl
theorem bw_4_97 : Cond.code yJ2_checkBoundsOffCount_d044e cJ2_checkBoundsOffCount_d044e 3 none ∈ bigL := bgm (tm_4 _ (List.mem_of_getElem? (i := 97) rfl)) rfl
theorem bw_4_98 : Cond.methodLink RJ2 419 yJ0_checkBoundsOffCount_cabcc ∈ bigL := bgm (tm_4 _ (List.mem_of_getElem? (i := 98) rfl)) rfl
theorem bw_4_99 : Cond.static yJ0_checkBoundsOffCount_cabcc ∈ bigL := bgm (tm_4 _ (List.mem_of_getElem? (i := 99) rfl)) rfl
theorem bw_4_100 : Cond.code yJ0_checkBoundsOffCount_cabcc cJ0_checkBoundsOffCount_cabcc 3 (some .int) ∈ bigL := bgm (tm_4 _ (List.mem_of_getElem? (i := 100) rfl)) rfl
theorem bw_4_101 : Cond.methodLink RJ0 1065 yJ3_checkFromIndexSize_8c36e ∈ bigL := bgm (tm_4 _ (List.mem_of_getElem? (i := 101) rfl)) rfl
theorem bw_4_102 : Cond.static yJ3_checkFromIndexSize_8c36e ∈ bigL := bgm (tm_4 _ (List.mem_of_getElem? (i := 102) rfl)) rfl
theorem bw_4_103 : Cond.code yJ3_checkFromIndexSize_8c36e cJ3_checkFromIndexSize_8c36e 4 (some .int) ∈ bigL := bgm (tm_4 _ (List.mem_of_getElem? (i := 103) rfl)) rfl
theorem bw_4_104 : Cond.methodLink RJ2 111 yJ2_putChar_b72d1 ∈ bigL := bgm (tm_4 _ (List.mem_of_getElem? (i := 104) rfl)) rfl
theorem bw_4_105 : Cond.static yJ2_putChar_b72d1 ∈ bigL := bgm (tm_4 _ (List.mem_of_getElem? (i := 105) rfl)) rfl
theorem bw_4_106 : Cond.code yJ2_putChar_b72d1 cJ2_putChar_b72d1 3 none ∈ bigL := bgm (tm_4 _ (List.mem_of_getElem? (i := 106) rfl)) rfl
theorem bw_4_107 : Cond.methodLink RJ5 197 yJ2_putCharSB_b72d1 ∈ bigL := bgm (tm_4 _ (List.mem_of_getElem? (i := 107) rfl)) rfl
theorem bw_4_108 : Cond.static yJ2_putCharSB_b72d1 ∈ bigL := bgm (tm_4 _ (List.mem_of_getElem? (i := 108) rfl)) rfl
theorem bw_4_109 : Cond.code yJ2_putCharSB_b72d1 cJ2_putCharSB_b72d1 3 none ∈ bigL := bgm (tm_4 _ (List.mem_of_getElem? (i := 109) rfl)) rfl
theorem bw_4_110 : Cond.methodLink RX7 364 yJ4_append_bf812 ∈ bigL := bgm (tm_4 _ (List.mem_of_getElem? (i := 110) rfl)) rfl
theorem bw_4_111 : Cond.instanceMethod yJ4_append_bf812 ∈ bigL := bgm (tm_4 _ (List.mem_of_getElem? (i := 111) rfl)) rfl
theorem bw_4_112 : Cond.selects RJ4 yJ4_append_bf812 yJ4_append_bf812 ∈ bigL := bgm (tm_4 _ (List.mem_of_getElem? (i := 112) rfl)) rfl
theorem bw_4_113 : Cond.code yJ4_append_bf812 cJ4_append_bf812 2 (some (.object "java/lang/StringBuilder")) ∈ bigL := bgm (tm_4 _ (List.mem_of_getElem? (i := 113) rfl)) rfl
theorem bw_4_114 : Cond.methodLink RJ4 53 yJ5_append_c97b9 ∈ bigL := bgm (tm_4 _ (List.mem_of_getElem? (i := 114) rfl)) rfl
theorem bw_6_163 : Cond.sameMethod "java/lang/AbstractStringBuilder" "java/lang/AbstractStringBuilder" "append" "(I)Ljava/lang/AbstractStringBuilder;" ∈ bigL := bgm (tm_6 _ (List.mem_of_getElem? (i := 163) rfl)) rfl
theorem bw_4_115 : Cond.instanceMethod yJ5_append_c97b9 ∈ bigL := bgm (tm_4 _ (List.mem_of_getElem? (i := 115) rfl)) rfl
theorem bw_4_116 : Cond.code yJ5_append_c97b9 cJ5_append_c97b9 4 (some (.object "java/lang/AbstractStringBuilder")) ∈ bigL := bgm (tm_4 _ (List.mem_of_getElem? (i := 116) rfl)) rfl
theorem bw_4_117 : Cond.methodLink RJ5 245 yJ6_stringSize_0f7a4 ∈ bigL := bgm (tm_4 _ (List.mem_of_getElem? (i := 117) rfl)) rfl
theorem bw_4_118 : Cond.static yJ6_stringSize_0f7a4 ∈ bigL := bgm (tm_4 _ (List.mem_of_getElem? (i := 118) rfl)) rfl
theorem bw_1_20 : Cond.initialized RJ6 ∈ bigL := bgm (tm_1 _ (List.mem_of_getElem? (i := 20) rfl)) rfl
theorem bw_4_119 : Cond.code yJ6_stringSize_0f7a4 cJ6_stringSize_0f7a4 4 (some .int) ∈ bigL := bgm (tm_4 _ (List.mem_of_getElem? (i := 119) rfl)) rfl
theorem bw_4_120 : Cond.methodLink RJ5 248 yJ6_getChars_ba4f3 ∈ bigL := bgm (tm_4 _ (List.mem_of_getElem? (i := 120) rfl)) rfl
theorem bw_4_121 : Cond.static yJ6_getChars_ba4f3 ∈ bigL := bgm (tm_4 _ (List.mem_of_getElem? (i := 121) rfl)) rfl
theorem bw_4_122 : Cond.code yJ6_getChars_ba4f3 cJ6_getChars_ba4f3 7 (some .int) ∈ bigL := bgm (tm_4 _ (List.mem_of_getElem? (i := 122) rfl)) rfl
theorem bw_4_123 : Cond.fieldLink RJ6 83 "java/lang/Integer" "DigitOnes" "[B" ∈ bigL := bgm (tm_4 _ (List.mem_of_getElem? (i := 123) rfl)) rfl
theorem bw_4_125 : Cond.fieldLink RJ6 87 "java/lang/Integer" "DigitTens" "[B" ∈ bigL := bgm (tm_4 _ (List.mem_of_getElem? (i := 125) rfl)) rfl
theorem bw_4_127 : Cond.methodLink RJ5 251 yJ2_getChars_46870 ∈ bigL := bgm (tm_4 _ (List.mem_of_getElem? (i := 127) rfl)) rfl
theorem bw_4_128 : Cond.static yJ2_getChars_46870 ∈ bigL := bgm (tm_4 _ (List.mem_of_getElem? (i := 128) rfl)) rfl
theorem bw_4_129 : Cond.code yJ2_getChars_46870 cJ2_getChars_46870 5 (some .int) ∈ bigL := bgm (tm_4 _ (List.mem_of_getElem? (i := 129) rfl)) rfl
theorem bw_4_130 : Cond.methodLink RJ2 96 yJ2_checkBoundsBeginEnd_d044e ∈ bigL := bgm (tm_4 _ (List.mem_of_getElem? (i := 130) rfl)) rfl
theorem bw_4_131 : Cond.static yJ2_checkBoundsBeginEnd_d044e ∈ bigL := bgm (tm_4 _ (List.mem_of_getElem? (i := 131) rfl)) rfl
theorem bw_4_132 : Cond.code yJ2_checkBoundsBeginEnd_d044e cJ2_checkBoundsBeginEnd_d044e 3 none ∈ bigL := bgm (tm_4 _ (List.mem_of_getElem? (i := 132) rfl)) rfl
theorem bw_4_133 : Cond.methodLink RJ2 241 yJ0_checkBoundsBeginEnd_23922 ∈ bigL := bgm (tm_4 _ (List.mem_of_getElem? (i := 133) rfl)) rfl
theorem bw_4_134 : Cond.static yJ0_checkBoundsBeginEnd_23922 ∈ bigL := bgm (tm_4 _ (List.mem_of_getElem? (i := 134) rfl)) rfl
theorem bw_4_135 : Cond.code yJ0_checkBoundsBeginEnd_23922 cJ0_checkBoundsBeginEnd_23922 3 none ∈ bigL := bgm (tm_4 _ (List.mem_of_getElem? (i := 135) rfl)) rfl
theorem bw_4_136 : Cond.methodLink RJ0 1062 yJ3_checkFromToIndex_8c36e ∈ bigL := bgm (tm_4 _ (List.mem_of_getElem? (i := 136) rfl)) rfl
theorem bw_4_137 : Cond.static yJ3_checkFromToIndex_8c36e ∈ bigL := bgm (tm_4 _ (List.mem_of_getElem? (i := 137) rfl)) rfl
theorem bw_4_138 : Cond.code yJ3_checkFromToIndex_8c36e cJ3_checkFromToIndex_8c36e 4 (some .int) ∈ bigL := bgm (tm_4 _ (List.mem_of_getElem? (i := 138) rfl)) rfl
theorem bw_4_139 : Cond.methodLink RJ2 393 yJ2_getChars_ba4f3 ∈ bigL := bgm (tm_4 _ (List.mem_of_getElem? (i := 139) rfl)) rfl
theorem bw_4_140 : Cond.static yJ2_getChars_ba4f3 ∈ bigL := bgm (tm_4 _ (List.mem_of_getElem? (i := 140) rfl)) rfl
theorem bw_4_141 : Cond.code yJ2_getChars_ba4f3 cJ2_getChars_ba4f3 7 (some .int) ∈ bigL := bgm (tm_4 _ (List.mem_of_getElem? (i := 141) rfl)) rfl
theorem bw_4_142 : Cond.fieldLink RJ2 403 "java/lang/Integer" "DigitOnes" "[B" ∈ bigL := bgm (tm_4 _ (List.mem_of_getElem? (i := 142) rfl)) rfl
theorem bw_4_143 : Cond.fieldLink RJ2 407 "java/lang/Integer" "DigitTens" "[B" ∈ bigL := bgm (tm_4 _ (List.mem_of_getElem? (i := 143) rfl)) rfl
theorem bw_4_144 : Cond.methodLink RX7 272 yX2_endsBefore ∈ bigL := bgm (tm_4 _ (List.mem_of_getElem? (i := 144) rfl)) rfl
theorem bw_4_145 : Cond.methodLink RX7 367 yX6_hasExportEndingBefore ∈ bigL := bgm (tm_4 _ (List.mem_of_getElem? (i := 145) rfl)) rfl
theorem bw_4_146 : Cond.instanceMethod yX6_hasExportEndingBefore ∈ bigL := bgm (tm_4 _ (List.mem_of_getElem? (i := 146) rfl)) rfl
theorem bw_4_147 : Cond.selects RX6 yX6_hasExportEndingBefore yX6_hasExportEndingBefore ∈ bigL := bgm (tm_4 _ (List.mem_of_getElem? (i := 147) rfl)) rfl
theorem bw_4_148 : Cond.code yX6_hasExportEndingBefore cX6_hasExportEndingBefore 4 (some .boolean) ∈ bigL := bgm (tm_4 _ (List.mem_of_getElem? (i := 148) rfl)) rfl
theorem bw_4_149 : Cond.methodLink RX7 259 yJ4_length_8abf5 ∈ bigL := bgm (tm_4 _ (List.mem_of_getElem? (i := 149) rfl)) rfl
theorem bw_4_150 : Cond.instanceMethod yJ4_length_8abf5 ∈ bigL := bgm (tm_4 _ (List.mem_of_getElem? (i := 150) rfl)) rfl
theorem bw_4_151 : Cond.selects RJ4 yJ4_length_8abf5 yJ4_length_8abf5 ∈ bigL := bgm (tm_4 _ (List.mem_of_getElem? (i := 151) rfl)) rfl
theorem bw_4_152 : Cond.code yJ4_length_8abf5 cJ4_length_8abf5 1 (some .int) ∈ bigL := bgm (tm_4 _ (List.mem_of_getElem? (i := 152) rfl)) rfl
theorem bw_4_153 : Cond.methodLink RJ4 343 yJ5_length_8abf5 ∈ bigL := bgm (tm_4 _ (List.mem_of_getElem? (i := 153) rfl)) rfl
theorem bw_6_164 : Cond.sameMethod "java/lang/AbstractStringBuilder" "java/lang/AbstractStringBuilder" "length" "()I" ∈ bigL := bgm (tm_6 _ (List.mem_of_getElem? (i := 164) rfl)) rfl
theorem bw_4_154 : Cond.instanceMethod yJ5_length_8abf5 ∈ bigL := bgm (tm_4 _ (List.mem_of_getElem? (i := 154) rfl)) rfl
theorem bw_4_155 : Cond.code yJ5_length_8abf5 cJ5_length_8abf5 1 (some .int) ∈ bigL := bgm (tm_4 _ (List.mem_of_getElem? (i := 155) rfl)) rfl
theorem bw_6_107 : Cond.methodLink RL 115 yX8_documentLength ∈ bigL := bgm (tm_6 _ (List.mem_of_getElem? (i := 107) rfl)) rfl
theorem bw_6_108 : Cond.instanceMethod yX8_documentLength ∈ bigL := bgm (tm_6 _ (List.mem_of_getElem? (i := 108) rfl)) rfl
theorem bw_6_109 : Cond.selects RX8 yX8_documentLength yX8_documentLength ∈ bigL := bgm (tm_6 _ (List.mem_of_getElem? (i := 109) rfl)) rfl
theorem bw_6_110 : Cond.code yX8_documentLength cX8_documentLength 2 (some .int) ∈ bigL := bgm (tm_6 _ (List.mem_of_getElem? (i := 110) rfl)) rfl
theorem bw_5_0 : Cond.fieldLink RX8 267 "BondedStoreModel" "written" "I" ∈ bigL := bgm (tm_5 _ (List.mem_of_getElem? (i := 0) rfl)) rfl
theorem bw_6_111 : Cond.methodLink RX8 284 yX8_writeDocument ∈ bigL := bgm (tm_6 _ (List.mem_of_getElem? (i := 111) rfl)) rfl
theorem bw_6_113 : Cond.instanceMethod yX8_writeDocument ∈ bigL := bgm (tm_6 _ (List.mem_of_getElem? (i := 113) rfl)) rfl
theorem bs_66 : Cond.selects RX8 yX8_writeDocument yX8_writeDocument ∈ bigL := bgm (List.mem_append_left _ (List.mem_of_getElem? (i := 66) rfl)) rfl
theorem bw_6_114 : Cond.code yX8_writeDocument cX8_writeDocument 2 none ∈ bigL := bgm (tm_6 _ (List.mem_of_getElem? (i := 114) rfl)) rfl
theorem bw_6_115 : Cond.methodLink RX8 272 yX8_write ∈ bigL := bgm (tm_6 _ (List.mem_of_getElem? (i := 115) rfl)) rfl
theorem bw_6_117 : Cond.instanceMethod yX8_write ∈ bigL := bgm (tm_6 _ (List.mem_of_getElem? (i := 117) rfl)) rfl
theorem bs_67 : Cond.selects RX8 yX8_write yX8_write ∈ bigL := bgm (List.mem_append_left _ (List.mem_of_getElem? (i := 67) rfl)) rfl
theorem bw_6_118 : Cond.code yX8_write cX8_write 2 none ∈ bigL := bgm (tm_6 _ (List.mem_of_getElem? (i := 118) rfl)) rfl
theorem bw_6_119 : Cond.methodLink RX8 277 yX8_writeNumber ∈ bigL := bgm (tm_6 _ (List.mem_of_getElem? (i := 119) rfl)) rfl
theorem bw_6_121 : Cond.instanceMethod yX8_writeNumber ∈ bigL := bgm (tm_6 _ (List.mem_of_getElem? (i := 121) rfl)) rfl
theorem bs_68 : Cond.selects RX8 yX8_writeNumber yX8_writeNumber ∈ bigL := bgm (List.mem_append_left _ (List.mem_of_getElem? (i := 68) rfl)) rfl
theorem bw_6_122 : Cond.code yX8_writeNumber cX8_writeNumber 5 none ∈ bigL := bgm (tm_6 _ (List.mem_of_getElem? (i := 122) rfl)) rfl
theorem bw_6_123 : Cond.constantLong RX8 270 (48) ∈ bigL := bgm (tm_6 _ (List.mem_of_getElem? (i := 123) rfl)) rfl
theorem bw_6_124 : Cond.methodLink RX8 281 yX8_isUrgent ∈ bigL := bgm (tm_6 _ (List.mem_of_getElem? (i := 124) rfl)) rfl
theorem bw_6_126 : Cond.instanceMethod yX8_isUrgent ∈ bigL := bgm (tm_6 _ (List.mem_of_getElem? (i := 126) rfl)) rfl
theorem bs_69 : Cond.selects RX8 yX8_isUrgent yX8_isUrgent ∈ bigL := bgm (List.mem_append_left _ (List.mem_of_getElem? (i := 69) rfl)) rfl
theorem bw_6_127 : Cond.code yX8_isUrgent cX8_isUrgent 4 (some .boolean) ∈ bigL := bgm (tm_6 _ (List.mem_of_getElem? (i := 127) rfl)) rfl
theorem bw_6_128 : Cond.constantLong RX8 275 (7) ∈ bigL := bgm (tm_6 _ (List.mem_of_getElem? (i := 128) rfl)) rfl
theorem bw_4_156 : Cond.methodLink RL 116 yX7_documentAt ∈ bigL := bgm (tm_4 _ (List.mem_of_getElem? (i := 156) rfl)) rfl
theorem bw_4_157 : Cond.instanceMethod yX7_documentAt ∈ bigL := bgm (tm_4 _ (List.mem_of_getElem? (i := 157) rfl)) rfl
theorem bw_4_158 : Cond.selects RX7 yX7_documentAt yX7_documentAt ∈ bigL := bgm (tm_4 _ (List.mem_of_getElem? (i := 158) rfl)) rfl
theorem bw_4_159 : Cond.code yX7_documentAt cX7_documentAt 4 (some .int) ∈ bigL := bgm (tm_4 _ (List.mem_of_getElem? (i := 159) rfl)) rfl
theorem bw_4_160 : Cond.methodLink RX7 261 yJ4_charAt_5068e ∈ bigL := bgm (tm_4 _ (List.mem_of_getElem? (i := 160) rfl)) rfl
theorem bw_4_161 : Cond.instanceMethod yJ4_charAt_5068e ∈ bigL := bgm (tm_4 _ (List.mem_of_getElem? (i := 161) rfl)) rfl
theorem bw_4_162 : Cond.selects RJ4 yJ4_charAt_5068e yJ4_charAt_5068e ∈ bigL := bgm (tm_4 _ (List.mem_of_getElem? (i := 162) rfl)) rfl
theorem bw_4_163 : Cond.code yJ4_charAt_5068e cJ4_charAt_5068e 2 (some .char) ∈ bigL := bgm (tm_4 _ (List.mem_of_getElem? (i := 163) rfl)) rfl
theorem bw_4_164 : Cond.methodLink RJ4 329 yJ5_charAt_5068e ∈ bigL := bgm (tm_4 _ (List.mem_of_getElem? (i := 164) rfl)) rfl
theorem bw_6_165 : Cond.sameMethod "java/lang/AbstractStringBuilder" "java/lang/AbstractStringBuilder" "charAt" "(I)C" ∈ bigL := bgm (tm_6 _ (List.mem_of_getElem? (i := 165) rfl)) rfl
theorem bw_4_165 : Cond.instanceMethod yJ5_charAt_5068e ∈ bigL := bgm (tm_4 _ (List.mem_of_getElem? (i := 165) rfl)) rfl
theorem bw_4_166 : Cond.code yJ5_charAt_5068e cJ5_charAt_5068e 5 (some .char) ∈ bigL := bgm (tm_4 _ (List.mem_of_getElem? (i := 166) rfl)) rfl
theorem bw_4_167 : Cond.methodLink RJ5 138 Lib.Math.min.name ∈ bigL := bgm (tm_4 _ (List.mem_of_getElem? (i := 167) rfl)) rfl
theorem bw_4_168 : Cond.methodLink RJ5 144 yJ0_checkIndex_df160 ∈ bigL := bgm (tm_4 _ (List.mem_of_getElem? (i := 168) rfl)) rfl
theorem bw_4_169 : Cond.methodLink RJ5 148 yJ2_getChar_3b067 ∈ bigL := bgm (tm_4 _ (List.mem_of_getElem? (i := 169) rfl)) rfl
theorem bw_6_129 : Cond.methodLink RL 119 yX8_documentAt ∈ bigL := bgm (tm_6 _ (List.mem_of_getElem? (i := 129) rfl)) rfl
theorem bw_6_130 : Cond.instanceMethod yX8_documentAt ∈ bigL := bgm (tm_6 _ (List.mem_of_getElem? (i := 130) rfl)) rfl
theorem bw_6_131 : Cond.selects RX8 yX8_documentAt yX8_documentAt ∈ bigL := bgm (tm_6 _ (List.mem_of_getElem? (i := 131) rfl)) rfl
theorem bw_6_132 : Cond.code yX8_documentAt cX8_documentAt 3 (some .int) ∈ bigL := bgm (tm_6 _ (List.mem_of_getElem? (i := 132) rfl)) rfl
theorem bw_4_170 : Cond.methodLink RL 120 yX7_nextDeadline ∈ bigL := bgm (tm_4 _ (List.mem_of_getElem? (i := 170) rfl)) rfl
theorem bw_4_171 : Cond.instanceMethod yX7_nextDeadline ∈ bigL := bgm (tm_4 _ (List.mem_of_getElem? (i := 171) rfl)) rfl
theorem bw_4_172 : Cond.selects RX7 yX7_nextDeadline yX7_nextDeadline ∈ bigL := bgm (tm_4 _ (List.mem_of_getElem? (i := 172) rfl)) rfl
theorem bw_4_173 : Cond.code yX7_nextDeadline cX7_nextDeadline 4 (some .int) ∈ bigL := bgm (tm_4 _ (List.mem_of_getElem? (i := 173) rfl)) rfl
theorem bw_4_174 : Cond.methodLink RX7 283 yX0_endsBefore ∈ bigL := bgm (tm_4 _ (List.mem_of_getElem? (i := 174) rfl)) rfl
theorem bw_6_133 : Cond.methodLink RL 123 yX8_nextDeadline ∈ bigL := bgm (tm_6 _ (List.mem_of_getElem? (i := 133) rfl)) rfl
theorem bw_6_134 : Cond.instanceMethod yX8_nextDeadline ∈ bigL := bgm (tm_6 _ (List.mem_of_getElem? (i := 134) rfl)) rfl
theorem bw_6_135 : Cond.selects RX8 yX8_nextDeadline yX8_nextDeadline ∈ bigL := bgm (tm_6 _ (List.mem_of_getElem? (i := 135) rfl)) rfl
theorem bw_6_136 : Cond.code yX8_nextDeadline cX8_nextDeadline 5 (some .int) ∈ bigL := bgm (tm_6 _ (List.mem_of_getElem? (i := 136) rfl)) rfl
theorem bw_4_175 : Cond.methodLink RL 124 yX7_calledIn ∈ bigL := bgm (tm_4 _ (List.mem_of_getElem? (i := 175) rfl)) rfl
theorem bw_4_176 : Cond.instanceMethod yX7_calledIn ∈ bigL := bgm (tm_4 _ (List.mem_of_getElem? (i := 176) rfl)) rfl
theorem bw_4_177 : Cond.selects RX7 yX7_calledIn yX7_calledIn ∈ bigL := bgm (tm_4 _ (List.mem_of_getElem? (i := 177) rfl)) rfl
theorem bw_4_178 : Cond.code yX7_calledIn cX7_calledIn 2 (some .int) ∈ bigL := bgm (tm_4 _ (List.mem_of_getElem? (i := 178) rfl)) rfl
theorem bw_4_179 : Cond.methodLink RX7 284 yX6_dutyEndingBefore ∈ bigL := bgm (tm_4 _ (List.mem_of_getElem? (i := 179) rfl)) rfl
theorem bw_4_180 : Cond.instanceMethod yX6_dutyEndingBefore ∈ bigL := bgm (tm_4 _ (List.mem_of_getElem? (i := 180) rfl)) rfl
theorem bw_4_181 : Cond.selects RX6 yX6_dutyEndingBefore yX6_dutyEndingBefore ∈ bigL := bgm (tm_4 _ (List.mem_of_getElem? (i := 181) rfl)) rfl
theorem bw_4_182 : Cond.code yX6_dutyEndingBefore cX6_dutyEndingBefore 4 (some .int) ∈ bigL := bgm (tm_4 _ (List.mem_of_getElem? (i := 182) rfl)) rfl
theorem bw_6_137 : Cond.methodLink RL 127 yX8_calledIn ∈ bigL := bgm (tm_6 _ (List.mem_of_getElem? (i := 137) rfl)) rfl
theorem bw_6_138 : Cond.instanceMethod yX8_calledIn ∈ bigL := bgm (tm_6 _ (List.mem_of_getElem? (i := 138) rfl)) rfl
theorem bw_6_139 : Cond.selects RX8 yX8_calledIn yX8_calledIn ∈ bigL := bgm (tm_6 _ (List.mem_of_getElem? (i := 139) rfl)) rfl
theorem bw_6_140 : Cond.code yX8_calledIn cX8_calledIn 7 (some .int) ∈ bigL := bgm (tm_6 _ (List.mem_of_getElem? (i := 140) rfl)) rfl
theorem bw_4_183 : Cond.methodLink RL 128 yX7_greatestValue ∈ bigL := bgm (tm_4 _ (List.mem_of_getElem? (i := 183) rfl)) rfl
theorem bw_4_184 : Cond.instanceMethod yX7_greatestValue ∈ bigL := bgm (tm_4 _ (List.mem_of_getElem? (i := 184) rfl)) rfl
theorem bw_4_185 : Cond.selects RX7 yX7_greatestValue yX7_greatestValue ∈ bigL := bgm (tm_4 _ (List.mem_of_getElem? (i := 185) rfl)) rfl
theorem bw_4_186 : Cond.code yX7_greatestValue cX7_greatestValue 8 (some .int) ∈ bigL := bgm (tm_4 _ (List.mem_of_getElem? (i := 186) rfl)) rfl
theorem bw_4_187 : Cond.constant RX7 287 (8388608) ∈ bigL := bgm (tm_4 _ (List.mem_of_getElem? (i := 187) rfl)) rfl
theorem bw_6_141 : Cond.methodLink RL 131 yX8_greatestValue ∈ bigL := bgm (tm_6 _ (List.mem_of_getElem? (i := 141) rfl)) rfl
theorem bw_6_142 : Cond.instanceMethod yX8_greatestValue ∈ bigL := bgm (tm_6 _ (List.mem_of_getElem? (i := 142) rfl)) rfl
theorem bw_6_143 : Cond.selects RX8 yX8_greatestValue yX8_greatestValue ∈ bigL := bgm (tm_6 _ (List.mem_of_getElem? (i := 143) rfl)) rfl
theorem bw_6_144 : Cond.code yX8_greatestValue cX8_greatestValue 8 (some .int) ∈ bigL := bgm (tm_6 _ (List.mem_of_getElem? (i := 144) rfl)) rfl
theorem bw_4_188 : Cond.methodLink RL 132 yX7_account ∈ bigL := bgm (tm_4 _ (List.mem_of_getElem? (i := 188) rfl)) rfl
theorem bw_4_189 : Cond.instanceMethod yX7_account ∈ bigL := bgm (tm_4 _ (List.mem_of_getElem? (i := 189) rfl)) rfl
theorem bw_4_190 : Cond.selects RX7 yX7_account yX7_account ∈ bigL := bgm (tm_4 _ (List.mem_of_getElem? (i := 190) rfl)) rfl
theorem bw_4_191 : Cond.code yX7_account cX7_account 2 (some .long) ∈ bigL := bgm (tm_4 _ (List.mem_of_getElem? (i := 191) rfl)) rfl
theorem bw_4_192 : Cond.methodLink RX7 291 yX6_sumOfLots ∈ bigL := bgm (tm_4 _ (List.mem_of_getElem? (i := 192) rfl)) rfl
theorem bw_4_193 : Cond.instanceMethod yX6_sumOfLots ∈ bigL := bgm (tm_4 _ (List.mem_of_getElem? (i := 193) rfl)) rfl
theorem bw_4_194 : Cond.selects RX6 yX6_sumOfLots yX6_sumOfLots ∈ bigL := bgm (tm_4 _ (List.mem_of_getElem? (i := 194) rfl)) rfl
theorem bw_4_195 : Cond.code yX6_sumOfLots cX6_sumOfLots 4 (some .int) ∈ bigL := bgm (tm_4 _ (List.mem_of_getElem? (i := 195) rfl)) rfl
theorem bw_4_196 : Cond.methodLink RX6 85 yX2_partOfDuty ∈ bigL := bgm (tm_4 _ (List.mem_of_getElem? (i := 196) rfl)) rfl
theorem bw_4_197 : Cond.instanceMethod yX2_partOfDuty ∈ bigL := bgm (tm_4 _ (List.mem_of_getElem? (i := 197) rfl)) rfl
theorem bw_4_198 : Cond.selects RX2 yX2_partOfDuty yX2_partOfDuty ∈ bigL := bgm (tm_4 _ (List.mem_of_getElem? (i := 198) rfl)) rfl
theorem bw_4_199 : Cond.code yX2_partOfDuty cX2_partOfDuty 2 (some .int) ∈ bigL := bgm (tm_4 _ (List.mem_of_getElem? (i := 199) rfl)) rfl
theorem bw_4_200 : Cond.methodLink RX2 43 yX2_suspended ∈ bigL := bgm (tm_4 _ (List.mem_of_getElem? (i := 200) rfl)) rfl
theorem bw_4_201 : Cond.methodLink RX7 294 yX6_calledOfAll ∈ bigL := bgm (tm_4 _ (List.mem_of_getElem? (i := 201) rfl)) rfl
theorem bw_4_202 : Cond.instanceMethod yX6_calledOfAll ∈ bigL := bgm (tm_4 _ (List.mem_of_getElem? (i := 202) rfl)) rfl
theorem bw_4_203 : Cond.selects RX6 yX6_calledOfAll yX6_calledOfAll ∈ bigL := bgm (tm_4 _ (List.mem_of_getElem? (i := 203) rfl)) rfl
theorem bw_4_204 : Cond.code yX6_calledOfAll cX6_calledOfAll 3 (some .int) ∈ bigL := bgm (tm_4 _ (List.mem_of_getElem? (i := 204) rfl)) rfl
theorem bw_1_81 : Cond.fieldLink RX6 89 "BondedStore$Owner" "called" "I" ∈ bigL := bgm (tm_1 _ (List.mem_of_getElem? (i := 81) rfl)) rfl
theorem bw_6_145 : Cond.methodLink RL 136 yX8_account ∈ bigL := bgm (tm_6 _ (List.mem_of_getElem? (i := 145) rfl)) rfl
theorem bw_6_146 : Cond.instanceMethod yX8_account ∈ bigL := bgm (tm_6 _ (List.mem_of_getElem? (i := 146) rfl)) rfl
theorem bw_6_147 : Cond.selects RX8 yX8_account yX8_account ∈ bigL := bgm (tm_6 _ (List.mem_of_getElem? (i := 147) rfl)) rfl
theorem bw_6_148 : Cond.code yX8_account cX8_account 5 (some .long) ∈ bigL := bgm (tm_6 _ (List.mem_of_getElem? (i := 148) rfl)) rfl
theorem bw_6_149 : Cond.constantLong RX8 287 (3) ∈ bigL := bgm (tm_6 _ (List.mem_of_getElem? (i := 149) rfl)) rfl
theorem bw_4_205 : Cond.methodLink RL 137 yX7_count ∈ bigL := bgm (tm_4 _ (List.mem_of_getElem? (i := 205) rfl)) rfl
theorem bw_4_206 : Cond.instanceMethod yX7_count ∈ bigL := bgm (tm_4 _ (List.mem_of_getElem? (i := 206) rfl)) rfl
theorem bw_4_207 : Cond.selects RX7 yX7_count yX7_count ∈ bigL := bgm (tm_4 _ (List.mem_of_getElem? (i := 207) rfl)) rfl
theorem bw_4_208 : Cond.code yX7_count cX7_count 2 (some .int) ∈ bigL := bgm (tm_4 _ (List.mem_of_getElem? (i := 208) rfl)) rfl
theorem bw_1_195 : Cond.fieldLink RX7 303 "BondedStore$State" "seizedLots" "I" ∈ bigL := bgm (tm_1 _ (List.mem_of_getElem? (i := 195) rfl)) rfl
theorem bw_4_209 : Cond.methodLink RX7 300 yX6_waitingExports ∈ bigL := bgm (tm_4 _ (List.mem_of_getElem? (i := 209) rfl)) rfl
theorem bw_4_210 : Cond.instanceMethod yX6_waitingExports ∈ bigL := bgm (tm_4 _ (List.mem_of_getElem? (i := 210) rfl)) rfl
theorem bw_4_211 : Cond.selects RX6 yX6_waitingExports yX6_waitingExports ∈ bigL := bgm (tm_4 _ (List.mem_of_getElem? (i := 211) rfl)) rfl
theorem bw_4_212 : Cond.code yX6_waitingExports cX6_waitingExports 3 (some .int) ∈ bigL := bgm (tm_4 _ (List.mem_of_getElem? (i := 212) rfl)) rfl
theorem bw_6_150 : Cond.methodLink RL 140 yX8_count ∈ bigL := bgm (tm_6 _ (List.mem_of_getElem? (i := 150) rfl)) rfl
theorem bw_6_151 : Cond.instanceMethod yX8_count ∈ bigL := bgm (tm_6 _ (List.mem_of_getElem? (i := 151) rfl)) rfl
theorem bw_6_152 : Cond.selects RX8 yX8_count yX8_count ∈ bigL := bgm (tm_6 _ (List.mem_of_getElem? (i := 152) rfl)) rfl
theorem bw_6_153 : Cond.code yX8_count cX8_count 4 (some .int) ∈ bigL := bgm (tm_6 _ (List.mem_of_getElem? (i := 153) rfl)) rfl
theorem bw_4_213 : Cond.methodLink RL 141 yX7_rate ∈ bigL := bgm (tm_4 _ (List.mem_of_getElem? (i := 213) rfl)) rfl
theorem bw_4_214 : Cond.instanceMethod yX7_rate ∈ bigL := bgm (tm_4 _ (List.mem_of_getElem? (i := 214) rfl)) rfl
theorem bw_4_215 : Cond.selects RX7 yX7_rate yX7_rate ∈ bigL := bgm (tm_4 _ (List.mem_of_getElem? (i := 215) rfl)) rfl
theorem bw_4_216 : Cond.code yX7_rate cX7_rate 2 (some .int) ∈ bigL := bgm (tm_4 _ (List.mem_of_getElem? (i := 216) rfl)) rfl
theorem bw_6_154 : Cond.methodLink RL 144 yX8_rate ∈ bigL := bgm (tm_6 _ (List.mem_of_getElem? (i := 154) rfl)) rfl
theorem bw_6_155 : Cond.instanceMethod yX8_rate ∈ bigL := bgm (tm_6 _ (List.mem_of_getElem? (i := 155) rfl)) rfl
theorem bw_6_156 : Cond.selects RX8 yX8_rate yX8_rate ∈ bigL := bgm (tm_6 _ (List.mem_of_getElem? (i := 156) rfl)) rfl
theorem bw_6_157 : Cond.code yX8_rate cX8_rate 2 (some .int) ∈ bigL := bgm (tm_6 _ (List.mem_of_getElem? (i := 157) rfl)) rfl
theorem bw_1_28 : Cond.code objectInit ⟨#[0xb1]⟩ 1 none ∈ bigL := bgm (tm_1 _ (List.mem_of_getElem? (i := 28) rfl)) rfl
theorem bw_2_146 : Cond.code Lib.Math.min.name Lib.Math.min.code 2 (some .int) ∈ bigL := bgm (tm_2 _ (List.mem_of_getElem? (i := 146) rfl)) rfl
theorem bw_2_234 : Cond.code Lib.Math.max.name Lib.Math.max.code 2 (some .int) ∈ bigL := bgm (tm_2 _ (List.mem_of_getElem? (i := 234) rfl)) rfl
abbrev wsB (y : MethodName) (cc : ByteArray) (n : Nat) (r : Option FieldType) : List Cond := Cond.code y cc n r :: bigL
theorem gW1 {w : Cond} (h : w ∈ bigL) : w ∈ bigL ∧ ((w.onTables && w.keeps) = true ∨ ∃ ty, w = .arrayClass ty) := ⟨h, bigL_good _ h⟩
theorem gB {y : MethodName} {cc : ByteArray} {n : Nat} {r : Option FieldType} (h : Cond.code y cc n r ∈ bigL) : GoodIn bigL (wsB y cc n r) := fun w hw => by
  rcases List.mem_cons.mp hw with e | e
  · subst e
    exact gW1 h
  · exact gW1 e
theorem gV {own C : String} {idx : Nat} {y : MethodName} {cc : ByteArray} {n : Nat} {r : Option FieldType} (h1 : Cond.methodLink own idx y ∈ bigL) (h2 : Cond.instanceMethod y ∈ bigL) (h3 : Cond.selects C y y ∈ bigL) (h4 : Cond.initialized C ∈ bigL) (h5 : Cond.code y cc n r ∈ bigL) : GoodIn bigL (wsV own idx C y (wsB y cc n r)) := fun w hw => by
  unfold wsV at hw
  rcases List.mem_append.mp hw with e | e
  · simp only [List.mem_cons, List.not_mem_nil, or_false] at e
    rcases e with rfl | rfl | rfl | rfl
    · exact gW1 h1
    · exact gW1 h2
    · exact gW1 h3
    · exact gW1 h4
  · exact gB h5 w e
theorem gS {own : String} {idx : Nat} {y : MethodName} {cc : ByteArray} {n : Nat} {r : Option FieldType} (h1 : Cond.methodLink own idx y ∈ bigL) (h2 : Cond.static y ∈ bigL) (h4 : Cond.initialized y.cls ∈ bigL) (h5 : Cond.code y cc n r ∈ bigL) : GoodIn bigL (va_wsS own idx y (wsB y cc n r)) := fun w hw => by
  unfold va_wsS at hw
  rcases List.mem_append.mp hw with e | e
  · simp only [List.mem_cons, List.not_mem_nil, or_false] at e
    rcases e with rfl | rfl | rfl
    · exact gW1 h1
    · exact gW1 h2
    · exact gW1 h4
  · exact gB h5 w e
