/-! ===== BEGIN words of one list among another's, by their places ===== -/
theorem goodIn_r {big : List Cond} (ws : List Cond) (ps : List Nat) (hp : ws = ps.filterMap (fun i => big[i]?)) (h : ws.all goodWord = true) : GoodIn big ws := by
  intro w hw
  have h1 := List.all_eq_true.mp h w hw
  rw [hp] at hw
  obtain ⟨i, -, hi⟩ := List.mem_filterMap.mp hw
  have hm : w ∈ big := by first | exact List.mem_of_getElem? hi | exact List.getElem?_mem hi
  exact ⟨hm, good_of_word h1⟩
theorem goodIn_app {big a b : List Cond} (ha : GoodIn big a) (hb : GoodIn big b) : GoodIn big (a ++ b) := fun w h => (List.mem_append.mp h).elim (ha w) (hb w)
theorem goodIn_ca {big a b : List Cond} {c : Cond} (ha : GoodIn big (c :: a)) (hb : GoodIn big b) : GoodIn big (c :: (a ++ b)) := fun w h => (List.mem_cons.mp h).elim (fun e => ha w (List.mem_cons.mpr (Or.inl e))) (fun h => (List.mem_append.mp h).elim (fun h => ha w (List.mem_cons.mpr (Or.inr h))) (hb w))
theorem goodIn_sub {big ws : List Cond} (hm : ∀ w ∈ ws, w ∈ big) (h : ws.all goodWord = true) : GoodIn big ws := fun w hw => ⟨hm w hw, good_of_word (List.all_eq_true.mp h w hw)⟩
/-! ===== END ===== -/

/-! ===== BEGIN printed: names, fields, word lists, decode rows ===== -/
def RX0 : String := "BondedStore$Export"
def TX0 : u_T := fun k => match k with
  | 0 => ("BondedStore$Export", "lot", "I", false)
  | 1 => ("BondedStore$Export", "units", "I", false)
  | 2 => ("BondedStore$Export", "duty", "I", false)
  | 3 => ("BondedStore$Export", "deadline", "I", false)
  | _ => ("BondedStore$Export", "state", "I", false)
def tyX0 : Nat → FieldType := fun k => match k with
  | 0 => .int
  | 1 => .int
  | 2 => .int
  | 3 => .int
  | _ => .int
abbrev wsX00 : List Cond := u_ws RX0 TX0 5
theorem nmX0 : ∀ a, a < 5 → ∀ b, b < 5 → a ≠ b → (TX0 a).2.1 ≠ (TX0 b).2.1 := by decide +kernel
theorem tyX0_ok : ∀ k, k < 5 → parseFieldDescriptor (TX0 k).2.2.1 = some (tyX0 k) := by decide +kernel
abbrev cX0_init : ByteArray := prog_2_method_1_code
def yX0_init : MethodName := ⟨RX0, "<init>", "()V"⟩
abbrev cX0_copyFrom : ByteArray := prog_2_method_2_code
def yX0_copyFrom : MethodName := ⟨RX0, "copyFrom", "(LBondedStore$Export;)V"⟩
abbrev cX0_waits : ByteArray := prog_2_method_3_code
def yX0_waits : MethodName := ⟨RX0, "waits", "()Z"⟩
abbrev cX0_endsBefore : ByteArray := prog_2_method_4_code
def yX0_endsBefore : MethodName := ⟨RX0, "endsBefore", "(I)Z"⟩
def RX1 : String := "BondedStore$History"
def TX1 : u_T := fun k => match k with
  | 0 => ("BondedStore$History", "rows", "[LBondedStore$State;", true)
  | 1 => ("BondedStore$History", "first", "I", false)
  | _ => ("BondedStore$History", "size", "I", false)
def tyX1 : Nat → FieldType := fun k => match k with
  | 0 => .array (.object "BondedStore$State")
  | 1 => .int
  | _ => .int
abbrev wsX10 : List Cond := u_ws RX1 TX1 3
theorem nmX1 : ∀ a, a < 3 → ∀ b, b < 3 → a ≠ b → (TX1 a).2.1 ≠ (TX1 b).2.1 := by decide +kernel
theorem tyX1_ok : ∀ k, k < 3 → parseFieldDescriptor (TX1 k).2.2.1 = some (tyX1 k) := by decide +kernel
abbrev cX1_init : ByteArray := prog_3_method_1_code
def yX1_init : MethodName := ⟨RX1, "<init>", "()V"⟩
abbrev cX1_prepare : ByteArray := prog_3_method_2_code
def yX1_prepare : MethodName := ⟨RX1, "prepare", "(LBondedStore$State;)V"⟩
abbrev cX1_addPrepared : ByteArray := prog_3_method_3_code
def yX1_addPrepared : MethodName := ⟨RX1, "addPrepared", "()V"⟩
abbrev cX1_takeBack : ByteArray := prog_3_method_4_code
def yX1_takeBack : MethodName := ⟨RX1, "takeBack", "(LBondedStore$State;)Z"⟩
def RX2 : String := "BondedStore$Lot"
def TX2 : u_T := fun k => match k with
  | 0 => ("BondedStore$Lot", "owner", "I", false)
  | 1 => ("BondedStore$Lot", "kind", "I", false)
  | 2 => ("BondedStore$Lot", "quantity", "I", false)
  | 3 => ("BondedStore$Lot", "value", "I", false)
  | 4 => ("BondedStore$Lot", "entered", "I", false)
  | 5 => ("BondedStore$Lot", "deadline", "I", false)
  | 6 => ("BondedStore$Lot", "due", "I", false)
  | 7 => ("BondedStore$Lot", "stored", "I", false)
  | 8 => ("BondedStore$Lot", "paid", "I", false)
  | 9 => ("BondedStore$Lot", "discharged", "I", false)
  | _ => ("BondedStore$Lot", "sampled", "I", false)
def tyX2 : Nat → FieldType := fun k => match k with
  | 0 => .int
  | 1 => .int
  | 2 => .int
  | 3 => .int
  | 4 => .int
  | 5 => .int
  | 6 => .int
  | 7 => .int
  | 8 => .int
  | 9 => .int
  | _ => .int
abbrev wsX20 : List Cond := u_ws RX2 TX2 11
theorem nmX2 : ∀ a, a < 11 → ∀ b, b < 11 → a ≠ b → (TX2 a).2.1 ≠ (TX2 b).2.1 := by decide +kernel
theorem tyX2_ok : ∀ k, k < 11 → parseFieldDescriptor (TX2 k).2.2.1 = some (tyX2 k) := by decide +kernel
abbrev cX2_init : ByteArray := prog_4_method_1_code
def yX2_init : MethodName := ⟨RX2, "<init>", "()V"⟩
abbrev cX2_copyFrom : ByteArray := prog_4_method_2_code
def yX2_copyFrom : MethodName := ⟨RX2, "copyFrom", "(LBondedStore$Lot;)V"⟩
abbrev cX2_suspended : ByteArray := prog_4_method_3_code
def yX2_suspended : MethodName := ⟨RX2, "suspended", "()I"⟩
abbrev cX2_partOfDuty : ByteArray := prog_4_method_4_code
def yX2_partOfDuty : MethodName := ⟨RX2, "partOfDuty", "(I)I"⟩
abbrev cX2_dutyOfNext : ByteArray := prog_4_method_5_code
def yX2_dutyOfNext : MethodName := ⟨RX2, "dutyOfNext", "(II)I"⟩
abbrev cX2_dutyOfFirst : ByteArray := prog_4_method_6_code
def yX2_dutyOfFirst : MethodName := ⟨RX2, "dutyOfFirst", "(I)I"⟩
abbrev cX2_endsBefore : ByteArray := prog_4_method_7_code
def yX2_endsBefore : MethodName := ⟨RX2, "endsBefore", "(I)Z"⟩
def RX3 : String := "BondedStore$Orders"
def TX3 : u_T := fun k => match k with
  | 0 => ("BondedStore$Orders", "text", "[C", true)
  | 1 => ("BondedStore$Orders", "length", "I", false)
  | 2 => ("BondedStore$Orders", "position", "I", false)
  | 3 => ("BondedStore$Orders", "word", "I", false)
  | _ => ("BondedStore$Orders", "numbers", "[I", true)
def tyX3 : Nat → FieldType := fun k => match k with
  | 0 => .array .char
  | 1 => .int
  | 2 => .int
  | 3 => .int
  | _ => .array .int
abbrev wsX30 : List Cond := u_ws RX3 TX3 5
theorem nmX3 : ∀ a, a < 5 → ∀ b, b < 5 → a ≠ b → (TX3 a).2.1 ≠ (TX3 b).2.1 := by decide +kernel
theorem tyX3_ok : ∀ k, k < 5 → parseFieldDescriptor (TX3 k).2.2.1 = some (tyX3 k) := by decide +kernel
abbrev cX3_init : ByteArray := prog_5_method_1_code
def yX3_init : MethodName := ⟨RX3, "<init>", "()V"⟩
abbrev cX3_append : ByteArray := prog_5_method_2_code
def yX3_append : MethodName := ⟨RX3, "append", "(C)Z"⟩
abbrev cX3_findFault : ByteArray := prog_5_method_3_code
def yX3_findFault : MethodName := ⟨RX3, "findFault", "()I"⟩
abbrev cX3_goToStart : ByteArray := prog_5_method_4_code
def yX3_goToStart : MethodName := ⟨RX3, "goToStart", "()V"⟩
abbrev cX3_atEnd : ByteArray := prog_5_method_5_code
def yX3_atEnd : MethodName := ⟨RX3, "atEnd", "()Z"⟩
abbrev cX3_skipSeparator : ByteArray := prog_5_method_6_code
def yX3_skipSeparator : MethodName := ⟨RX3, "skipSeparator", "()V"⟩
abbrev cX3_readOrder : ByteArray := prog_5_method_7_code
def yX3_readOrder : MethodName := ⟨RX3, "readOrder", "()Z"⟩
abbrev cX3_endOfToken : ByteArray := prog_5_method_8_code
def yX3_endOfToken : MethodName := ⟨RX3, "endOfToken", "(I)I"⟩
abbrev cX3_wordBetween : ByteArray := prog_5_method_9_code
def yX3_wordBetween : MethodName := ⟨RX3, "wordBetween", "(II)I"⟩
abbrev cX3_standsBetween : ByteArray := prog_5_method_10_code
def yX3_standsBetween : MethodName := ⟨RX3, "standsBetween", "(IILjava/lang/String;)Z"⟩
abbrev cX3_numberBetween : ByteArray := prog_5_method_11_code
def yX3_numberBetween : MethodName := ⟨RX3, "numberBetween", "(IIC)I"⟩
abbrev cX3_wordOf : ByteArray := prog_5_method_12_code
def yX3_wordOf : MethodName := ⟨RX3, "wordOf", "(I)Ljava/lang/String;"⟩
abbrev cX3_placesOf : ByteArray := prog_5_method_13_code
def yX3_placesOf : MethodName := ⟨RX3, "placesOf", "(I)Ljava/lang/String;"⟩
abbrev cX3_leastAt : ByteArray := prog_5_method_14_code
def yX3_leastAt : MethodName := ⟨RX3, "leastAt", "(C)I"⟩
abbrev cX3_mostAt : ByteArray := prog_5_method_15_code
def yX3_mostAt : MethodName := ⟨RX3, "mostAt", "(C)I"⟩
def RX4 : String := "BondedStore$Owner"
def TX4 : u_T := fun k => match k with
  | 0 => ("BondedStore$Owner", "cash", "J", false)
  | 1 => ("BondedStore$Owner", "guarantee", "I", false)
  | 2 => ("BondedStore$Owner", "debt", "I", false)
  | _ => ("BondedStore$Owner", "called", "I", false)
def tyX4 : Nat → FieldType := fun k => match k with
  | 0 => .long
  | 1 => .int
  | 2 => .int
  | _ => .int
abbrev wsX40 : List Cond := u_ws RX4 TX4 4
theorem nmX4 : ∀ a, a < 4 → ∀ b, b < 4 → a ≠ b → (TX4 a).2.1 ≠ (TX4 b).2.1 := by decide +kernel
theorem tyX4_ok : ∀ k, k < 4 → parseFieldDescriptor (TX4 k).2.2.1 = some (tyX4 k) := by decide +kernel
abbrev cX4_init : ByteArray := prog_6_method_1_code
def yX4_init : MethodName := ⟨RX4, "<init>", "()V"⟩
abbrev cX4_copyFrom : ByteArray := prog_6_method_2_code
def yX4_copyFrom : MethodName := ⟨RX4, "copyFrom", "(LBondedStore$Owner;)V"⟩
abbrev cX4_payIn : ByteArray := prog_6_method_3_code
def yX4_payIn : MethodName := ⟨RX4, "payIn", "(I)V"⟩
abbrev cX4_answerFor : ByteArray := prog_6_method_4_code
def yX4_answerFor : MethodName := ⟨RX4, "answerFor", "(I)V"⟩
def RX5 : String := "BondedStore$Settings"
def TX5 : u_T := fun k => match k with
  | 0 => ("BondedStore$Settings", "rates", "[I", true)
  | 1 => ("BondedStore$Settings", "term", "I", false)
  | 2 => ("BondedStore$Settings", "proof", "I", false)
  | 3 => ("BondedStore$Settings", "cover", "I", false)
  | 4 => ("BondedStore$Settings", "allowance", "I", false)
  | _ => ("BondedStore$Settings", "fee", "I", false)
def tyX5 : Nat → FieldType := fun k => match k with
  | 0 => .array .int
  | 1 => .int
  | 2 => .int
  | 3 => .int
  | 4 => .int
  | _ => .int
abbrev wsX50 : List Cond := u_ws RX5 TX5 6
theorem nmX5 : ∀ a, a < 6 → ∀ b, b < 6 → a ≠ b → (TX5 a).2.1 ≠ (TX5 b).2.1 := by decide +kernel
theorem tyX5_ok : ∀ k, k < 6 → parseFieldDescriptor (TX5 k).2.2.1 = some (tyX5 k) := by decide +kernel
abbrev cX5_init : ByteArray := prog_7_method_1_code
def yX5_init : MethodName := ⟨RX5, "<init>", "()V"⟩
abbrev cX5_copyFrom : ByteArray := prog_7_method_2_code
def yX5_copyFrom : MethodName := ⟨RX5, "copyFrom", "(LBondedStore$Settings;)V"⟩
abbrev cX5_dutyOf : ByteArray := prog_7_method_3_code
def yX5_dutyOf : MethodName := ⟨RX5, "dutyOf", "(II)I"⟩
abbrev cX5_covers : ByteArray := prog_7_method_4_code
def yX5_covers : MethodName := ⟨RX5, "covers", "(II)Z"⟩
abbrev cX5_freeUnitsOf : ByteArray := prog_7_method_5_code
def yX5_freeUnitsOf : MethodName := ⟨RX5, "freeUnitsOf", "(LBondedStore$Lot;)I"⟩
def RX6 : String := "BondedStore$State"
def TX6 : u_T := fun k => match k with
  | 0 => ("BondedStore$State", "settings", "LBondedStore$Settings;", true)
  | 1 => ("BondedStore$State", "owners", "[LBondedStore$Owner;", true)
  | 2 => ("BondedStore$State", "lots", "[LBondedStore$Lot;", true)
  | 3 => ("BondedStore$State", "exports", "[LBondedStore$Export;", true)
  | 4 => ("BondedStore$State", "ownerCount", "I", false)
  | 5 => ("BondedStore$State", "lotCount", "I", false)
  | 6 => ("BondedStore$State", "exportCount", "I", false)
  | 7 => ("BondedStore$State", "seizedLots", "I", false)
  | 8 => ("BondedStore$State", "day", "I", false)
  | 9 => ("BondedStore$State", "fees", "J", false)
  | _ => ("BondedStore$State", "deposits", "J", false)
def tyX6 : Nat → FieldType := fun k => match k with
  | 0 => .object "BondedStore$Settings"
  | 1 => .array (.object "BondedStore$Owner")
  | 2 => .array (.object "BondedStore$Lot")
  | 3 => .array (.object "BondedStore$Export")
  | 4 => .int
  | 5 => .int
  | 6 => .int
  | 7 => .int
  | 8 => .int
  | 9 => .long
  | _ => .long
abbrev wsX60 : List Cond := u_ws RX6 TX6 11
theorem nmX6 : ∀ a, a < 11 → ∀ b, b < 11 → a ≠ b → (TX6 a).2.1 ≠ (TX6 b).2.1 := by decide +kernel
theorem tyX6_ok : ∀ k, k < 11 → parseFieldDescriptor (TX6 k).2.2.1 = some (tyX6 k) := by decide +kernel
abbrev cX6_init : ByteArray := prog_8_method_1_code
def yX6_init : MethodName := ⟨RX6, "<init>", "()V"⟩
abbrev cX6_copyFrom : ByteArray := prog_8_method_2_code
def yX6_copyFrom : MethodName := ⟨RX6, "copyFrom", "(LBondedStore$State;)V"⟩
abbrev cX6_findOwner : ByteArray := prog_8_method_3_code
def yX6_findOwner : MethodName := ⟨RX6, "findOwner", "(I)LBondedStore$Owner;"⟩
abbrev cX6_findLot : ByteArray := prog_8_method_4_code
def yX6_findLot : MethodName := ⟨RX6, "findLot", "(I)LBondedStore$Lot;"⟩
abbrev cX6_findExport : ByteArray := prog_8_method_5_code
def yX6_findExport : MethodName := ⟨RX6, "findExport", "(I)LBondedStore$Export;"⟩
abbrev cX6_useOf : ByteArray := prog_8_method_6_code
def yX6_useOf : MethodName := ⟨RX6, "useOf", "(I)I"⟩
abbrev cX6_storedLotsOf : ByteArray := prog_8_method_7_code
def yX6_storedLotsOf : MethodName := ⟨RX6, "storedLotsOf", "(I)I"⟩
abbrev cX6_sumOfLots : ByteArray := prog_8_method_8_code
def yX6_sumOfLots : MethodName := ⟨RX6, "sumOfLots", "(I)I"⟩
abbrev cX6_calledOfAll : ByteArray := prog_8_method_9_code
def yX6_calledOfAll : MethodName := ⟨RX6, "calledOfAll", "()I"⟩
abbrev cX6_waitingUnitsOf : ByteArray := prog_8_method_10_code
def yX6_waitingUnitsOf : MethodName := ⟨RX6, "waitingUnitsOf", "(I)I"⟩
abbrev cX6_waitingExports : ByteArray := prog_8_method_11_code
def yX6_waitingExports : MethodName := ⟨RX6, "waitingExports", "()I"⟩
abbrev cX6_hasExportEndingBefore : ByteArray := prog_8_method_12_code
def yX6_hasExportEndingBefore : MethodName := ⟨RX6, "hasExportEndingBefore", "(II)Z"⟩
abbrev cX6_dutyEndingBefore : ByteArray := prog_8_method_13_code
def yX6_dutyEndingBefore : MethodName := ⟨RX6, "dutyEndingBefore", "(I)I"⟩
abbrev cX6_loseExports : ByteArray := prog_8_method_14_code
def yX6_loseExports : MethodName := ⟨RX6, "loseExports", "()I"⟩
abbrev cX6_seizeLots : ByteArray := prog_8_method_15_code
def yX6_seizeLots : MethodName := ⟨RX6, "seizeLots", "()I"⟩
abbrev cX6_callDuty : ByteArray := prog_8_method_16_code
def yX6_callDuty : MethodName := ⟨RX6, "callDuty", "(LBondedStore$Lot;I)V"⟩
def RX7 : String := "BondedStore"
def TX7 : u_T := fun k => match k with
  | 0 => ("BondedStore", "now", "LBondedStore$State;", true)
  | 1 => ("BondedStore", "history", "LBondedStore$History;", true)
  | 2 => ("BondedStore", "slots", "[LBondedStore$State;", true)
  | 3 => ("BondedStore", "filled", "[Z", true)
  | 4 => ("BondedStore", "orders", "LBondedStore$Orders;", true)
  | 5 => ("BondedStore", "document", "Ljava/lang/StringBuilder;", true)
  | _ => ("BondedStore", "reason", "I", false)
def tyX7 : Nat → FieldType := fun k => match k with
  | 0 => .object "BondedStore$State"
  | 1 => .object "BondedStore$History"
  | 2 => .array (.object "BondedStore$State")
  | 3 => .array .boolean
  | 4 => .object "BondedStore$Orders"
  | 5 => .object "java/lang/StringBuilder"
  | _ => .int
abbrev wsX70 : List Cond := u_ws RX7 TX7 7
theorem nmX7 : ∀ a, a < 7 → ∀ b, b < 7 → a ≠ b → (TX7 a).2.1 ≠ (TX7 b).2.1 := by decide +kernel
theorem tyX7_ok : ∀ k, k < 7 → parseFieldDescriptor (TX7 k).2.2.1 = some (tyX7 k) := by decide +kernel
abbrev cX7_init : ByteArray := prog_1_method_1_code
def yX7_init : MethodName := ⟨RX7, "<init>", "()V"⟩
abbrev cX7_addOwner : ByteArray := prog_1_method_2_code
def yX7_addOwner : MethodName := ⟨RX7, "addOwner", "()I"⟩
abbrev cX7_deposit : ByteArray := prog_1_method_3_code
def yX7_deposit : MethodName := ⟨RX7, "deposit", "(II)I"⟩
abbrev cX7_setGuarantee : ByteArray := prog_1_method_4_code
def yX7_setGuarantee : MethodName := ⟨RX7, "setGuarantee", "(II)I"⟩
abbrev cX7_setRate : ByteArray := prog_1_method_5_code
def yX7_setRate : MethodName := ⟨RX7, "setRate", "(II)I"⟩
abbrev cX7_setTerms : ByteArray := prog_1_method_6_code
def yX7_setTerms : MethodName := ⟨RX7, "setTerms", "(II)I"⟩
abbrev cX7_setRules : ByteArray := prog_1_method_7_code
def yX7_setRules : MethodName := ⟨RX7, "setRules", "(III)I"⟩
abbrev cX7_enter : ByteArray := prog_1_method_8_code
def yX7_enter : MethodName := ⟨RX7, "enter", "(IIII)I"⟩
abbrev cX7_release : ByteArray := prog_1_method_9_code
def yX7_release : MethodName := ⟨RX7, "release", "(II)I"⟩
abbrev cX7_sample : ByteArray := prog_1_method_10_code
def yX7_sample : MethodName := ⟨RX7, "sample", "(II)I"⟩
abbrev cX7_export : ByteArray := prog_1_method_11_code
def yX7_export : MethodName := ⟨RX7, "export", "(II)I"⟩
abbrev cX7_prove : ByteArray := prog_1_method_12_code
def yX7_prove : MethodName := ⟨RX7, "prove", "(I)I"⟩
abbrev cX7_destroy : ByteArray := prog_1_method_13_code
def yX7_destroy : MethodName := ⟨RX7, "destroy", "(II)I"⟩
abbrev cX7_give : ByteArray := prog_1_method_14_code
def yX7_give : MethodName := ⟨RX7, "give", "(II)I"⟩
abbrev cX7_pass : ByteArray := prog_1_method_15_code
def yX7_pass : MethodName := ⟨RX7, "pass", "(I)I"⟩
abbrev cX7_type : ByteArray := prog_1_method_16_code
def yX7_type : MethodName := ⟨RX7, "type", "(C)I"⟩
abbrev cX7_clearText : ByteArray := prog_1_method_17_code
def yX7_clearText : MethodName := ⟨RX7, "clearText", "()I"⟩
abbrev cX7_runOrders : ByteArray := prog_1_method_18_code
def yX7_runOrders : MethodName := ⟨RX7, "runOrders", "()I"⟩
abbrev cX7_undo : ByteArray := prog_1_method_19_code
def yX7_undo : MethodName := ⟨RX7, "undo", "()I"⟩
abbrev cX7_keep : ByteArray := prog_1_method_20_code
def yX7_keep : MethodName := ⟨RX7, "keep", "(I)I"⟩
abbrev cX7_restore : ByteArray := prog_1_method_21_code
def yX7_restore : MethodName := ⟨RX7, "restore", "(I)I"⟩
abbrev cX7_owner : ByteArray := prog_1_method_22_code
def yX7_owner : MethodName := ⟨RX7, "owner", "(II)J"⟩
abbrev cX7_lot : ByteArray := prog_1_method_23_code
def yX7_lot : MethodName := ⟨RX7, "lot", "(II)I"⟩
abbrev cX7_exported : ByteArray := prog_1_method_24_code
def yX7_exported : MethodName := ⟨RX7, "exported", "(II)I"⟩
abbrev cX7_documentLength : ByteArray := prog_1_method_25_code
def yX7_documentLength : MethodName := ⟨RX7, "documentLength", "(I)I"⟩
abbrev cX7_documentAt : ByteArray := prog_1_method_26_code
def yX7_documentAt : MethodName := ⟨RX7, "documentAt", "(II)I"⟩
abbrev cX7_nextDeadline : ByteArray := prog_1_method_27_code
def yX7_nextDeadline : MethodName := ⟨RX7, "nextDeadline", "()I"⟩
abbrev cX7_calledIn : ByteArray := prog_1_method_28_code
def yX7_calledIn : MethodName := ⟨RX7, "calledIn", "(I)I"⟩
abbrev cX7_greatestValue : ByteArray := prog_1_method_29_code
def yX7_greatestValue : MethodName := ⟨RX7, "greatestValue", "(II)I"⟩
abbrev cX7_account : ByteArray := prog_1_method_30_code
def yX7_account : MethodName := ⟨RX7, "account", "(I)J"⟩
abbrev cX7_count : ByteArray := prog_1_method_31_code
def yX7_count : MethodName := ⟨RX7, "count", "(I)I"⟩
abbrev cX7_rate : ByteArray := prog_1_method_32_code
def yX7_rate : MethodName := ⟨RX7, "rate", "(I)I"⟩
abbrev cX7_enterLot : ByteArray := prog_1_method_33_code
def yX7_enterLot : MethodName := ⟨RX7, "enterLot", "(IIII)I"⟩
abbrev cX7_releaseUnits : ByteArray := prog_1_method_34_code
def yX7_releaseUnits : MethodName := ⟨RX7, "releaseUnits", "(II)I"⟩
abbrev cX7_sampleUnits : ByteArray := prog_1_method_35_code
def yX7_sampleUnits : MethodName := ⟨RX7, "sampleUnits", "(II)I"⟩
abbrev cX7_exportUnits : ByteArray := prog_1_method_36_code
def yX7_exportUnits : MethodName := ⟨RX7, "exportUnits", "(II)I"⟩
abbrev cX7_proveExport : ByteArray := prog_1_method_37_code
def yX7_proveExport : MethodName := ⟨RX7, "proveExport", "(I)I"⟩
abbrev cX7_destroyUnits : ByteArray := prog_1_method_38_code
def yX7_destroyUnits : MethodName := ⟨RX7, "destroyUnits", "(II)I"⟩
abbrev cX7_giveLot : ByteArray := prog_1_method_39_code
def yX7_giveLot : MethodName := ⟨RX7, "giveLot", "(II)I"⟩
abbrev cX7_passDays : ByteArray := prog_1_method_40_code
def yX7_passDays : MethodName := ⟨RX7, "passDays", "(I)I"⟩
abbrev cX7_carryOutOrders : ByteArray := prog_1_method_41_code
def yX7_carryOutOrders : MethodName := ⟨RX7, "carryOutOrders", "()I"⟩
abbrev cX7_carryOutOrder : ByteArray := prog_1_method_42_code
def yX7_carryOutOrder : MethodName := ⟨RX7, "carryOutOrder", "()I"⟩
abbrev cX7_outside : ByteArray := prog_1_method_43_code
def yX7_outside : MethodName := ⟨RX7, "outside", "(III)Z"⟩
abbrev cX7_refuse : ByteArray := prog_1_method_44_code
def yX7_refuse : MethodName := ⟨RX7, "refuse", "(I)I"⟩
abbrev cX7_finishAct : ByteArray := prog_1_method_45_code
def yX7_finishAct : MethodName := ⟨RX7, "finishAct", "(I)I"⟩
abbrev cX7_errorOfTaking : ByteArray := prog_1_method_46_code
def yX7_errorOfTaking : MethodName := ⟨RX7, "errorOfTaking", "(LBondedStore$Lot;I)I"⟩
abbrev cX7_writeDocument : ByteArray := prog_1_method_47_code
def yX7_writeDocument : MethodName := ⟨RX7, "writeDocument", "(ILBondedStore$Lot;)V"⟩
def RX8 : String := "BondedStoreModel"
def TX8 : u_T := fun k => match k with
  | _ => ("", "", "", false)
def tyX8 : Nat → FieldType := fun k => match k with
  | _ => .int
abbrev wsX80 : List Cond := u_ws RX8 TX8 0
theorem nmX8 : ∀ a, a < 0 → ∀ b, b < 0 → a ≠ b → (TX8 a).2.1 ≠ (TX8 b).2.1 := by decide +kernel
theorem tyX8_ok : ∀ k, k < 0 → parseFieldDescriptor (TX8 k).2.2.1 = some (tyX8 k) := by decide +kernel
def RJ5 : String := "java/lang/AbstractStringBuilder"
def TJ5 : u_T := fun k => match k with
  | _ => ("", "", "", false)
def tyJ5 : Nat → FieldType := fun k => match k with
  | _ => .int
abbrev wsJ50 : List Cond := u_ws RJ5 TJ5 0
theorem nmJ5 : ∀ a, a < 0 → ∀ b, b < 0 → a ≠ b → (TJ5 a).2.1 ≠ (TJ5 b).2.1 := by decide +kernel
theorem tyJ5_ok : ∀ k, k < 0 → parseFieldDescriptor (TJ5 k).2.2.1 = some (tyJ5 k) := by decide +kernel
abbrev cJ5_init_d00df : ByteArray := prog_11_method_2_code
def yJ5_init_d00df : MethodName := ⟨RJ5, "<init>", "(I)V"⟩
abbrev cJ5_length_8abf5 : ByteArray := prog_11_method_6_code
def yJ5_length_8abf5 : MethodName := ⟨RJ5, "length", "()I"⟩
abbrev cJ5_ensureCapacityInternal_d00df : ByteArray := prog_11_method_9_code
def yJ5_ensureCapacityInternal_d00df : MethodName := ⟨RJ5, "ensureCapacityInternal", "(I)V"⟩
abbrev cJ5_newCapacity_0f7a4 : ByteArray := prog_11_method_10_code
def yJ5_newCapacity_0f7a4 : MethodName := ⟨RJ5, "newCapacity", "(I)I"⟩
abbrev cJ5_inflate_da8c8 : ByteArray := prog_11_method_11_code
def yJ5_inflate_da8c8 : MethodName := ⟨RJ5, "inflate", "()V"⟩
abbrev cJ5_setLength_d00df : ByteArray := prog_11_method_13_code
def yJ5_setLength_d00df : MethodName := ⟨RJ5, "setLength", "(I)V"⟩
abbrev cJ5_charAt_5068e : ByteArray := prog_11_method_14_code
def yJ5_charAt_5068e : MethodName := ⟨RJ5, "charAt", "(I)C"⟩
abbrev cJ5_append_3fe6f : ByteArray := prog_11_method_31_code
def yJ5_append_3fe6f : MethodName := ⟨RJ5, "append", "(C)Ljava/lang/AbstractStringBuilder;"⟩
abbrev cJ5_append_c97b9 : ByteArray := prog_11_method_32_code
def yJ5_append_c97b9 : MethodName := ⟨RJ5, "append", "(I)Ljava/lang/AbstractStringBuilder;"⟩
abbrev cJ5_isLatin1_aae02 : ByteArray := prog_11_method_68_code
def yJ5_isLatin1_aae02 : MethodName := ⟨RJ5, "isLatin1", "()Z"⟩
def RJx8e188 : String := "java/lang/Cloneable"
def TJx8e188 : u_T := fun k => match k with
  | _ => ("", "", "", false)
def tyJx8e188 : Nat → FieldType := fun k => match k with
  | _ => .int
abbrev wsJx8e1880 : List Cond := u_ws RJx8e188 TJx8e188 0
theorem nmJx8e188 : ∀ a, a < 0 → ∀ b, b < 0 → a ≠ b → (TJx8e188 a).2.1 ≠ (TJx8e188 b).2.1 := by decide +kernel
theorem tyJx8e188_ok : ∀ k, k < 0 → parseFieldDescriptor (TJx8e188 k).2.2.1 = some (tyJx8e188 k) := by decide +kernel
def RJ6 : String := "java/lang/Integer"
def TJ6 : u_T := fun k => match k with
  | _ => ("", "", "", false)
def tyJ6 : Nat → FieldType := fun k => match k with
  | _ => .int
abbrev wsJ60 : List Cond := u_ws RJ6 TJ6 0
theorem nmJ6 : ∀ a, a < 0 → ∀ b, b < 0 → a ≠ b → (TJ6 a).2.1 ≠ (TJ6 b).2.1 := by decide +kernel
theorem tyJ6_ok : ∀ k, k < 0 → parseFieldDescriptor (TJ6 k).2.2.1 = some (tyJ6 k) := by decide +kernel
abbrev cJ6_getChars_ba4f3 : ByteArray := prog_13_method_12_code
def yJ6_getChars_ba4f3 : MethodName := ⟨RJ6, "getChars", "(II[B)I"⟩
abbrev cJ6_stringSize_0f7a4 : ByteArray := prog_13_method_13_code
def yJ6_stringSize_0f7a4 : MethodName := ⟨RJ6, "stringSize", "(I)I"⟩
def RJ9 : String := "java/lang/Math"
def TJ9 : u_T := fun k => match k with
  | _ => ("", "", "", false)
def tyJ9 : Nat → FieldType := fun k => match k with
  | _ => .int
abbrev wsJ90 : List Cond := u_ws RJ9 TJ9 0
theorem nmJ9 : ∀ a, a < 0 → ∀ b, b < 0 → a ≠ b → (TJ9 a).2.1 ≠ (TJ9 b).2.1 := by decide +kernel
theorem tyJ9_ok : ∀ k, k < 0 → parseFieldDescriptor (TJ9 k).2.2.1 = some (tyJ9 k) := by decide +kernel
abbrev cJ9_max_7cf53 : ByteArray := prog_14_method_65_code
def yJ9_max_7cf53 : MethodName := ⟨RJ9, "max", "(II)I"⟩
abbrev cJ9_min_7cf53 : ByteArray := prog_14_method_69_code
def yJ9_min_7cf53 : MethodName := ⟨RJ9, "min", "(II)I"⟩
def RJ0 : String := "java/lang/String"
def TJ0 : u_T := fun k => match k with
  | _ => ("", "", "", false)
def tyJ0 : Nat → FieldType := fun k => match k with
  | _ => .int
abbrev wsJ00 : List Cond := u_ws RJ0 TJ0 0
theorem nmJ0 : ∀ a, a < 0 → ∀ b, b < 0 → a ≠ b → (TJ0 a).2.1 ≠ (TJ0 b).2.1 := by decide +kernel
theorem tyJ0_ok : ∀ k, k < 0 → parseFieldDescriptor (TJ0 k).2.2.1 = some (tyJ0 k) := by decide +kernel
abbrev cJ0_length_8abf5 : ByteArray := prog_15_method_54_code
def yJ0_length_8abf5 : MethodName := ⟨RJ0, "length", "()I"⟩
abbrev cJ0_charAt_5068e : ByteArray := prog_15_method_56_code
def yJ0_charAt_5068e : MethodName := ⟨RJ0, "charAt", "(I)C"⟩
abbrev cJ0_coder_7d493 : ByteArray := prog_15_method_152_code
def yJ0_coder_7d493 : MethodName := ⟨RJ0, "coder", "()B"⟩
abbrev cJ0_isLatin1_aae02 : ByteArray := prog_15_method_154_code
def yJ0_isLatin1_aae02 : MethodName := ⟨RJ0, "isLatin1", "()Z"⟩
abbrev cJ0_checkIndex_df160 : ByteArray := prog_15_method_155_code
def yJ0_checkIndex_df160 : MethodName := ⟨RJ0, "checkIndex", "(II)V"⟩
abbrev cJ0_checkBoundsOffCount_cabcc : ByteArray := prog_15_method_157_code
def yJ0_checkBoundsOffCount_cabcc : MethodName := ⟨RJ0, "checkBoundsOffCount", "(III)I"⟩
abbrev cJ0_checkBoundsBeginEnd_23922 : ByteArray := prog_15_method_158_code
def yJ0_checkBoundsBeginEnd_23922 : MethodName := ⟨RJ0, "checkBoundsBeginEnd", "(III)V"⟩
def RJ4 : String := "java/lang/StringBuilder"
def TJ4 : u_T := fun k => match k with
  | 0 => ("java/lang/AbstractStringBuilder", "value", "[B", false)
  | 1 => ("java/lang/AbstractStringBuilder", "coder", "B", false)
  | 2 => ("java/lang/AbstractStringBuilder", "maybeLatin1", "Z", false)
  | _ => ("java/lang/AbstractStringBuilder", "count", "I", false)
def tyJ4 : Nat → FieldType := fun k => match k with
  | 0 => .array .byte
  | 1 => .byte
  | 2 => .boolean
  | _ => .int
abbrev wsJ40 : List Cond := u_ws RJ4 TJ4 4
theorem nmJ4 : ∀ a, a < 4 → ∀ b, b < 4 → a ≠ b → (TJ4 a).2.1 ≠ (TJ4 b).2.1 := by decide +kernel
theorem tyJ4_ok : ∀ k, k < 4 → parseFieldDescriptor (TJ4 k).2.2.1 = some (tyJ4 k) := by decide +kernel
abbrev cJ4_init_da8c8 : ByteArray := prog_16_method_1_code
def yJ4_init_da8c8 : MethodName := ⟨RJ4, "<init>", "()V"⟩
abbrev cJ4_append_cf468 : ByteArray := prog_16_method_14_code
def yJ4_append_cf468 : MethodName := ⟨RJ4, "append", "(C)Ljava/lang/StringBuilder;"⟩
abbrev cJ4_append_bf812 : ByteArray := prog_16_method_15_code
def yJ4_append_bf812 : MethodName := ⟨RJ4, "append", "(I)Ljava/lang/StringBuilder;"⟩
abbrev cJ4_charAt_5068e : ByteArray := prog_16_method_88_code
def yJ4_charAt_5068e : MethodName := ⟨RJ4, "charAt", "(I)C"⟩
abbrev cJ4_setLength_d00df : ByteArray := prog_16_method_89_code
def yJ4_setLength_d00df : MethodName := ⟨RJ4, "setLength", "(I)V"⟩
abbrev cJ4_length_8abf5 : ByteArray := prog_16_method_93_code
def yJ4_length_8abf5 : MethodName := ⟨RJ4, "length", "()I"⟩
def RJ1 : String := "java/lang/StringLatin1"
def TJ1 : u_T := fun k => match k with
  | _ => ("", "", "", false)
def tyJ1 : Nat → FieldType := fun k => match k with
  | _ => .int
abbrev wsJ10 : List Cond := u_ws RJ1 TJ1 0
theorem nmJ1 : ∀ a, a < 0 → ∀ b, b < 0 → a ≠ b → (TJ1 a).2.1 ≠ (TJ1 b).2.1 := by decide +kernel
theorem tyJ1_ok : ∀ k, k < 0 → parseFieldDescriptor (TJ1 k).2.2.1 = some (tyJ1 k) := by decide +kernel
abbrev cJ1_charAt_3b067 : ByteArray := prog_17_method_2_code
def yJ1_charAt_3b067 : MethodName := ⟨RJ1, "charAt", "([BI)C"⟩
abbrev cJ1_canEncode_fc78d : ByteArray := prog_17_method_3_code
def yJ1_canEncode_fc78d : MethodName := ⟨RJ1, "canEncode", "(C)Z"⟩
abbrev cJ1_fillNull_b72d1 : ByteArray := prog_17_method_48_code
def yJ1_fillNull_b72d1 : MethodName := ⟨RJ1, "fillNull", "([BII)V"⟩
abbrev cJ1_inflate_0e8fd : ByteArray := prog_17_method_50_code
def yJ1_inflate_0e8fd : MethodName := ⟨RJ1, "inflate", "([BI[BII)V"⟩
def RJ2 : String := "java/lang/StringUTF16"
def TJ2 : u_T := fun k => match k with
  | _ => ("", "", "", false)
def tyJ2 : Nat → FieldType := fun k => match k with
  | _ => .int
abbrev wsJ20 : List Cond := u_ws RJ2 TJ2 0
theorem nmJ2 : ∀ a, a < 0 → ∀ b, b < 0 → a ≠ b → (TJ2 a).2.1 ≠ (TJ2 b).2.1 := by decide +kernel
theorem tyJ2_ok : ∀ k, k < 0 → parseFieldDescriptor (TJ2 k).2.2.1 = some (tyJ2 k) := by decide +kernel
abbrev cJ2_newBytesFor_77867 : ByteArray := prog_18_method_2_code
def yJ2_newBytesFor_77867 : MethodName := ⟨RJ2, "newBytesFor", "(I)[B"⟩
abbrev cJ2_newBytesLength_0f7a4 : ByteArray := prog_18_method_3_code
def yJ2_newBytesLength_0f7a4 : MethodName := ⟨RJ2, "newBytesLength", "(I)I"⟩
abbrev cJ2_putChar_b72d1 : ByteArray := prog_18_method_4_code
def yJ2_putChar_b72d1 : MethodName := ⟨RJ2, "putChar", "([BII)V"⟩
abbrev cJ2_getChar_3b067 : ByteArray := prog_18_method_5_code
def yJ2_getChar_3b067 : MethodName := ⟨RJ2, "getChar", "([BI)C"⟩
abbrev cJ2_length_9d52b : ByteArray := prog_18_method_6_code
def yJ2_length_9d52b : MethodName := ⟨RJ2, "length", "([B)I"⟩
abbrev cJ2_fillNull_b72d1 : ByteArray := prog_18_method_70_code
def yJ2_fillNull_b72d1 : MethodName := ⟨RJ2, "fillNull", "([BII)V"⟩
abbrev cJ2_putCharSB_b72d1 : ByteArray := prog_18_method_71_code
def yJ2_putCharSB_b72d1 : MethodName := ⟨RJ2, "putCharSB", "([BII)V"⟩
abbrev cJ2_getChars_46870 : ByteArray := prog_18_method_77_code
def yJ2_getChars_46870 : MethodName := ⟨RJ2, "getChars", "(III[B)I"⟩
abbrev cJ2_charAt_3b067 : ByteArray := prog_18_method_83_code
def yJ2_charAt_3b067 : MethodName := ⟨RJ2, "charAt", "([BI)C"⟩
abbrev cJ2_inflate_0e8fd : ByteArray := prog_18_method_86_code
def yJ2_inflate_0e8fd : MethodName := ⟨RJ2, "inflate", "([BI[BII)V"⟩
abbrev cJ2_getChars_ba4f3 : ByteArray := prog_18_method_89_code
def yJ2_getChars_ba4f3 : MethodName := ⟨RJ2, "getChars", "(II[B)I"⟩
abbrev cJ2_checkIndex_2214a : ByteArray := prog_18_method_91_code
def yJ2_checkIndex_2214a : MethodName := ⟨RJ2, "checkIndex", "(I[B)V"⟩
abbrev cJ2_checkBoundsBeginEnd_d044e : ByteArray := prog_18_method_93_code
def yJ2_checkBoundsBeginEnd_d044e : MethodName := ⟨RJ2, "checkBoundsBeginEnd", "(II[B)V"⟩
abbrev cJ2_checkBoundsOffCount_d044e : ByteArray := prog_18_method_94_code
def yJ2_checkBoundsOffCount_d044e : MethodName := ⟨RJ2, "checkBoundsOffCount", "(II[B)V"⟩
def RJ10 : String := "java/lang/System"
def TJ10 : u_T := fun k => match k with
  | _ => ("", "", "", false)
def tyJ10 : Nat → FieldType := fun k => match k with
  | _ => .int
abbrev wsJ100 : List Cond := u_ws RJ10 TJ10 0
theorem nmJ10 : ∀ a, a < 0 → ∀ b, b < 0 → a ≠ b → (TJ10 a).2.1 ≠ (TJ10 b).2.1 := by decide +kernel
theorem tyJ10_ok : ∀ k, k < 0 → parseFieldDescriptor (TJ10 k).2.2.1 = some (tyJ10 k) := by decide +kernel
def RJ7 : String := "java/util/Arrays"
def TJ7 : u_T := fun k => match k with
  | _ => ("", "", "", false)
def tyJ7 : Nat → FieldType := fun k => match k with
  | _ => .int
abbrev wsJ70 : List Cond := u_ws RJ7 TJ7 0
theorem nmJ7 : ∀ a, a < 0 → ∀ b, b < 0 → a ≠ b → (TJ7 a).2.1 ≠ (TJ7 b).2.1 := by decide +kernel
theorem tyJ7_ok : ∀ k, k < 0 → parseFieldDescriptor (TJ7 k).2.2.1 = some (tyJ7 k) := by decide +kernel
abbrev cJ7_rangeCheck_23922 : ByteArray := prog_20_method_30_code
def yJ7_rangeCheck_23922 : MethodName := ⟨RJ7, "rangeCheck", "(III)V"⟩
abbrev cJ7_fill_eb02e : ByteArray := prog_20_method_110_code
def yJ7_fill_eb02e : MethodName := ⟨RJ7, "fill", "([BIIB)V"⟩
abbrev cJ7_copyOf_9075b : ByteArray := prog_20_method_121_code
def yJ7_copyOf_9075b : MethodName := ⟨RJ7, "copyOf", "([BI)[B"⟩
def RJ8 : String := "jdk/internal/util/ArraysSupport"
def TJ8 : u_T := fun k => match k with
  | _ => ("", "", "", false)
def tyJ8 : Nat → FieldType := fun k => match k with
  | _ => .int
abbrev wsJ80 : List Cond := u_ws RJ8 TJ8 0
theorem nmJ8 : ∀ a, a < 0 → ∀ b, b < 0 → a ≠ b → (TJ8 a).2.1 ≠ (TJ8 b).2.1 := by decide +kernel
theorem tyJ8_ok : ∀ k, k < 0 → parseFieldDescriptor (TJ8 k).2.2.1 = some (tyJ8 k) := by decide +kernel
abbrev cJ8_newLength_cabcc : ByteArray := prog_21_method_27_code
def yJ8_newLength_cabcc : MethodName := ⟨RJ8, "newLength", "(III)I"⟩
abbrev cJ8_hugeLength_7cf53 : ByteArray := prog_21_method_28_code
def yJ8_hugeLength_7cf53 : MethodName := ⟨RJ8, "hugeLength", "(II)I"⟩
def RJ3 : String := "jdk/internal/util/Preconditions"
def TJ3 : u_T := fun k => match k with
  | _ => ("", "", "", false)
def tyJ3 : Nat → FieldType := fun k => match k with
  | _ => .int
abbrev wsJ30 : List Cond := u_ws RJ3 TJ3 0
theorem nmJ3 : ∀ a, a < 0 → ∀ b, b < 0 → a ≠ b → (TJ3 a).2.1 ≠ (TJ3 b).2.1 := by decide +kernel
theorem tyJ3_ok : ∀ k, k < 0 → parseFieldDescriptor (TJ3 k).2.2.1 = some (tyJ3 k) := by decide +kernel
abbrev cJ3_checkIndex_8e157 : ByteArray := prog_22_method_11_code
def yJ3_checkIndex_8e157 : MethodName := ⟨RJ3, "checkIndex", "(IILjava/util/function/BiFunction;)I"⟩
abbrev cJ3_checkFromToIndex_8c36e : ByteArray := prog_22_method_12_code
def yJ3_checkFromToIndex_8c36e : MethodName := ⟨RJ3, "checkFromToIndex", "(IIILjava/util/function/BiFunction;)I"⟩
abbrev cJ3_checkFromIndexSize_8c36e : ByteArray := prog_22_method_13_code
def yJ3_checkFromIndexSize_8c36e : MethodName := ⟨RJ3, "checkFromIndexSize", "(IIILjava/util/function/BiFunction;)I"⟩
def RL : String := "BondedStoreLaw"
abbrev cL_cell : ByteArray := method_2_code
def yL_cell : MethodName := ⟨RL, "cell", "([II)I"⟩
abbrev cL_low : ByteArray := method_3_code
def yL_low : MethodName := ⟨RL, "low", "(II)I"⟩
abbrev cL_digest : ByteArray := method_4_code
def yL_digest : MethodName := ⟨RL, "digest", "(LBondedStore;)J"⟩
abbrev cL_lots : ByteArray := method_5_code
def yL_lots : MethodName := ⟨RL, "lots", "(LBondedStore;)Z"⟩
abbrev cL_owners : ByteArray := method_6_code
def yL_owners : MethodName := ⟨RL, "owners", "(LBondedStore;I)Z"⟩
abbrev cL_deadlines : ByteArray := method_7_code
def yL_deadlines : MethodName := ⟨RL, "deadlines", "(LBondedStore;I)Z"⟩
abbrev cL_document : ByteArray := method_8_code
def yL_document : MethodName := ⟨RL, "document", "(LBondedStore;I)Z"⟩
abbrev cL_moves : ByteArray := method_9_code
def yL_moves : MethodName := ⟨RL, "moves", "(LBondedStore;III)Z"⟩
abbrev cL_enters : ByteArray := method_10_code
def yL_enters : MethodName := ⟨RL, "enters", "(LBondedStore;II)Z"⟩
abbrev cL_money : ByteArray := method_11_code
def yL_money : MethodName := ⟨RL, "money", "(LBondedStore;II)Z"⟩
abbrev cL_digits : ByteArray := method_12_code
def yL_digits : MethodName := ⟨RL, "digits", "(LBondedStore;I)I"⟩
abbrev cL_orders : ByteArray := method_13_code
def yL_orders : MethodName := ⟨RL, "orders", "(LBondedStore;II)Z"⟩
abbrev cL_law : ByteArray := code
def yL_law : MethodName := ⟨RL, "law", "([I)Z"⟩
