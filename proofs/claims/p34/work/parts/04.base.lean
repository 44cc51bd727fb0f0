abbrev vwCl : List vw_C := [(RJ4, TJ4, 4), (RX0, TX0, 5), (RX1, TX1, 3), (RX2, TX2, 11), (RX3, TX3, 5), (RX4, TX4, 4), (RX5, TX5, 6), (RX6, TX6, 11), (RX7, TX7, 7)]
/-! THE MEMORY AS NUMBERS. Objects have ids 1, 2 ..; a memory says of an id r: mu r (-2) its kind, mu r (-1) its length (arrays), mu r k its k-th field or element. mu 0 0: how many there are. Ids below 0: what was there before (texts, tables). -/
abbrev Mm : Type := Int → Int → Int
abbrev gE : Type := va_G × (Nat → ClassId) × Nat × (Nat → Option Nat)
def w32 (x : Int) : Int := (x + 2147483648) % 4294967296 - 2147483648
def w64 (x : Int) : Int := (x + 9223372036854775808) % 18446744073709551616 - 9223372036854775808
def R32 (x : Int) : Prop := -2147483648 ≤ x ∧ x ≤ 2147483647
def R64 (x : Int) : Prop := -9223372036854775808 ≤ x ∧ x ≤ 9223372036854775807
theorem w32_R (x : Int) : R32 (w32 x) := by unfold R32 w32; omega
theorem w64_R (x : Int) : R64 (w64 x) := by unfold R64 w64; omega
theorem w32_id {x : Int} (h : R32 x) : w32 x = x := by unfold R32 at h; unfold w32; omega
theorem w64_id {x : Int} (h : R64 x) : w64 x = x := by unfold R64 at h; unfold w64; omega
theorem R32.to64 {x : Int} (h : R32 x) : R64 x := by unfold R32 at h; unfold R64; omega
theorem toI {x : Int} (h : R32 x) : (Int32.ofInt x).toInt = x := Int32.toInt_ofInt_of_le (by have := h.1; omega) (by have := h.2; omega)
theorem toL {x : Int} (h : R64 x) : (Int64.ofInt x).toInt = x := Int64.toInt_ofInt_of_le (by have := h.1; omega) (by have := h.2; omega)
theorem R32_of (x : Int32) : R32 x.toInt := ⟨by have := x.le_toInt; omega, by have := x.toInt_lt; omega⟩
theorem R64_of (x : Int64) : R64 x.toInt := ⟨by have := x.le_toInt; omega, by have := x.toInt_lt; omega⟩
theorem i_w (x : Int) : Int32.ofInt (w32 x) = Int32.ofInt x := by
  have e : w32 x = x - 4294967296 * ((x + 2147483648) / 4294967296) := by unfold w32; omega
  rw [e, Int32.ofInt_sub, Int32.ofInt_mul, show Int32.ofInt 4294967296 = 0 from by decide, Int32.zero_mul, Int32.sub_zero]
theorem l_w (x : Int) : Int64.ofInt (w64 x) = Int64.ofInt x := by
  have e : w64 x = x - 18446744073709551616 * ((x + 9223372036854775808) / 18446744073709551616) := by unfold w64; omega
  rw [e, Int64.ofInt_sub, Int64.ofInt_mul, show Int64.ofInt 18446744073709551616 = 0 from by decide, Int64.zero_mul, Int64.sub_zero]
theorem i_lt {a b : Int} (ha : R32 a) (hb : R32 b) : Int32.ofInt a < Int32.ofInt b ↔ a < b := by rw [Int32.lt_iff_toInt_lt, toI ha, toI hb]
theorem i_le {a b : Int} (ha : R32 a) (hb : R32 b) : Int32.ofInt a ≤ Int32.ofInt b ↔ a ≤ b := by rw [Int32.le_iff_toInt_le, toI ha, toI hb]
theorem i_eq {a b : Int} (ha : R32 a) (hb : R32 b) : Int32.ofInt a = Int32.ofInt b ↔ a = b := by rw [← Int32.toInt_inj, toI ha, toI hb]
theorem l_lt {a b : Int} (ha : R64 a) (hb : R64 b) : Int64.ofInt a < Int64.ofInt b ↔ a < b := by rw [Int64.lt_iff_toInt_lt, toL ha, toL hb]
theorem l_eq {a b : Int} (ha : R64 a) (hb : R64 b) : Int64.ofInt a = Int64.ofInt b ↔ a = b := by rw [← Int64.toInt_inj, toL ha, toL hb]
theorem R32_0 : R32 0 := by unfold R32; omega
theorem i_clamp {a : Int} (ha : R32 a) (h0 : 0 ≤ a) : (Int32.ofInt a).toNatClampNeg = a.toNat := by
  show (Int32.ofInt a).toInt.toNat = _
  rw [toI ha]
theorem i_in {a : Int} {n : Nat} (ha : R32 a) (h0 : 0 ≤ a) (h1 : a < n) : vp_in (Int32.ofInt a) n := vp_in_iff.mpr (by rw [toI ha]; exact ⟨h0, h1⟩)
theorem ad_i (a b : Int) : Int32.ofInt a + Int32.ofInt b = Int32.ofInt (w32 (a + b)) := by rw [i_w, Int32.ofInt_add]
theorem sb_i (a b : Int) : Int32.ofInt a - Int32.ofInt b = Int32.ofInt (w32 (a - b)) := by rw [i_w, Int32.ofInt_sub]
theorem ml_i (a b : Int) : Int32.ofInt a * Int32.ofInt b = Int32.ofInt (w32 (a * b)) := by rw [i_w, Int32.ofInt_mul]
theorem ng_i (a : Int) : -Int32.ofInt a = Int32.ofInt (w32 (-a)) := by rw [i_w, Int32.ofInt_neg]
theorem ad_l (a b : Int) : Int64.ofInt a + Int64.ofInt b = Int64.ofInt (w64 (a + b)) := by rw [l_w, Int64.ofInt_add]
theorem sb_l (a b : Int) : Int64.ofInt a - Int64.ofInt b = Int64.ofInt (w64 (a - b)) := by rw [l_w, Int64.ofInt_sub]
theorem ml_l (a b : Int) : Int64.ofInt a * Int64.ofInt b = Int64.ofInt (w64 (a * b)) := by rw [l_w, Int64.ofInt_mul]
theorem dv_i {a b : Int} (ha : R32 a) (hb : R32 b) : Int32.ofInt a / Int32.ofInt b = Int32.ofInt (w32 (a.tdiv b)) := by
  rw [i_w]
  exact (Int32.ofInt_tdiv ha.1 (by have := ha.2; exact this) hb.1 (by have := hb.2; exact this)).symm
theorem dv_l {a b : Int} (ha : R64 a) (hb : R64 b) : Int64.ofInt a / Int64.ofInt b = Int64.ofInt (w64 (a.tdiv b)) := by
  rw [l_w]
  exact (Int64.ofInt_tdiv ha.1 (by have := ha.2; exact this) hb.1 (by have := hb.2; exact this)).symm
theorem i2l_i {a : Int} (ha : R32 a) : (Int32.ofInt a).toInt64 = Int64.ofInt a := Int32.toInt64_ofInt ha.1 ha.2
theorem l2i_i (a : Int) : (Int64.ofInt a).toInt32 = Int32.ofInt (w32 a) := by rw [i_w, Int64.toInt32_ofInt]
def o_and (a b : Int) : Int := (Int32.ofInt a &&& Int32.ofInt b).toInt
def o_or (a b : Int) : Int := (Int32.ofInt a ||| Int32.ofInt b).toInt
def o_shl (a b : Int) : Int := (Int32.ofInt a <<< (Int32.ofInt b &&& 31)).toInt
def o_shr (a b : Int) : Int := (Int32.ofInt a >>> (Int32.ofInt b &&& 31)).toInt
def o_i2b (a : Int) : Int := (Int32.ofInt a).toInt8.toInt32.toInt
def o_i2c (a : Int) : Int := ((Int32.ofInt a).toUInt32 % 65536).toInt32.toInt
def o_rem (a b : Int) : Int := (Int32.ofInt a - Int32.ofInt a / Int32.ofInt b * Int32.ofInt b).toInt
def o_lrem (a b : Int) : Int := (Int64.ofInt a - Int64.ofInt a / Int64.ofInt b * Int64.ofInt b).toInt
/-! programs over the memory -/
abbrev Rs : Type := Option (Int × Mm)
def ck (P : Prop) [Decidable P] (k : Rs) : Rs := if P then k else none
def nm {α : Type} (v : α) (k : α → Rs) : Rs := k v
def bd (o : Rs) (k : Int → Mm → Rs) : Rs := match o with
  | none => none
  | some q => k q.1 q.2
def mset (μ : Mm) (r k x : Int) : Mm := fun r' k' => if r' = r ∧ k' = k then x else μ r' k'
theorem ck_some {P : Prop} [Decidable P] {k : Rs} {x : Int × Mm} (h : ck P k = some x) : P ∧ k = some x := by
  unfold ck at h
  by_cases hp : P
  · rw [if_pos hp] at h; exact ⟨hp, h⟩
  · rw [if_neg hp] at h; cases h
theorem nm_some {α : Type} {v : α} {k : α → Rs} {x : Int × Mm} (h : nm v k = some x) : ∃ y, y = v ∧ k y = some x := ⟨v, rfl, h⟩
theorem bd_some {o : Rs} {k : Int → Mm → Rs} {x : Int × Mm} (h : bd o k = some x) : ∃ r μ, o = some (r, μ) ∧ k r μ = some x := by
  unfold bd at h
  cases o with
  | none => cases h
  | some q => exact ⟨q.1, q.2, rfl, h⟩
theorem if_t {P : Prop} [Decidable P] {a b : Rs} {x : Int × Mm} (h : (if P then a else b) = some x) (p : P) : a = some x := by rwa [if_pos p] at h
theorem if_f {P : Prop} [Decidable P] {a b : Rs} {x : Int × Mm} (h : (if P then a else b) = some x) (p : ¬ P) : b = some x := by rwa [if_neg p] at h
/-! kinds: 1 StringBuilder, 2 Export, 3 History, 4 Lot, 5 Orders, 6 Owner, 7 Settings, 8 State, 9 BondedStore, 10 BondedStoreModel; 11 String; arrays: 21 byte, 22 char, 23 int, 24 long, 25 boolean, 26 State, 27 Owner, 28 Lot, 29 Export -/
def cN (k : Int) : Nat := match k.toNat with
  | 1 => 4 | 2 => 5 | 3 => 3 | 4 => 11 | 5 => 5 | 6 => 4 | 7 => 6 | 8 => 11 | 9 => 7 | _ => 0
def cTy (k : Int) : Nat → FieldType := match k.toNat with
  | 1 => tyJ4 | 2 => tyX0 | 3 => tyX1 | 4 => tyX2 | 5 => tyX3 | 6 => tyX4 | 7 => tyX5 | 8 => tyX6 | 9 => tyX7 | _ => fun _ => .int
def eTy (k : Int) : FieldType := match k.toNat with
  | 21 => .byte | 22 => .char | 23 => .int | 24 => .long | 25 => .boolean | 26 => .object RX6 | 27 => .object RX4 | 28 => .object RX2 | _ => .object RX0
def inT (ty : FieldType) (x : Int) : Prop := match ty with
  | .int => R32 x
  | .long => R64 x
  | .byte => -128 ≤ x ∧ x ≤ 127
  | .boolean => 0 ≤ x ∧ x ≤ 1
  | .char => 0 ≤ x ∧ x ≤ 65535
  | _ => True
def gA (E : gE) : Nat → Prop := fun q => E.2.2.1 ≤ q
def adO (E : gE) (r : Int) : Option Nat := if r = 0 then none else if r < 0 then E.2.2.2 (-r).toNat else some (E.2.2.1 + (r - 1).toNat)
def vr (E : gE) (r : Int) : Value := va_rf (adO E r)
abbrev vi (x : Int) : Value := .int (Int32.ofInt x)
abbrev vl (x : Int) : Value := .long (Int64.ofInt x)
def fv (E : gE) (ty : FieldType) (x : Int) : Value := match ty with
  | .long => vl x
  | .object _ => vr E x
  | .array _ => vr E x
  | _ => vi x
def ent (E : gE) (μ : Mm) (r : Int) : va_E :=
  if μ r (-2) ≤ 20 then .inr ((μ r (-2) - 1).toNat, (List.range (cN (μ r (-2)))).map (fun i => fv E (cTy (μ r (-2)) i) (μ r (i : Int))))
  else if μ r (-2) ≤ 23 then .inl (E.2.1 (μ r (-2) - 21).toNat, ((μ r (-1)).toNat, .inl (fun i => Int32.ofInt (μ r (i : Int)))))
  else if μ r (-2) = 24 then .inl (E.2.1 3, ((μ r (-1)).toNat, .inr (.inl (fun i => Int64.ofInt (μ r (i : Int))))))
  else if μ r (-2) = 25 then .inl (E.2.1 4, ((μ r (-1)).toNat, .inl (fun i => Int32.ofInt (μ r (i : Int)))))
  else .inl (E.2.1 (μ r (-2) - 21).toNat, ((μ r (-1)).toNat, .inr (.inr (.inr (.inr (fun i => adO E (μ r (i : Int))))))))
def tysE (E : gE) : List (ClassId × FieldType) := [(E.2.1 0, .byte), (E.2.1 1, .char), (E.2.1 2, .int), (E.2.1 3, .boolean), (E.2.1 4, .boolean), (E.2.1 5, .object RX6), (E.2.1 6, .object RX4), (E.2.1 7, .object RX2), (E.2.1 8, .object RX0)]
def wsE (E : gE) (μ : Mm) : va_W := (List.range (μ 0 0).toNat).map (fun i => (E.2.2.1 + i, ent E μ ((i : Int) + 1)))
/-! what was there before: the texts (ids -1 .. -13, their bytes -101 .. -113), two tables of digits (-301, -302) -/
def oTx (n : Nat) : List Int := match n with
  | 101 => [101, 110, 116, 101, 114]
  | 102 => [114, 101, 108, 101, 97, 115, 101]
  | 103 => [115, 97, 109, 112, 108, 101]
  | 104 => [101, 120, 112, 111, 114, 116]
  | 105 => [112, 114, 111, 118, 101]
  | 106 => [100, 101, 115, 116, 114, 111, 121]
  | 107 => [103, 105, 118, 101]
  | 108 => [100, 97, 121, 115]
  | 109 => [79, 75, 81, 86]
  | 110 => [69]
  | 111 => [76, 79]
  | 112 => [78]
  | 113 => [76, 81]
  | 301 => (List.range 100).map (fun i => 48 + (i % 10 : Nat))
  | 302 => (List.range 100).map (fun i => 48 + (i / 10 : Nat))
  | _ => []
def oM (n : Nat) (k : Int) : Int :=
  if 1 ≤ n ∧ n ≤ 13 then (if k = -2 then 11 else if k = 0 then -(100 + n) else 0)
  else if oTx n = [] then 0
  else if k = -2 then 21 else if k = -1 then (oTx n).length else if 0 ≤ k then (oTx n).getD k.toNat 0 else 0
def m0 : Mm := fun r k => if r < 0 then oM (-r).toNat k else 0
def WFm (μ : Mm) : Prop := 0 ≤ μ 0 0 ∧ μ 0 (-2) = 0 ∧ (∀ r, μ 0 0 < r → μ r (-2) = 0) ∧ (∀ r k, r < 0 → μ r k = m0 r k) ∧
  ∀ r, 1 ≤ r → r ≤ μ 0 0 → (1 ≤ μ r (-2) ∧ μ r (-2) ≤ 10 ∧ ∀ i : Nat, i < cN (μ r (-2)) → inT (cTy (μ r (-2)) i) (μ r (i : Int))) ∨
    (21 ≤ μ r (-2) ∧ μ r (-2) ≤ 29 ∧ 0 ≤ μ r (-1) ∧ μ r (-1) ≤ 2147483647 ∧ ∀ i : Int, 0 ≤ i → i < μ r (-1) → inT (eTy (μ r (-2))) (μ r i))
def oAt (E : gE) (n : Nat) : Nat := (E.2.2.2 n).getD 0
def OLD (E : gE) (U : State) (H : Heap) : Prop :=
  (∀ i : Nat, i < 13 → E.2.2.2 (1 + i) = some (oAt E (1 + i)) ∧ E.2.2.2 (101 + i) = some (oAt E (101 + i)) ∧ va_O "java/lang/String" (oAt E (1 + i)) (gA E) U H ∧ va_OF "java/lang/String" "coder" "B" (.int 0) (oAt E (1 + i)) (gA E) U H ∧ va_OF "java/lang/String" "value" "[B" (.ref (oAt E (101 + i))) (oAt E (1 + i)) (gA E) U H) ∧
  (∀ n : Nat, oTx n ≠ [] → E.2.2.2 n = some (oAt E n) ∧ va_T .byte (oAt E n) (oTx n).length (fun j => vi ((oTx n).getD j 0)) (gA E) U H) ∧
  va_Z "java/lang/String" "COMPACT_STRINGS" "Z" (.int 1) (gA E) U H ∧
  va_Z "jdk/internal/util/Preconditions" "SIOOBE_FORMATTER" "Ljava/util/function/BiFunction;" (va_rf (E.2.2.2 201)) (gA E) U H ∧
  va_Z "java/lang/Integer" "DigitOnes" "[B" (va_rf (E.2.2.2 301)) (gA E) U H ∧
  va_Z "java/lang/Integer" "DigitTens" "[B" (va_rf (E.2.2.2 302)) (gA E) U H
def oStr : List (Nat × String) := [(85, "enter"), (87, "release"), (89, "sample"), (91, "export"), (93, "prove"), (95, "destroy"), (97, "give"), (99, "days"), (101, "OKQV"), (103, "E"), (105, "LO"), (107, "N"), (109, "LQ")]
def TBL (E : gE) (U : State) : Prop :=
  va_K E.1 vwCl (tysE E) U ∧
  (∀ (i : Nat) (q : Nat × String), oStr[i]? = some q → vk_R RX3 q.1 q.2 (oAt E (1 + i)) U) ∧
  va_Nw (.methodLinkNest RX6 24 yX4_init RX7) U ∧ va_Nw (.methodLinkNest RX6 31 yX2_init RX7) U ∧ va_Nw (.methodLinkNest RX6 38 yX0_init RX7) U ∧ va_Nw (.methodLinkNest RX3 81 yX7_outside RX7) U ∧
  va_AO RX6 U ∧ va_AO RX4 U ∧ va_AO RX2 U ∧ va_AO RX0 U ∧
  va_Nw (.selects RJ4 yJ5_ensureCapacityInternal_d00df yJ5_ensureCapacityInternal_d00df) U ∧ va_Nw (.selects RJ4 yJ5_newCapacity_0f7a4 yJ5_newCapacity_0f7a4) U
/-- the world: the tables, the old things, the memory -/
def MEM (E : gE) (μ : Mm) (U : State) (H : Heap) : Prop := TBL E U ∧ OLD E U H ∧ WFm μ ∧ H.size = E.2.2.1 + (μ 0 0).toNat ∧ va_P E.1 vwCl (wsE E μ) H
/-- the world within a method that began at s -/
def MS (E : gE) (μ : Mm) (s : State) (H : Heap) (locs : List Loc) : Prop := MEM E μ s H ∧ va_S (gA E) s.heap H locs ∧ E.2.2.1 ≤ s.heap.size
