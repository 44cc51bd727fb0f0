/-! the start: the tables, the old things, the empty memory -/
def nwL : List Cond := flatC (Cond.and given_1 narrow_1)
def nwB (i : Nat) : Nat := [251, 260, 272, 284, 297, 310, 326, 340, 355, 371, 385, 401, 417].getD i 0
abbrev tmS (i : Nat) : Term := .string RX3 (85 + 2 * i)
abbrev tmV (i : Nat) : Term := .field (tmS i) "java/lang/String" "value" "[B"
abbrev tmD (b : Bool) : Term := .static "java/lang/Integer" (if b then "DigitTens" else "DigitOnes") "[B"
set_option maxRecDepth 100000 in
theorem nw_s : ∀ i, i < 13 → nwL[nwB i]? = some (.exactly (tmS i) "java/lang/String") ∧ nwL[nwB i + 1]? = some (.eq (.field (tmS i) "java/lang/String" "coder" "B") (.int 0)) ∧ nwL[nwB i + 2]? = some (.arrayOf (tmV i) .byte) ∧ nwL[nwB i + 3]? = some (.eq (.length (tmV i)) (.int (Int32.ofNat (oTx (101 + i)).length))) := by decide +kernel
set_option maxRecDepth 100000 in
theorem nw_e : ∀ i, i < 13 → ∀ j, j < (oTx (101 + i)).length → nwL[nwB i + 4 + j]? = some (.eq (.elem (tmV i) (.int (Int32.ofNat j))) (.int (Int32.ofInt ((oTx (101 + i)).getD j 0)))) := by decide +kernel
set_option maxRecDepth 100000 in
theorem nw_d : ∀ b : Bool, nwL[if b then 113 else 10]? = some (.arrayOf (tmD b) .byte) ∧ nwL[if b then 114 else 11]? = some (.eq (.length (tmD b)) (.int (Int32.ofNat 100))) ∧ ∀ j, j < 100 → nwL[(if b then 115 else 12) + j]? = some (.eq (.elem (tmD b) (.int (Int32.ofNat j))) (.int (Int32.ofInt ((oTx (if b then 302 else 301)).getD j 0)))) := by decide +kernel
set_option maxRecDepth 100000 in
theorem nw_z : nwL[4]? = some (.eq (.static "java/lang/String" "COMPACT_STRINGS" "Z") (.int 1)) ∧ nwL[5]? = some (.isRef (.static "jdk/internal/util/Preconditions" "SIOOBE_FORMATTER" "Ljava/util/function/BiFunction;")) := by decide +kernel
theorem oTx_l : ∀ i, i < 13 → (oTx (101 + i)).length < 2 ^ 31 := by decide +kernel
theorem oTx_d : ∀ b : Bool, (oTx (if b then 302 else 301)).length = 100 := by decide +kernel
theorem oTx_n {n : Nat} (h : oTx n ≠ []) : (101 ≤ n ∧ n ≤ 113) ∨ n = 301 ∨ n = 302 := by
  unfold oTx at h
  split at h <;> first | omega | exact absurd rfl h
/-- a private method of the class above -/
theorem sel_up {C : String} {x y z : MethodName} {s : State} {args : Array Value} (hz : (Cond.selects C x z).before args s = true) (hc : z.cls = y.cls) (hy : y.cls ≠ "java/lang/invoke/MethodHandle" ∧ y.cls ≠ "java/lang/invoke/VarHandle") (hp : (Cond.privateMethod y).before args s = true) (hi : (Cond.instanceMethod y).before args s = true) : (Cond.selects C y y).before args s = true := by
  obtain ⟨c, r, m, h1, -, h3, -, mk, h5, h6⟩ := Cond.selects_spec hz
  obtain ⟨mm, methM, g1, g2, -, -⟩ := Cond.instanceMethod_spec hi
  have hfound : s.methodFound? y.cls y.name y.desc = some mm := State.methodFound?_of_named g1 hy
  have e1 : s.vm.findClass z.cls = some m.cls := findClass_of_methodNamed h3
  have e2 : s.vm.findClass y.cls = some mm.cls := findClass_of_methodNamed g1
  rw [hc] at e1
  have e : mm.cls = m.cls := Option.some.inj (e2.symm.trans e1)
  have hsel : selectMethod {} s.vm c mm = .method mm := selectMethod_private g2 (Cond.privateMethod_at hp mm methM g1 g2)
  simp only [Cond.before, Cond.holds, Cond.value, h1, hfound, g1, hsel, e, h5]
  simp; exact h6
section START
variable {s : State} {args : Array Value}
theorem st_arr {ty : FieldType} (h : (Cond.arrayClass ty).before args s = true) (hp : ∀ c, s.vm.findClass ("[" ++ ty.toString) = some c → va_RA s c ty) : ∃ c, ArrOfT s c ty ∧ va_RA s c ty := by
  obtain ⟨c, kk, comp, h1, h2, h3⟩ := Cond.arrayClass_spec h
  exact ⟨c, fun n z => ⟨fun k h => by (cases h), kk, h2, comp, h3⟩, hp c h1⟩
theorem st_arrO {C : String} (h : (Cond.arrayOver (.object C)).before args s = true) : ∃ c, ArrOfT s c (.object C) ∧ va_RA s c (.object C) := by
  obtain ⟨comp, c, k, h1, -, h3, h4, h5⟩ := Cond.arrayOver_spec h
  exact ⟨c, fun n z => ⟨fun k h => by (cases h), k, h3, comp, h4⟩, k, comp, h3, h4, h1, h5⟩
theorem st_types (hts : ∀ w ∈ lw_tbl, w.before args s = true) : ∃ tC : Nat → ClassId, ∀ (k : Nat) (q : ClassId × FieldType), ([(tC 0, .byte), (tC 1, .char), (tC 2, .int), (tC 3, .boolean), (tC 4, .boolean), (tC 5, .object RX6), (tC 6, .object RX4), (tC 7, .object RX2), (tC 8, .object RX0)] : List (ClassId × FieldType))[k]? = some q → ArrOfT s q.1 q.2 ∧ va_RA s q.1 q.2 := by
  obtain ⟨c0, h0⟩ := st_arr (hts (.arrayClass .byte) (tm_2 _ (List.mem_of_getElem? (i := 62) rfl))) (fun _ h => h)
  obtain ⟨c1, h1⟩ := st_arr (hts (.arrayClass .char) (tm_2 _ (List.mem_of_getElem? (i := 30) rfl))) (fun _ h => h)
  obtain ⟨c2, h2⟩ := st_arr (hts (.arrayClass .int) (tm_1 _ (List.mem_of_getElem? (i := 65) rfl))) (fun _ h => h)
  obtain ⟨c4, h4⟩ := st_arr (hts (.arrayClass .boolean) (tm_2 _ (List.mem_of_getElem? (i := 29) rfl))) (fun _ h => h)
  obtain ⟨c5, h5⟩ := st_arrO (hts (.arrayOver (.object RX6)) (tm_1 _ (List.mem_of_getElem? (i := 231) rfl)))
  obtain ⟨c6, h6⟩ := st_arrO (hts (.arrayOver (.object RX4)) (tm_1 _ (List.mem_of_getElem? (i := 67) rfl)))
  obtain ⟨c7, h7⟩ := st_arrO (hts (.arrayOver (.object RX2)) (tm_1 _ (List.mem_of_getElem? (i := 92) rfl)))
  obtain ⟨c8, h8⟩ := st_arrO (hts (.arrayOver (.object RX0)) (tm_1 _ (List.mem_of_getElem? (i := 149) rfl)))
  refine ⟨fun k => [c0, c1, c2, c4, c4, c5, c6, c7, c8].getD k 0, fun k q hq => ?_⟩
  match k, hq with
  | 0, hq => cases hq; exact h0
  | 1, hq => cases hq; exact h1
  | 2, hq => cases hq; exact h2
  | 3, hq => cases hq; exact h4
  | 4, hq => cases hq; exact h4
  | 5, hq => cases hq; exact h5
  | 6, hq => cases hq; exact h6
  | 7, hq => cases hq; exact h7
  | 8, hq => cases hq; exact h8
  | k + 9, hq => cases hq
theorem st_classes (hts : ∀ w ∈ lw_tbl, w.before args s = true) : ∃ D : va_G, ∀ (k : Nat) (q : vw_C), vwCl[k]? = some q → u_Kn s q.1 q.2.1 q.2.2 (D.1 k) (D.2 k) := by
  have hB : ∀ w ∈ bigL, w.before args s = true := fun w h => hts w (bigL_in w h)
  obtain ⟨c0, i0, h0⟩ := u_known (C := RJ4) (T := TJ4) (N := 4) (n := 4) hB ui_J4 (hts (.instantiable RJ4 4) (tm_2 _ (List.mem_of_getElem? (i := 32) rfl)))
  obtain ⟨c1, i1, h1⟩ := u_known (C := RX0) (T := TX0) (N := 5) (n := 5) hB ui_X0 (hts (.instantiable RX0 5) (tm_1 _ (List.mem_of_getElem? (i := 150) rfl)))
  obtain ⟨c2, i2, h2⟩ := u_known (C := RX1) (T := TX1) (N := 3) (n := 3) hB ui_X1 (hts (.instantiable RX1 3) (tm_1 _ (List.mem_of_getElem? (i := 225) rfl)))
  obtain ⟨c3, i3, h3⟩ := u_known (C := RX2) (T := TX2) (N := 11) (n := 11) hB ui_X2 (hts (.instantiable RX2 11) (tm_1 _ (List.mem_of_getElem? (i := 93) rfl)))
  obtain ⟨c4, i4, h4⟩ := u_known (C := RX3) (T := TX3) (N := 5) (n := 5) hB ui_X3 (hts (.instantiable RX3 5) (tm_2 _ (List.mem_of_getElem? (i := 5) rfl)))
  obtain ⟨c5, i5, h5⟩ := u_known (C := RX4) (T := TX4) (N := 4) (n := 4) hB ui_X4 (hts (.instantiable RX4 4) (tm_1 _ (List.mem_of_getElem? (i := 68) rfl)))
  obtain ⟨c6, i6, h6⟩ := u_known (C := RX5) (T := TX5) (N := 6) (n := 6) hB ui_X5 (hts (.instantiable RX5 6) (tm_1 _ (List.mem_of_getElem? (i := 35) rfl)))
  obtain ⟨c7, i7, h7⟩ := u_known (C := RX6) (T := TX6) (N := 11) (n := 11) hB ui_X6 (hts (.instantiable RX6 11) (tm_1 _ (List.mem_of_getElem? (i := 29) rfl)))
  obtain ⟨c8, i8, h8⟩ := u_known (C := RX7) (T := TX7) (N := 7) (n := 7) hB ui_X7 (hts (.instantiable RX7 7) (tm_1 _ (List.mem_of_getElem? (i := 21) rfl)))
  refine ⟨(fun k => [c0, c1, c2, c3, c4, c5, c6, c7, c8].getD k 0, fun k => [i0, i1, i2, i3, i4, i5, i6, i7, i8].getD k i0), fun k q hq => ?_⟩
  match k, hq with
  | 0, hq => cases hq; exact h0
  | 1, hq => cases hq; exact h1
  | 2, hq => cases hq; exact h2
  | 3, hq => cases hq; exact h3
  | 4, hq => cases hq; exact h4
  | 5, hq => cases hq; exact h5
  | 6, hq => cases hq; exact h6
  | 7, hq => cases hq; exact h7
  | 8, hq => cases hq; exact h8
  | k + 9, hq => cases hq
theorem st_strs (hs : ∀ w ∈ nwL, w.before args s = true) {A : Nat → Prop} (hA : ∀ a : Nat, a < s.heap.size → ¬ A a) : ∃ ad : Nat → Nat × Nat, ∀ i, i < 13 → (tmS i).eval args s none [] s = some (.ref (ad i).1) ∧ va_O "java/lang/String" (ad i).1 A s s.heap ∧ va_OF "java/lang/String" "coder" "B" (.int 0) (ad i).1 A s s.heap ∧ va_OF "java/lang/String" "value" "[B" (.ref (ad i).2) (ad i).1 A s s.heap ∧ va_T .byte (ad i).2 (oTx (101 + i)).length (fun j => vi ((oTx (101 + i)).getD j 0)) A s s.heap := by
  have h0 : ∀ i : Nat, ∃ q : Nat × Nat, i < 13 → (tmS i).eval args s none [] s = some (.ref q.1) ∧ va_O "java/lang/String" q.1 A s s.heap ∧ va_OF "java/lang/String" "coder" "B" (.int 0) q.1 A s s.heap ∧ va_OF "java/lang/String" "value" "[B" (.ref q.2) q.1 A s s.heap ∧ va_T .byte q.2 (oTx (101 + i)).length (fun j => vi ((oTx (101 + i)).getD j 0)) A s s.heap := by
    intro i
    by_cases hi : i < 13
    · obtain ⟨n1, n2, n3, n4⟩ := nw_s i hi
      have e1 := hs _ (List.mem_of_getElem? n1)
      have e2 := hs _ (List.mem_of_getElem? n2)
      have e3 := hs _ (List.mem_of_getElem? n3)
      have e4 := hs _ (List.mem_of_getElem? n4)
      obtain ⟨a, c, cA, kA, q1, q2, q3, q4, q5, q6, -⟩ := Cond.exactly_spec (args := args) (first := s) (o := none) (s := s) (idx := []) (t := tmS i) (cls := "java/lang/String") e1
      obtain ⟨t, ht, hT⟩ := va_Tof (f := fun j => vi ((oTx (101 + i)).getD j 0)) (A := A) (oTx_l i hi) e3 (va_eqt e4) (fun j hj => va_eqt (hs _ (List.mem_of_getElem? (nw_e i hi j hj)))) hA
      exact ⟨(a, t), fun _ => ⟨q1, va_Oof e1 q1 hA, vk_OFof q1 (va_eqt e2) hA, vk_OFof q1 ht hA, hT⟩⟩
    · exact ⟨(0, 0), fun h => absurd h hi⟩
  obtain ⟨ad, had⟩ := Classical.axiomOfChoice h0
  exact ⟨ad, had⟩
theorem st_dig (hs : ∀ w ∈ nwL, w.before args s = true) {A : Nat → Prop} (hA : ∀ a : Nat, a < s.heap.size → ¬ A a) (b : Bool) : ∃ t : Nat, (tmD b).eval args s none [] s = some (.ref t) ∧ va_T .byte t (oTx (if b then 302 else 301)).length (fun j => vi ((oTx (if b then 302 else 301)).getD j 0)) A s s.heap := by
  obtain ⟨n1, n2, n3⟩ := nw_d b
  rw [oTx_d b]
  exact va_Tof (by decide) (hs _ (List.mem_of_getElem? n1)) (va_eqt (hs _ (List.mem_of_getElem? n2))) (fun j hj => va_eqt (hs _ (List.mem_of_getElem? (n3 j hj)))) hA
/-- the world at the start -/
theorem st_world (hts : ∀ w ∈ lw_tbl, w.before args s = true) (hgv : (Cond.and given_1 narrow_1).before args s = true) : ∃ E : gE, E.2.2.1 = s.heap.size ∧ MS E m0 s s.heap [] := by
  have hs : ∀ w ∈ nwL, w.before args s = true := flat_of_before _ hgv
  have hA : ∀ a : Nat, a < s.heap.size → ¬ (fun q : Nat => s.heap.size ≤ q) a := fun a h g => absurd h (Nat.not_lt.mpr g)
  obtain ⟨D, hD⟩ := st_classes hts
  obtain ⟨tC, hC⟩ := st_types hts
  obtain ⟨ad, had⟩ := st_strs hs hA
  obtain ⟨t1, e1, hT1⟩ := st_dig hs hA false
  obtain ⟨t2, e2, hT2⟩ := st_dig hs hA true
  have hz := va_Zof (hts (.laysStatic "java/lang/String" "COMPACT_STRINGS" "Z") (tm_2 _ (List.mem_of_getElem? (i := 41) rfl))) (hts (.initialized "java/lang/String") (tm_1 _ (List.mem_of_getElem? (i := 11) rfl))) (va_eqi (hs _ (List.mem_of_getElem? nw_z.1))) hA
  have hf : ∃ o : Option Nat, va_Z "jdk/internal/util/Preconditions" "SIOOBE_FORMATTER" "Ljava/util/function/BiFunction;" (va_rf o) (fun q : Nat => s.heap.size ≤ q) s s.heap := by
    rcases va_Zqof (hts (.laysStatic "jdk/internal/util/Preconditions" "SIOOBE_FORMATTER" "Ljava/util/function/BiFunction;") (tm_3 _ (List.mem_of_getElem? (i := 208) rfl))) (hts (.initialized "jdk/internal/util/Preconditions") (tm_1 _ (List.mem_of_getElem? (i := 18) rfl))) (hs _ (List.mem_of_getElem? nw_z.2)) hA with h | ⟨t, h⟩
    · exact ⟨none, h⟩
    · exact ⟨some t, h⟩
  obtain ⟨of, hof⟩ := hf
  have hd1 := va_Zref (hts (.laysStatic "java/lang/Integer" "DigitOnes" "[B") (tm_4 _ (List.mem_of_getElem? (i := 7) rfl))) (hts (.initialized "java/lang/Integer") (tm_1 _ (List.mem_of_getElem? (i := 19) rfl))) e1 hA
  have hd2 := va_Zref (hts (.laysStatic "java/lang/Integer" "DigitTens" "[B") (tm_4 _ (List.mem_of_getElem? (i := 9) rfl))) (hts (.initialized "java/lang/Integer") (tm_1 _ (List.mem_of_getElem? (i := 19) rfl))) e2 hA
  have hold : ∃ old : Nat → Option Nat, old 201 = of ∧ old 301 = some t1 ∧ old 302 = some t2 ∧ ∀ i, i < 13 → old (1 + i) = some (ad i).1 ∧ old (101 + i) = some (ad i).2 := by
    refine ⟨fun n => if n = 201 then of else if n = 301 then some t1 else if n = 302 then some t2 else if n ≤ 13 then some (ad (n - 1)).1 else some (ad (n - 101)).2, ?_, ?_, ?_, fun i hi => ⟨?_, ?_⟩⟩
    · exact if_pos rfl
    · show (if 301 = 201 then of else if 301 = 301 then some t1 else _) = _
      rw [if_neg (by decide), if_pos rfl]
    · show (if 302 = 201 then of else if 302 = 301 then some t1 else if 302 = 302 then some t2 else _) = _
      rw [if_neg (by decide), if_neg (by decide), if_pos rfl]
    · show (if 1 + i = 201 then of else if 1 + i = 301 then some t1 else if 1 + i = 302 then some t2 else if 1 + i ≤ 13 then some (ad (1 + i - 1)).1 else some (ad (1 + i - 101)).2) = _
      rw [if_neg (by omega), if_neg (by omega), if_neg (by omega), if_pos (by omega), show 1 + i - 1 = i from by omega]
    · show (if 101 + i = 201 then of else if 101 + i = 301 then some t1 else if 101 + i = 302 then some t2 else if 101 + i ≤ 13 then some (ad (101 + i - 1)).1 else some (ad (101 + i - 101)).2) = _
      rw [if_neg (by omega), if_neg (by omega), if_neg (by omega), if_neg (by omega), show 101 + i - 101 = i from by omega]
  obtain ⟨old, o1, o2, o3, o4⟩ := hold
  have ot : ∀ {n a : Nat}, old n = some a → oAt (D, tC, s.heap.size, old) n = a := fun {n a} h => by
    show (old n).getD 0 = a
    rw [h]; rfl
  refine ⟨(D, tC, s.heap.size, old), rfl, ⟨?_, ?_, ?_, ?_, ?_⟩, va_S.rf, Nat.le_refl _⟩
  · refine ⟨⟨hD, hC⟩, ?_, va_Nw.of rfl (hts _ (tm_1 _ (List.mem_of_getElem? (i := 69) rfl))), va_Nw.of rfl (hts _ (tm_1 _ (List.mem_of_getElem? (i := 94) rfl))), va_Nw.of rfl (hts _ (tm_1 _ (List.mem_of_getElem? (i := 151) rfl))), va_Nw.of rfl (hts _ (tm_5 _ (List.mem_of_getElem? (i := 2) rfl))), va_AO.of (hts _ (tm_1 _ (List.mem_of_getElem? (i := 231) rfl))), va_AO.of (hts _ (tm_1 _ (List.mem_of_getElem? (i := 67) rfl))), va_AO.of (hts _ (tm_1 _ (List.mem_of_getElem? (i := 92) rfl))), va_AO.of (hts _ (tm_1 _ (List.mem_of_getElem? (i := 149) rfl))), ?_, ?_⟩
    · intro i q hq
      have r : ∀ {j : Nat} {tx : String}, j < 13 → (Cond.stringRef RX3 (85 + 2 * j) tx).before args s = true → vk_R RX3 (85 + 2 * j) tx (oAt (D, tC, s.heap.size, old) (1 + j)) s := fun {j tx} hj h => by
        rw [ot (o4 j hj).1]
        exact vk_R.of h (had j hj).1
      match i, hq with
      | 0, hq => cases hq; exact r (j := 0) (by decide) (hts _ (tm_4 _ (List.mem_of_getElem? (i := 181) rfl)))
      | 1, hq => cases hq; exact r (j := 1) (by decide) (hts _ (tm_4 _ (List.mem_of_getElem? (i := 182) rfl)))
      | 2, hq => cases hq; exact r (j := 2) (by decide) (hts _ (tm_4 _ (List.mem_of_getElem? (i := 183) rfl)))
      | 3, hq => cases hq; exact r (j := 3) (by decide) (hts _ (tm_4 _ (List.mem_of_getElem? (i := 184) rfl)))
      | 4, hq => cases hq; exact r (j := 4) (by decide) (hts _ (tm_4 _ (List.mem_of_getElem? (i := 185) rfl)))
      | 5, hq => cases hq; exact r (j := 5) (by decide) (hts _ (tm_4 _ (List.mem_of_getElem? (i := 186) rfl)))
      | 6, hq => cases hq; exact r (j := 6) (by decide) (hts _ (tm_4 _ (List.mem_of_getElem? (i := 187) rfl)))
      | 7, hq => cases hq; exact r (j := 7) (by decide) (hts _ (tm_4 _ (List.mem_of_getElem? (i := 188) rfl)))
      | 8, hq => cases hq; exact r (j := 8) (by decide) (hts _ (tm_4 _ (List.mem_of_getElem? (i := 221) rfl)))
      | 9, hq => cases hq; exact r (j := 9) (by decide) (hts _ (tm_4 _ (List.mem_of_getElem? (i := 222) rfl)))
      | 10, hq => cases hq; exact r (j := 10) (by decide) (hts _ (tm_4 _ (List.mem_of_getElem? (i := 223) rfl)))
      | 11, hq => cases hq; exact r (j := 11) (by decide) (hts _ (tm_4 _ (List.mem_of_getElem? (i := 224) rfl)))
      | 12, hq => cases hq; exact r (j := 12) (by decide) (hts _ (tm_4 _ (List.mem_of_getElem? (i := 225) rfl)))
      | i + 13, hq => cases hq
    · exact va_Nw.of rfl (sel_up (z := yJ5_isLatin1_aae02) (hts _ (bigL_in _ bw_3_163)) rfl (by decide) (hts _ (tm_3 _ (List.mem_of_getElem? (i := 128) rfl))) (hts _ (tm_3 _ (List.mem_of_getElem? (i := 129) rfl))))
    · exact va_Nw.of rfl (sel_up (z := yJ5_isLatin1_aae02) (hts _ (bigL_in _ bw_3_163)) rfl (by decide) (hts _ (tm_3 _ (List.mem_of_getElem? (i := 132) rfl))) (hts _ (tm_3 _ (List.mem_of_getElem? (i := 133) rfl))))
  · refine ⟨fun i hi => ?_, fun n hn => ?_, hz, ?_, ?_, ?_⟩
    · obtain ⟨-, h2, h3, h4, -⟩ := had i hi
      rw [ot (o4 i hi).1, ot (o4 i hi).2]
      exact ⟨(o4 i hi).1, (o4 i hi).2, h2, h3, h4⟩
    · rcases oTx_n hn with h | h | h
      · have en : n = 101 + (n - 101) := by omega
        have hi : n - 101 < 13 := by omega
        rw [en, ot (o4 _ hi).2]
        exact ⟨(o4 _ hi).2, (had _ hi).2.2.2.2⟩
      · subst h
        rw [ot o2]
        exact ⟨o2, hT1⟩
      · subst h
        rw [ot o3]
        exact ⟨o3, hT2⟩
    · show va_Z _ _ _ (va_rf (old 201)) _ _ _
      rw [o1]; exact hof
    · show va_Z _ _ _ (va_rf (old 301)) _ _ _
      rw [o2]; exact hd1
    · show va_Z _ _ _ (va_rf (old 302)) _ _ _
      rw [o3]; exact hd2
  · exact ⟨Int.le_refl 0, rfl, fun r hr => m0_nn (by have : m0 0 0 = 0 := rfl; omega) _, fun _ _ _ => rfl, fun r h1 h2 => by have : m0 0 0 = 0 := rfl; omega⟩
  · rfl
  · intro k q hq
    cases hq
end START
/-- the law from its entry -/
theorem whole_start {p : Program} {e : Env} {s : State} {m : MethodId} {below : List Frame} {meth : Method} {c : Code} (l : Launch) (hflags : l.flags = flags0) {b L : Nat} {xs : Nat → Int32} (hL : L ≤ 260) (C0 : lw_At p s m meth c b L xs) : W p l e room_1 s m #[Value.ref b] below meth c s.heap [] 0 0 (lw_Z below #[Value.ref b] s) (entryFrame m ([Value.ref b] : List Value).toArray 13) := by
  obtain ⟨hx, hb, hr, hml, hown, hts, hX, hbl, hlocks, hgv⟩ := id C0
  obtain ⟨E, hE, hM⟩ := st_world hts hgv
  obtain ⟨μ', h⟩ := law_all 5000 (by omega) (fun i => (xs i.toNat).toInt) (L : Int)
  obtain ⟨ls, e0, hl⟩ := g_entry m [Value.ref b] [1] rfl (n := 13) (by decide)
  rw [e0]
  exact k_L_law (nmm := meth.name) ⟨⟨hx, hb, hml, hown, fun w h => hts w (bigL_in w h)⟩, hr, hlocks, rfl⟩ hX hbl hE (by omega) (5000 + 1000) m0 h ls hM hl
