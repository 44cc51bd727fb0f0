/-! THE CLAIM OUT OF ONE WALK OF THE LAW'S BODY. Your part is whole_start (and what it stands on); all else here is the same for every law, but numbers. -/
def R_law : String := "BondedStoreLaw"
def lw_P (b : Addr) (xs : List Int32) (args : Array Value) (s : State) : Prop := args = #[.ref b] ∧ s.IntsAt b xs ∧ xs.length ≤ 2560 ∧ (Jvm.Cond.and given_1 narrow_1).before args s = true
def lw_Q (_ : Array Value) (s : State) (o : Outcome) (t : State) : Prop := o = .returned (some (.int 1)) ∧ Framed s o t [] 600000 7302250
def lw_Z (below : List Frame) (a : Array Value) (s : State) : State → Prop := fun t => ∃ o, t.status = .running ∧ Ended t below o ∧ lw_Q a s o t
/-- the law's own end, with 1 on the stack, nothing written that was there before, its room as the claim has it -/
theorem lw_ret {p : Program} {l : Launch} {e : Env} {s : State} {m : MethodId} {below : List Frame} {meth : Method} {c : Code} {b : Nat} (hx : p.tables.exec = Jvm.exec) (hb : c.code = code) (hr : meth.sig.returnType = ret) (hlocks : meth.locks = false) {pc : Nat} {H : Heap} {ls : Array Slot} (hdg : decode code pc = .ok (.ireturn, 1)) : W p l e room_1 s m #[Value.ref b] below meth c H [] 600000 7302250 (lw_Z below #[Value.ref b] s) (F0 m pc ls [.int 1]) := by
  intro T hT X
  obtain ⟨fs, hret, hrun, hended, hW, hframe⟩ := X.leave (v := some (.int 1)) (hlocks := hlocks) (fun h => by rw [hr] at h; cases h)
  have hmeth' : T.vm.method? m = some meth := X.method'
  refine ⟨T.setFrames fs, ?_, .returned (some (.int 1)), hrun, hended, rfl, ⟨_, rfl⟩, hW, hframe⟩
  jvm_step X.here [X.here.top, hx, hb, hdg, hmeth', hr, ret, narrow_b1]
  (try refine ⟨rfl, ?_⟩); (try refine ⟨rfl, ?_⟩)
  first | (intro acts; rw [hret _ acts rfl rfl rfl]) | rw [hret _ _ rfl rfl rfl]
  exact Steps.refl _
/-- what holds at the law's entry: the machine, the code, the tables' words (any of lw_tbl by 'hts w (by decide +kernel)'), the script of L ints xs at the cell b, what the Statement gives of the start (any of its parts by flat_of_before) -/
def lw_At (p : Program) (s : State) (m : MethodId) (meth : Method) (c : Code) (b L : Nat) (xs : Nat → Int32) : Prop :=
  p.tables.exec = Jvm.exec ∧ c.code = code ∧ meth.sig.returnType = ret ∧ c.maxLocals = 4 ∧ s.vm.findClass R_law = some m.cls ∧ (∀ w ∈ lw_tbl, w.before #[Value.ref b] s = true) ∧ va_X b L xs s s.heap ∧ b < s.heap.size ∧ meth.locks = false ∧ (Jvm.Cond.and given_1 narrow_1).before #[Value.ref b] s = true
section SCRIPT
variable {p : Program} {l : Launch} {e : Env} {R : Room} {s : State} {m : MethodId} {args : Array Value} {below : List Frame} {meth : Method} {c : Code} {H : Heap} {locs : List Loc} {cells slots : Nat} {Q : State → Prop} {cc : ByteArray} {pc nL : Nat} {ls : Array Slot} {rest : List Value} {ret : Option FieldType} {nmm own : String} {E : gE} {μ μ1 : Mm} {b L : Nat} {xs : Nat → Int32}
theorem m_sload (C : gCx p s m args meth c cc nL ret nmm own) {k : Fin 4} {i : Nat} (hdg : decode cc pc = .ok (.aload_n k, 1)) (hi : (k : Nat) = i) (hl : ls[i]? = some (.val (.ref b))) (kk : W p l e R s m args below meth c H locs cells slots Q (F0 m (pc + 1) ls (.ref b :: rest))) : W p l e R s m args below meth c H locs cells slots Q (F0 m pc ls rest) := lv_aload_n C.1.1 C.1.2.1 hdg hi hl kk
theorem m_sald (C : gCx p s m args meth c cc nL ret nmm own) (hM : MS E μ s H locs) (hX : va_X b L xs s s.heap) (hbl : b < s.heap.size) (hE : E.2.2.1 = s.heap.size) (hL : L ≤ 2147483647) {i : Int} (h0 : 0 ≤ i) (h1 : i < (L : Int)) (hdg : decode cc pc = .ok (.iaload, 1)) (kk : W p l e R s m args below meth c H locs cells slots Q (F0 m (pc + 1) ls (vi ((fun i : Int => (xs i.toNat).toInt) i) :: rest))) : W p l e R s m args below meth c H locs cells slots Q (F0 m pc ls (vi i :: .ref b :: rest)) := by
  have ri : R32 i := ⟨by omega, by omega⟩
  refine va_sld C.1.1 C.1.2.1 hX hbl (A := gA E) (by unfold gA; omega) hM.2.1 (i_in ri h0 h1) hdg ?_
  rw [i_clamp ri h0]
  have e9 : Int32.ofInt ((fun i : Int => (xs i.toNat).toInt) i) = xs i.toNat := Int32.ofInt_toInt _
  rw [← e9]
  exact kk
theorem m_slen (C : gCx p s m args meth c cc nL ret nmm own) (hM : MS E μ s H locs) (hX : va_X b L xs s s.heap) (hbl : b < s.heap.size) (hE : E.2.2.1 = s.heap.size) (hdg : decode cc pc = .ok (.arraylength, 1)) (kk : W p l e R s m args below meth c H locs cells slots Q (F0 m (pc + 1) ls (vi (L : Int) :: rest))) : W p l e R s m args below meth c H locs cells slots Q (F0 m pc ls (.ref b :: rest)) := by
  refine va_slen C.1.1 C.1.2.1 hX hbl (A := gA E) (by unfold gA; omega) hM.2.1 hdg ?_
  rw [← Int32.ofInt_eq_ofNat]
  exact kk
end SCRIPT
theorem rk_31 : R32 31 := ⟨by decide, by decide⟩
section LAWW
variable {p : Program} {l : Launch} {e : Env} {s : State} {m : MethodId} {below : List Frame} {meth : Method} {c : Code} {E : gE} {b L : Nat} {xs : Nat → Int32} {nmm : String}
def f_L_law_b1029 (sc : Int → Int) (sl : Int) (N : Nat) (k18 : Int → Int → Int → Int → Int → Mm → Rs) (x1 x2 x3 bc bs : Int) (μ : Mm) : Rs :=
  nm (w32 (x3 + 5)) fun a1 =>
  k18 x1 x2 a1 bc bs μ
def f_L_law_b172 (sc : Int → Int) (sl : Int) (N : Nat) (k18 : Int → Int → Int → Int → Int → Mm → Rs) (x1 x2 x3 bc bs : Int) (μ : Mm) : Rs :=
  ck (μ x1 (-2) = 9) <|
  bd (f_X7_addOwner N x1 μ) fun a2 μ3 =>
  ck (μ3 x2 (-2) = 10) <|
  bd (f_X8_addOwner N x2 μ3) fun a5 μ6 =>
  if a2 = a5 then
    (f_L_law_b1029 sc sl N k18 x1 x2 x3 bc bs μ6)
  else
  some (0, μ6)
def f_L_law_b185 (sc : Int → Int) (sl : Int) (N : Nat) (k18 : Int → Int → Int → Int → Int → Mm → Rs) (x1 x2 x3 bc bs : Int) (μ : Mm) : Rs :=
  nm (w32 (x3 + 1)) fun a1 =>
  ck ((0 : Int) ≤ a1 ∧ a1 < sl) <|
  nm (w32 (x3 + 2)) fun a3 =>
  ck ((0 : Int) ≤ a3 ∧ a3 < sl) <|
  ck (μ x1 (-2) = 9) <|
  bd (f_X7_deposit N x1 (sc a1) (sc a3) μ) fun a6 μ7 =>
  nm (w32 (x3 + 1)) fun a8 =>
  ck ((0 : Int) ≤ a8 ∧ a8 < sl) <|
  nm (w32 (x3 + 2)) fun a10 =>
  ck ((0 : Int) ≤ a10 ∧ a10 < sl) <|
  ck (μ7 x2 (-2) = 10) <|
  bd (f_X8_deposit N x2 (sc a8) (sc a10) μ7) fun a13 μ14 =>
  if a6 = a13 then
    (f_L_law_b1029 sc sl N k18 x1 x2 x3 bc bs μ14)
  else
  some (0, μ14)
def f_L_law_b218 (sc : Int → Int) (sl : Int) (N : Nat) (k18 : Int → Int → Int → Int → Int → Mm → Rs) (x1 x2 x3 bc bs : Int) (μ : Mm) : Rs :=
  nm (w32 (x3 + 1)) fun a1 =>
  ck ((0 : Int) ≤ a1 ∧ a1 < sl) <|
  nm (w32 (x3 + 2)) fun a3 =>
  ck ((0 : Int) ≤ a3 ∧ a3 < sl) <|
  ck (μ x1 (-2) = 9) <|
  bd (f_X7_setGuarantee N x1 (sc a1) (sc a3) μ) fun a6 μ7 =>
  nm (w32 (x3 + 1)) fun a8 =>
  ck ((0 : Int) ≤ a8 ∧ a8 < sl) <|
  nm (w32 (x3 + 2)) fun a10 =>
  ck ((0 : Int) ≤ a10 ∧ a10 < sl) <|
  ck (μ7 x2 (-2) = 10) <|
  bd (f_X8_setGuarantee N x2 (sc a8) (sc a10) μ7) fun a13 μ14 =>
  if a6 = a13 then
    (f_L_law_b1029 sc sl N k18 x1 x2 x3 bc bs μ14)
  else
  some (0, μ14)
def f_L_law_b251 (sc : Int → Int) (sl : Int) (N : Nat) (k18 : Int → Int → Int → Int → Int → Mm → Rs) (x1 x2 x3 bc bs : Int) (μ : Mm) : Rs :=
  nm (w32 (x3 + 1)) fun a1 =>
  ck ((0 : Int) ≤ a1 ∧ a1 < sl) <|
  nm (w32 (x3 + 2)) fun a3 =>
  ck ((0 : Int) ≤ a3 ∧ a3 < sl) <|
  ck (μ x1 (-2) = 9) <|
  bd (f_X7_setRate N x1 (sc a1) (sc a3) μ) fun a6 μ7 =>
  nm (w32 (x3 + 1)) fun a8 =>
  ck ((0 : Int) ≤ a8 ∧ a8 < sl) <|
  nm (w32 (x3 + 2)) fun a10 =>
  ck ((0 : Int) ≤ a10 ∧ a10 < sl) <|
  ck (μ7 x2 (-2) = 10) <|
  bd (f_X8_setRate N x2 (sc a8) (sc a10) μ7) fun a13 μ14 =>
  if a6 = a13 then
    (f_L_law_b1029 sc sl N k18 x1 x2 x3 bc bs μ14)
  else
  some (0, μ14)
def f_L_law_b284 (sc : Int → Int) (sl : Int) (N : Nat) (k18 : Int → Int → Int → Int → Int → Mm → Rs) (x1 x2 x3 bc bs : Int) (μ : Mm) : Rs :=
  nm (w32 (x3 + 1)) fun a1 =>
  ck ((0 : Int) ≤ a1 ∧ a1 < sl) <|
  nm (w32 (x3 + 2)) fun a3 =>
  ck ((0 : Int) ≤ a3 ∧ a3 < sl) <|
  ck (μ x1 (-2) = 9) <|
  bd (f_X7_setTerms N x1 (sc a1) (sc a3) μ) fun a6 μ7 =>
  nm (w32 (x3 + 1)) fun a8 =>
  ck ((0 : Int) ≤ a8 ∧ a8 < sl) <|
  nm (w32 (x3 + 2)) fun a10 =>
  ck ((0 : Int) ≤ a10 ∧ a10 < sl) <|
  ck (μ7 x2 (-2) = 10) <|
  bd (f_X8_setTerms N x2 (sc a8) (sc a10) μ7) fun a13 μ14 =>
  if a6 = a13 then
    (f_L_law_b1029 sc sl N k18 x1 x2 x3 bc bs μ14)
  else
  some (0, μ14)
def f_L_law_b317 (sc : Int → Int) (sl : Int) (N : Nat) (k18 : Int → Int → Int → Int → Int → Mm → Rs) (x1 x2 x3 bc bs : Int) (μ : Mm) : Rs :=
  nm (w32 (x3 + 1)) fun a1 =>
  ck ((0 : Int) ≤ a1 ∧ a1 < sl) <|
  nm (w32 (x3 + 2)) fun a3 =>
  ck ((0 : Int) ≤ a3 ∧ a3 < sl) <|
  nm (w32 (x3 + 3)) fun a5 =>
  ck ((0 : Int) ≤ a5 ∧ a5 < sl) <|
  ck (μ x1 (-2) = 9) <|
  bd (f_X7_setRules N x1 (sc a1) (sc a3) (sc a5) μ) fun a8 μ9 =>
  nm (w32 (x3 + 1)) fun a10 =>
  ck ((0 : Int) ≤ a10 ∧ a10 < sl) <|
  nm (w32 (x3 + 2)) fun a12 =>
  ck ((0 : Int) ≤ a12 ∧ a12 < sl) <|
  nm (w32 (x3 + 3)) fun a14 =>
  ck ((0 : Int) ≤ a14 ∧ a14 < sl) <|
  ck (μ9 x2 (-2) = 10) <|
  bd (f_X8_setRules N x2 (sc a10) (sc a12) (sc a14) μ9) fun a17 μ18 =>
  if a8 = a17 then
    (f_L_law_b1029 sc sl N k18 x1 x2 x3 bc bs μ18)
  else
  some (0, μ18)
def f_L_law_b360 (sc : Int → Int) (sl : Int) (N : Nat) (k18 : Int → Int → Int → Int → Int → Mm → Rs) (x1 x2 x3 bc bs : Int) (μ : Mm) : Rs :=
  nm (w32 (x3 + 1)) fun a1 =>
  ck ((0 : Int) ≤ a1 ∧ a1 < sl) <|
  nm (w32 (x3 + 2)) fun a3 =>
  ck ((0 : Int) ≤ a3 ∧ a3 < sl) <|
  nm (w32 (x3 + 3)) fun a5 =>
  ck ((0 : Int) ≤ a5 ∧ a5 < sl) <|
  nm (w32 (x3 + 4)) fun a7 =>
  ck ((0 : Int) ≤ a7 ∧ a7 < sl) <|
  ck (μ x1 (-2) = 9) <|
  bd (f_X7_enter N x1 (sc a1) (sc a3) (sc a5) (sc a7) μ) fun a10 μ11 =>
  nm (w32 (x3 + 1)) fun a12 =>
  ck ((0 : Int) ≤ a12 ∧ a12 < sl) <|
  nm (w32 (x3 + 2)) fun a14 =>
  ck ((0 : Int) ≤ a14 ∧ a14 < sl) <|
  nm (w32 (x3 + 3)) fun a16 =>
  ck ((0 : Int) ≤ a16 ∧ a16 < sl) <|
  nm (w32 (x3 + 4)) fun a18 =>
  ck ((0 : Int) ≤ a18 ∧ a18 < sl) <|
  ck (μ11 x2 (-2) = 10) <|
  bd (f_X8_enter N x2 (sc a12) (sc a14) (sc a16) (sc a18) μ11) fun a21 μ22 =>
  if a10 = a21 then
    (f_L_law_b1029 sc sl N k18 x1 x2 x3 bc bs μ22)
  else
  some (0, μ22)
def f_L_law_b413 (sc : Int → Int) (sl : Int) (N : Nat) (k18 : Int → Int → Int → Int → Int → Mm → Rs) (x1 x2 x3 bc bs : Int) (μ : Mm) : Rs :=
  nm (w32 (x3 + 1)) fun a1 =>
  ck ((0 : Int) ≤ a1 ∧ a1 < sl) <|
  nm (w32 (x3 + 2)) fun a3 =>
  ck ((0 : Int) ≤ a3 ∧ a3 < sl) <|
  ck (μ x1 (-2) = 9) <|
  bd (f_X7_release N x1 (sc a1) (sc a3) μ) fun a6 μ7 =>
  nm (w32 (x3 + 1)) fun a8 =>
  ck ((0 : Int) ≤ a8 ∧ a8 < sl) <|
  nm (w32 (x3 + 2)) fun a10 =>
  ck ((0 : Int) ≤ a10 ∧ a10 < sl) <|
  ck (μ7 x2 (-2) = 10) <|
  bd (f_X8_release N x2 (sc a8) (sc a10) μ7) fun a13 μ14 =>
  if a6 = a13 then
    (f_L_law_b1029 sc sl N k18 x1 x2 x3 bc bs μ14)
  else
  some (0, μ14)
def f_L_law_b446 (sc : Int → Int) (sl : Int) (N : Nat) (k18 : Int → Int → Int → Int → Int → Mm → Rs) (x1 x2 x3 bc bs : Int) (μ : Mm) : Rs :=
  nm (w32 (x3 + 1)) fun a1 =>
  ck ((0 : Int) ≤ a1 ∧ a1 < sl) <|
  nm (w32 (x3 + 2)) fun a3 =>
  ck ((0 : Int) ≤ a3 ∧ a3 < sl) <|
  ck (μ x1 (-2) = 9) <|
  bd (f_X7_sample N x1 (sc a1) (sc a3) μ) fun a6 μ7 =>
  nm (w32 (x3 + 1)) fun a8 =>
  ck ((0 : Int) ≤ a8 ∧ a8 < sl) <|
  nm (w32 (x3 + 2)) fun a10 =>
  ck ((0 : Int) ≤ a10 ∧ a10 < sl) <|
  ck (μ7 x2 (-2) = 10) <|
  bd (f_X8_sample N x2 (sc a8) (sc a10) μ7) fun a13 μ14 =>
  if a6 = a13 then
    (f_L_law_b1029 sc sl N k18 x1 x2 x3 bc bs μ14)
  else
  some (0, μ14)
def f_L_law_b479 (sc : Int → Int) (sl : Int) (N : Nat) (k18 : Int → Int → Int → Int → Int → Mm → Rs) (x1 x2 x3 bc bs : Int) (μ : Mm) : Rs :=
  nm (w32 (x3 + 1)) fun a1 =>
  ck ((0 : Int) ≤ a1 ∧ a1 < sl) <|
  nm (w32 (x3 + 2)) fun a3 =>
  ck ((0 : Int) ≤ a3 ∧ a3 < sl) <|
  ck (μ x1 (-2) = 9) <|
  bd (f_X7_export N x1 (sc a1) (sc a3) μ) fun a6 μ7 =>
  nm (w32 (x3 + 1)) fun a8 =>
  ck ((0 : Int) ≤ a8 ∧ a8 < sl) <|
  nm (w32 (x3 + 2)) fun a10 =>
  ck ((0 : Int) ≤ a10 ∧ a10 < sl) <|
  ck (μ7 x2 (-2) = 10) <|
  bd (f_X8_export N x2 (sc a8) (sc a10) μ7) fun a13 μ14 =>
  if a6 = a13 then
    (f_L_law_b1029 sc sl N k18 x1 x2 x3 bc bs μ14)
  else
  some (0, μ14)
def f_L_law_b512 (sc : Int → Int) (sl : Int) (N : Nat) (k18 : Int → Int → Int → Int → Int → Mm → Rs) (x1 x2 x3 bc bs : Int) (μ : Mm) : Rs :=
  nm (w32 (x3 + 1)) fun a1 =>
  ck ((0 : Int) ≤ a1 ∧ a1 < sl) <|
  ck (μ x1 (-2) = 9) <|
  bd (f_X7_prove N x1 (sc a1) μ) fun a4 μ5 =>
  nm (w32 (x3 + 1)) fun a6 =>
  ck ((0 : Int) ≤ a6 ∧ a6 < sl) <|
  ck (μ5 x2 (-2) = 10) <|
  bd (f_X8_prove N x2 (sc a6) μ5) fun a9 μ10 =>
  if a4 = a9 then
    (f_L_law_b1029 sc sl N k18 x1 x2 x3 bc bs μ10)
  else
  some (0, μ10)
def f_L_law_b535 (sc : Int → Int) (sl : Int) (N : Nat) (k18 : Int → Int → Int → Int → Int → Mm → Rs) (x1 x2 x3 bc bs : Int) (μ : Mm) : Rs :=
  nm (w32 (x3 + 1)) fun a1 =>
  ck ((0 : Int) ≤ a1 ∧ a1 < sl) <|
  nm (w32 (x3 + 2)) fun a3 =>
  ck ((0 : Int) ≤ a3 ∧ a3 < sl) <|
  ck (μ x1 (-2) = 9) <|
  bd (f_X7_destroy N x1 (sc a1) (sc a3) μ) fun a6 μ7 =>
  nm (w32 (x3 + 1)) fun a8 =>
  ck ((0 : Int) ≤ a8 ∧ a8 < sl) <|
  nm (w32 (x3 + 2)) fun a10 =>
  ck ((0 : Int) ≤ a10 ∧ a10 < sl) <|
  ck (μ7 x2 (-2) = 10) <|
  bd (f_X8_destroy N x2 (sc a8) (sc a10) μ7) fun a13 μ14 =>
  if a6 = a13 then
    (f_L_law_b1029 sc sl N k18 x1 x2 x3 bc bs μ14)
  else
  some (0, μ14)
def f_L_law_b568 (sc : Int → Int) (sl : Int) (N : Nat) (k18 : Int → Int → Int → Int → Int → Mm → Rs) (x1 x2 x3 bc bs : Int) (μ : Mm) : Rs :=
  nm (w32 (x3 + 1)) fun a1 =>
  ck ((0 : Int) ≤ a1 ∧ a1 < sl) <|
  nm (w32 (x3 + 2)) fun a3 =>
  ck ((0 : Int) ≤ a3 ∧ a3 < sl) <|
  ck (μ x1 (-2) = 9) <|
  bd (f_X7_give N x1 (sc a1) (sc a3) μ) fun a6 μ7 =>
  nm (w32 (x3 + 1)) fun a8 =>
  ck ((0 : Int) ≤ a8 ∧ a8 < sl) <|
  nm (w32 (x3 + 2)) fun a10 =>
  ck ((0 : Int) ≤ a10 ∧ a10 < sl) <|
  ck (μ7 x2 (-2) = 10) <|
  bd (f_X8_give N x2 (sc a8) (sc a10) μ7) fun a13 μ14 =>
  if a6 = a13 then
    (f_L_law_b1029 sc sl N k18 x1 x2 x3 bc bs μ14)
  else
  some (0, μ14)
def f_L_law_b601 (sc : Int → Int) (sl : Int) (N : Nat) (k18 : Int → Int → Int → Int → Int → Mm → Rs) (x1 x2 x3 bc bs : Int) (μ : Mm) : Rs :=
  nm (w32 (x3 + 1)) fun a1 =>
  ck ((0 : Int) ≤ a1 ∧ a1 < sl) <|
  ck (μ x1 (-2) = 9) <|
  bd (f_X7_pass N x1 (sc a1) μ) fun a4 μ5 =>
  nm (w32 (x3 + 1)) fun a6 =>
  ck ((0 : Int) ≤ a6 ∧ a6 < sl) <|
  ck (μ5 x2 (-2) = 10) <|
  bd (f_X8_pass N x2 (sc a6) μ5) fun a9 μ10 =>
  if a4 = a9 then
    (f_L_law_b1029 sc sl N k18 x1 x2 x3 bc bs μ10)
  else
  some (0, μ10)
def f_L_law_b624 (sc : Int → Int) (sl : Int) (N : Nat) (k18 : Int → Int → Int → Int → Int → Mm → Rs) (x1 x2 x3 bc bs : Int) (μ : Mm) : Rs :=
  nm (w32 (x3 + 1)) fun a1 =>
  ck ((0 : Int) ≤ a1 ∧ a1 < sl) <|
  nm (o_i2c (sc a1)) fun a3 =>
  ck (μ x1 (-2) = 9) <|
  bd (f_X7_type N x1 a3 μ) fun a5 μ6 =>
  nm (w32 (x3 + 1)) fun a7 =>
  ck ((0 : Int) ≤ a7 ∧ a7 < sl) <|
  nm (o_i2c (sc a7)) fun a9 =>
  ck (μ6 x2 (-2) = 10) <|
  bd (f_X8_type N x2 a9 μ6) fun a11 μ12 =>
  if a5 = a11 then
    (f_L_law_b1029 sc sl N k18 x1 x2 x3 bc bs μ12)
  else
  some (0, μ12)
def f_L_law_b649 (sc : Int → Int) (sl : Int) (N : Nat) (k18 : Int → Int → Int → Int → Int → Mm → Rs) (x1 x2 x3 bc bs : Int) (μ : Mm) : Rs :=
  ck (μ x1 (-2) = 9) <|
  bd (f_X7_clearText N x1 μ) fun a2 μ3 =>
  ck (μ3 x2 (-2) = 10) <|
  bd (f_X8_clearText N x2 μ3) fun a5 μ6 =>
  if a2 = a5 then
    (f_L_law_b1029 sc sl N k18 x1 x2 x3 bc bs μ6)
  else
  some (0, μ6)
def f_L_law_b662 (sc : Int → Int) (sl : Int) (N : Nat) (k18 : Int → Int → Int → Int → Int → Mm → Rs) (x1 x2 x3 bc bs : Int) (μ : Mm) : Rs :=
  ck (μ x1 (-2) = 9) <|
  bd (f_X7_runOrders N x1 μ) fun a2 μ3 =>
  ck (μ3 x2 (-2) = 10) <|
  bd (f_X8_runOrders N x2 μ3) fun a5 μ6 =>
  if a2 = a5 then
    (f_L_law_b1029 sc sl N k18 x1 x2 x3 bc bs μ6)
  else
  some (0, μ6)
def f_L_law_b675 (sc : Int → Int) (sl : Int) (N : Nat) (k18 : Int → Int → Int → Int → Int → Mm → Rs) (x1 x2 x3 bc bs : Int) (μ : Mm) : Rs :=
  ck (μ x1 (-2) = 9) <|
  bd (f_X7_undo N x1 μ) fun a2 μ3 =>
  ck (μ3 x2 (-2) = 10) <|
  bd (f_X8_undo N x2 μ3) fun a5 μ6 =>
  if a2 = a5 then
    (f_L_law_b1029 sc sl N k18 x1 x2 x3 bc bs μ6)
  else
  some (0, μ6)
def f_L_law_b688 (sc : Int → Int) (sl : Int) (N : Nat) (k18 : Int → Int → Int → Int → Int → Mm → Rs) (x1 x2 x3 bc bs : Int) (μ : Mm) : Rs :=
  nm (w32 (x3 + 1)) fun a1 =>
  ck ((0 : Int) ≤ a1 ∧ a1 < sl) <|
  ck (μ x1 (-2) = 9) <|
  bd (f_X7_keep N x1 (sc a1) μ) fun a4 μ5 =>
  nm (w32 (x3 + 1)) fun a6 =>
  ck ((0 : Int) ≤ a6 ∧ a6 < sl) <|
  ck (μ5 x2 (-2) = 10) <|
  bd (f_X8_keep N x2 (sc a6) μ5) fun a9 μ10 =>
  if a4 = a9 then
    (f_L_law_b1029 sc sl N k18 x1 x2 x3 bc bs μ10)
  else
  some (0, μ10)
def f_L_law_b711 (sc : Int → Int) (sl : Int) (N : Nat) (k18 : Int → Int → Int → Int → Int → Mm → Rs) (x1 x2 x3 bc bs : Int) (μ : Mm) : Rs :=
  nm (w32 (x3 + 1)) fun a1 =>
  ck ((0 : Int) ≤ a1 ∧ a1 < sl) <|
  ck (μ x1 (-2) = 9) <|
  bd (f_X7_restore N x1 (sc a1) μ) fun a4 μ5 =>
  nm (w32 (x3 + 1)) fun a6 =>
  ck ((0 : Int) ≤ a6 ∧ a6 < sl) <|
  ck (μ5 x2 (-2) = 10) <|
  bd (f_X8_restore N x2 (sc a6) μ5) fun a9 μ10 =>
  if a4 = a9 then
    (f_L_law_b1029 sc sl N k18 x1 x2 x3 bc bs μ10)
  else
  some (0, μ10)
def f_L_law_b734 (sc : Int → Int) (sl : Int) (N : Nat) (k18 : Int → Int → Int → Int → Int → Mm → Rs) (x1 x2 x3 bc bs : Int) (μ : Mm) : Rs :=
  nm (w32 (x3 + 1)) fun a1 =>
  ck ((0 : Int) ≤ a1 ∧ a1 < sl) <|
  nm (w32 (x3 + 2)) fun a3 =>
  ck ((0 : Int) ≤ a3 ∧ a3 < sl) <|
  ck (μ x1 (-2) = 9) <|
  bd (f_X7_owner N x1 (sc a1) (sc a3) μ) fun a6 μ7 =>
  nm (w32 (x3 + 1)) fun a8 =>
  ck ((0 : Int) ≤ a8 ∧ a8 < sl) <|
  nm (w32 (x3 + 2)) fun a10 =>
  ck ((0 : Int) ≤ a10 ∧ a10 < sl) <|
  ck (μ7 x2 (-2) = 10) <|
  bd (f_X8_owner N x2 (sc a8) (sc a10) μ7) fun a13 μ14 =>
  if a6 = a13 then
    (f_L_law_b1029 sc sl N k18 x1 x2 x3 bc bs μ14)
  else
  some (0, μ14)
def f_L_law_b768 (sc : Int → Int) (sl : Int) (N : Nat) (k18 : Int → Int → Int → Int → Int → Mm → Rs) (x1 x2 x3 bc bs : Int) (μ : Mm) : Rs :=
  nm (w32 (x3 + 1)) fun a1 =>
  ck ((0 : Int) ≤ a1 ∧ a1 < sl) <|
  nm (w32 (x3 + 2)) fun a3 =>
  ck ((0 : Int) ≤ a3 ∧ a3 < sl) <|
  ck (μ x1 (-2) = 9) <|
  bd (f_X7_lot N x1 (sc a1) (sc a3) μ) fun a6 μ7 =>
  nm (w32 (x3 + 1)) fun a8 =>
  ck ((0 : Int) ≤ a8 ∧ a8 < sl) <|
  nm (w32 (x3 + 2)) fun a10 =>
  ck ((0 : Int) ≤ a10 ∧ a10 < sl) <|
  ck (μ7 x2 (-2) = 10) <|
  bd (f_X8_lot N x2 (sc a8) (sc a10) μ7) fun a13 μ14 =>
  if a6 = a13 then
    (f_L_law_b1029 sc sl N k18 x1 x2 x3 bc bs μ14)
  else
  some (0, μ14)
def f_L_law_b801 (sc : Int → Int) (sl : Int) (N : Nat) (k18 : Int → Int → Int → Int → Int → Mm → Rs) (x1 x2 x3 bc bs : Int) (μ : Mm) : Rs :=
  nm (w32 (x3 + 1)) fun a1 =>
  ck ((0 : Int) ≤ a1 ∧ a1 < sl) <|
  nm (w32 (x3 + 2)) fun a3 =>
  ck ((0 : Int) ≤ a3 ∧ a3 < sl) <|
  ck (μ x1 (-2) = 9) <|
  bd (f_X7_exported N x1 (sc a1) (sc a3) μ) fun a6 μ7 =>
  nm (w32 (x3 + 1)) fun a8 =>
  ck ((0 : Int) ≤ a8 ∧ a8 < sl) <|
  nm (w32 (x3 + 2)) fun a10 =>
  ck ((0 : Int) ≤ a10 ∧ a10 < sl) <|
  ck (μ7 x2 (-2) = 10) <|
  bd (f_X8_exported N x2 (sc a8) (sc a10) μ7) fun a13 μ14 =>
  if a6 = a13 then
    (f_L_law_b1029 sc sl N k18 x1 x2 x3 bc bs μ14)
  else
  some (0, μ14)
def f_L_law_b834 (sc : Int → Int) (sl : Int) (N : Nat) (k18 : Int → Int → Int → Int → Int → Mm → Rs) (x1 x2 x3 bc bs : Int) (μ : Mm) : Rs :=
  nm (w32 (x3 + 1)) fun a1 =>
  ck ((0 : Int) ≤ a1 ∧ a1 < sl) <|
  ck (μ x1 (-2) = 9) <|
  ck ((10 : Int) ≤ bc ∧ (2000 : Int) ≤ bs) <|
  bd (f_X7_documentLength N x1 (sc a1) μ) fun a5 μ6 =>
  nm (w32 (x3 + 1)) fun a7 =>
  ck ((0 : Int) ≤ a7 ∧ a7 < sl) <|
  ck (μ6 x2 (-2) = 10) <|
  bd (f_X8_documentLength N x2 (sc a7) μ6) fun a10 μ11 =>
  if a5 = a10 then
    (f_L_law_b1029 sc sl N k18 x1 x2 x3 (bc - 10) (bs - 2000) μ11)
  else
  some (0, μ11)
def f_L_law_b857 (sc : Int → Int) (sl : Int) (N : Nat) (k18 : Int → Int → Int → Int → Int → Mm → Rs) (x1 x2 x3 bc bs : Int) (μ : Mm) : Rs :=
  nm (w32 (x3 + 1)) fun a1 =>
  ck ((0 : Int) ≤ a1 ∧ a1 < sl) <|
  nm (w32 (x3 + 2)) fun a3 =>
  ck ((0 : Int) ≤ a3 ∧ a3 < sl) <|
  ck (μ x1 (-2) = 9) <|
  ck ((10 : Int) ≤ bc ∧ (2000 : Int) ≤ bs) <|
  bd (f_X7_documentAt N x1 (sc a1) (sc a3) μ) fun a7 μ8 =>
  nm (w32 (x3 + 1)) fun a9 =>
  ck ((0 : Int) ≤ a9 ∧ a9 < sl) <|
  nm (w32 (x3 + 2)) fun a11 =>
  ck ((0 : Int) ≤ a11 ∧ a11 < sl) <|
  ck (μ8 x2 (-2) = 10) <|
  bd (f_X8_documentAt N x2 (sc a9) (sc a11) μ8) fun a14 μ15 =>
  if a7 = a14 then
    (f_L_law_b1029 sc sl N k18 x1 x2 x3 (bc - 10) (bs - 2000) μ15)
  else
  some (0, μ15)
def f_L_law_b890 (sc : Int → Int) (sl : Int) (N : Nat) (k18 : Int → Int → Int → Int → Int → Mm → Rs) (x1 x2 x3 bc bs : Int) (μ : Mm) : Rs :=
  ck (μ x1 (-2) = 9) <|
  bd (f_X7_nextDeadline N x1 μ) fun a2 μ3 =>
  ck (μ3 x2 (-2) = 10) <|
  bd (f_X8_nextDeadline N x2 μ3) fun a5 μ6 =>
  if a2 = a5 then
    (f_L_law_b1029 sc sl N k18 x1 x2 x3 bc bs μ6)
  else
  some (0, μ6)
def f_L_law_b903 (sc : Int → Int) (sl : Int) (N : Nat) (k18 : Int → Int → Int → Int → Int → Mm → Rs) (x1 x2 x3 bc bs : Int) (μ : Mm) : Rs :=
  nm (w32 (x3 + 1)) fun a1 =>
  ck ((0 : Int) ≤ a1 ∧ a1 < sl) <|
  ck (μ x1 (-2) = 9) <|
  bd (f_X7_calledIn N x1 (sc a1) μ) fun a4 μ5 =>
  nm (w32 (x3 + 1)) fun a6 =>
  ck ((0 : Int) ≤ a6 ∧ a6 < sl) <|
  ck (μ5 x2 (-2) = 10) <|
  bd (f_X8_calledIn N x2 (sc a6) μ5) fun a9 μ10 =>
  if a4 = a9 then
    (f_L_law_b1029 sc sl N k18 x1 x2 x3 bc bs μ10)
  else
  some (0, μ10)
def f_L_law_b926 (sc : Int → Int) (sl : Int) (N : Nat) (k18 : Int → Int → Int → Int → Int → Mm → Rs) (x1 x2 x3 bc bs : Int) (μ : Mm) : Rs :=
  nm (w32 (x3 + 1)) fun a1 =>
  ck ((0 : Int) ≤ a1 ∧ a1 < sl) <|
  nm (w32 (x3 + 2)) fun a3 =>
  ck ((0 : Int) ≤ a3 ∧ a3 < sl) <|
  ck (μ x1 (-2) = 9) <|
  bd (f_X7_greatestValue N x1 (sc a1) (sc a3) μ) fun a6 μ7 =>
  nm (w32 (x3 + 1)) fun a8 =>
  ck ((0 : Int) ≤ a8 ∧ a8 < sl) <|
  nm (w32 (x3 + 2)) fun a10 =>
  ck ((0 : Int) ≤ a10 ∧ a10 < sl) <|
  ck (μ7 x2 (-2) = 10) <|
  bd (f_X8_greatestValue N x2 (sc a8) (sc a10) μ7) fun a13 μ14 =>
  if a6 = a13 then
    (f_L_law_b1029 sc sl N k18 x1 x2 x3 bc bs μ14)
  else
  some (0, μ14)
def f_L_law_b959 (sc : Int → Int) (sl : Int) (N : Nat) (k18 : Int → Int → Int → Int → Int → Mm → Rs) (x1 x2 x3 bc bs : Int) (μ : Mm) : Rs :=
  nm (w32 (x3 + 1)) fun a1 =>
  ck ((0 : Int) ≤ a1 ∧ a1 < sl) <|
  ck (μ x1 (-2) = 9) <|
  bd (f_X7_account N x1 (sc a1) μ) fun a4 μ5 =>
  nm (w32 (x3 + 1)) fun a6 =>
  ck ((0 : Int) ≤ a6 ∧ a6 < sl) <|
  ck (μ5 x2 (-2) = 10) <|
  bd (f_X8_account N x2 (sc a6) μ5) fun a9 μ10 =>
  if a4 = a9 then
    (f_L_law_b1029 sc sl N k18 x1 x2 x3 bc bs μ10)
  else
  some (0, μ10)
def f_L_law_b983 (sc : Int → Int) (sl : Int) (N : Nat) (k18 : Int → Int → Int → Int → Int → Mm → Rs) (x1 x2 x3 bc bs : Int) (μ : Mm) : Rs :=
  nm (w32 (x3 + 1)) fun a1 =>
  ck ((0 : Int) ≤ a1 ∧ a1 < sl) <|
  ck (μ x1 (-2) = 9) <|
  bd (f_X7_count N x1 (sc a1) μ) fun a4 μ5 =>
  nm (w32 (x3 + 1)) fun a6 =>
  ck ((0 : Int) ≤ a6 ∧ a6 < sl) <|
  ck (μ5 x2 (-2) = 10) <|
  bd (f_X8_count N x2 (sc a6) μ5) fun a9 μ10 =>
  if a4 = a9 then
    (f_L_law_b1029 sc sl N k18 x1 x2 x3 bc bs μ10)
  else
  some (0, μ10)
def f_L_law_b1006 (sc : Int → Int) (sl : Int) (N : Nat) (k18 : Int → Int → Int → Int → Int → Mm → Rs) (x1 x2 x3 bc bs : Int) (μ : Mm) : Rs :=
  nm (w32 (x3 + 1)) fun a1 =>
  ck ((0 : Int) ≤ a1 ∧ a1 < sl) <|
  ck (μ x1 (-2) = 9) <|
  bd (f_X7_rate N x1 (sc a1) μ) fun a4 μ5 =>
  nm (w32 (x3 + 1)) fun a6 =>
  ck ((0 : Int) ≤ a6 ∧ a6 < sl) <|
  ck (μ5 x2 (-2) = 10) <|
  bd (f_X8_rate N x2 (sc a6) μ5) fun a9 μ10 =>
  if a4 = a9 then
    (f_L_law_b1029 sc sl N k18 x1 x2 x3 bc bs μ10)
  else
  some (0, μ10)
def f_L_law_b18 (sc : Int → Int) (sl : Int) (N : Nat) : Nat → Int → Int → Int → Int → Int → Mm → Rs
  | 0, _, _, _, _, _, _ => none
  | n + 1, x1, x2, x3, bc, bs, μ =>
    nm (w32 (sl - 5)) fun a2 =>
    if a2 < x3 then
      (some (1, μ))
    else
    ck ((0 : Int) ≤ x3 ∧ x3 < sl) <|
    nm (o_and (sc x3) 31) fun a5 =>
    if a5 = 0 then
      (f_L_law_b172 sc sl N (f_L_law_b18 sc sl N n) x1 x2 x3 bc bs μ)
    else
    if a5 = 1 then
      (f_L_law_b185 sc sl N (f_L_law_b18 sc sl N n) x1 x2 x3 bc bs μ)
    else
    if a5 = 2 then
      (f_L_law_b218 sc sl N (f_L_law_b18 sc sl N n) x1 x2 x3 bc bs μ)
    else
    if a5 = 3 then
      (f_L_law_b251 sc sl N (f_L_law_b18 sc sl N n) x1 x2 x3 bc bs μ)
    else
    if a5 = 4 then
      (f_L_law_b284 sc sl N (f_L_law_b18 sc sl N n) x1 x2 x3 bc bs μ)
    else
    if a5 = 5 then
      (f_L_law_b317 sc sl N (f_L_law_b18 sc sl N n) x1 x2 x3 bc bs μ)
    else
    if a5 = 6 then
      (f_L_law_b360 sc sl N (f_L_law_b18 sc sl N n) x1 x2 x3 bc bs μ)
    else
    if a5 = 7 then
      (f_L_law_b413 sc sl N (f_L_law_b18 sc sl N n) x1 x2 x3 bc bs μ)
    else
    if a5 = 8 then
      (f_L_law_b446 sc sl N (f_L_law_b18 sc sl N n) x1 x2 x3 bc bs μ)
    else
    if a5 = 9 then
      (f_L_law_b479 sc sl N (f_L_law_b18 sc sl N n) x1 x2 x3 bc bs μ)
    else
    if a5 = 10 then
      (f_L_law_b512 sc sl N (f_L_law_b18 sc sl N n) x1 x2 x3 bc bs μ)
    else
    if a5 = 11 then
      (f_L_law_b535 sc sl N (f_L_law_b18 sc sl N n) x1 x2 x3 bc bs μ)
    else
    if a5 = 12 then
      (f_L_law_b568 sc sl N (f_L_law_b18 sc sl N n) x1 x2 x3 bc bs μ)
    else
    if a5 = 13 then
      (f_L_law_b601 sc sl N (f_L_law_b18 sc sl N n) x1 x2 x3 bc bs μ)
    else
    if a5 = 14 then
      (f_L_law_b624 sc sl N (f_L_law_b18 sc sl N n) x1 x2 x3 bc bs μ)
    else
    if a5 = 15 then
      (f_L_law_b649 sc sl N (f_L_law_b18 sc sl N n) x1 x2 x3 bc bs μ)
    else
    if a5 = 16 then
      (f_L_law_b662 sc sl N (f_L_law_b18 sc sl N n) x1 x2 x3 bc bs μ)
    else
    if a5 = 17 then
      (f_L_law_b675 sc sl N (f_L_law_b18 sc sl N n) x1 x2 x3 bc bs μ)
    else
    if a5 = 18 then
      (f_L_law_b688 sc sl N (f_L_law_b18 sc sl N n) x1 x2 x3 bc bs μ)
    else
    if a5 = 19 then
      (f_L_law_b711 sc sl N (f_L_law_b18 sc sl N n) x1 x2 x3 bc bs μ)
    else
    if a5 = 20 then
      (f_L_law_b734 sc sl N (f_L_law_b18 sc sl N n) x1 x2 x3 bc bs μ)
    else
    if a5 = 21 then
      (f_L_law_b768 sc sl N (f_L_law_b18 sc sl N n) x1 x2 x3 bc bs μ)
    else
    if a5 = 22 then
      (f_L_law_b801 sc sl N (f_L_law_b18 sc sl N n) x1 x2 x3 bc bs μ)
    else
    if a5 = 23 then
      (f_L_law_b834 sc sl N (f_L_law_b18 sc sl N n) x1 x2 x3 bc bs μ)
    else
    if a5 = 24 then
      (f_L_law_b857 sc sl N (f_L_law_b18 sc sl N n) x1 x2 x3 bc bs μ)
    else
    if a5 = 25 then
      (f_L_law_b890 sc sl N (f_L_law_b18 sc sl N n) x1 x2 x3 bc bs μ)
    else
    if a5 = 26 then
      (f_L_law_b903 sc sl N (f_L_law_b18 sc sl N n) x1 x2 x3 bc bs μ)
    else
    if a5 = 27 then
      (f_L_law_b926 sc sl N (f_L_law_b18 sc sl N n) x1 x2 x3 bc bs μ)
    else
    if a5 = 28 then
      (f_L_law_b959 sc sl N (f_L_law_b18 sc sl N n) x1 x2 x3 bc bs μ)
    else
    if a5 = 29 then
      (f_L_law_b983 sc sl N (f_L_law_b18 sc sl N n) x1 x2 x3 bc bs μ)
    else
    if a5 = 30 then
      (f_L_law_b1006 sc sl N (f_L_law_b18 sc sl N n) x1 x2 x3 bc bs μ)
    else
    f_L_law_b1029 sc sl N (f_L_law_b18 sc sl N n) x1 x2 x3 bc bs μ
def f_L_law (sc : Int → Int) (sl : Int) (N : Nat) (μ : Mm) : Rs :=
  ck ((1 : Int) ≤ 600000 ∧ (7 : Int) ≤ 7302250) <|
  nm (μ 0 0 + 1) fun o3 =>
  nm (mnew μ 9 0 7) fun μ2 =>
  ck ((1 : Int) ≤ o3) <|
  ck ((719 : Int) ≤ (600000 - 1) ∧ (6003 : Int) ≤ (7302250 - 7)) <|
  bd (f_X7_init N o3 μ2) fun a6 μ7 =>
  ck ((1 : Int) ≤ (600000 - 1 - 719) ∧ (15 : Int) ≤ (7302250 - 7 - 6003)) <|
  nm (μ7 0 0 + 1) fun o10 =>
  nm (mnew μ7 10 0 15) fun μ9 =>
  ck ((1 : Int) ≤ o10) <|
  ck ((7 : Int) ≤ (600000 - 1 - 719 - 1) ∧ (5022 : Int) ≤ (7302250 - 7 - 6003 - 15)) <|
  bd (f_X8_init N o10 μ9) fun a13 μ14 =>
  f_L_law_b18 sc sl N N o3 o10 0 (600000 - 1 - 719 - 1 - 7) (7302250 - 7 - 6003 - 15 - 5022) μ14
set_option maxHeartbeats 4000000 in
set_option maxRecDepth 100000 in
theorem k_L_law_b1029 (C : gCx p s m #[Value.ref b] meth c code 4 ret nmm R_law) (hX : va_X b L xs s s.heap) (hbl : b < s.heap.size) (hE : E.2.2.1 = s.heap.size) (hLn : L ≤ 2147483647) (N : Nat) {μ' : Mm} (k18 : Int → Int → Int → Int → Int → Mm → Rs) (hk18 : ∀ (x1 x2 x3 bc bs : Int) (μ : Mm), k18 x1 x2 x3 bc bs μ = some (1, μ') → R32 x3 → ∀ (H : Heap) (locs : List Loc) (ls : Array Slot) (cells slots : Nat), (cells : Int) + bc ≤ 600000 ∧ 0 ≤ bc ∧ (slots : Int) + bs ≤ 7302250 ∧ 0 ≤ bs → MS E μ s H locs → lv_has ls 4 [(0, .ref b), (1, vr E x1), (2, vr E x2), (3, vi x3)] → W p l e room_1 s m #[Value.ref b] below meth c H locs cells slots (lw_Z below #[Value.ref b] s) (F0 m 18 ls [])) : ∀ (x1 x2 x3 bc bs : Int) (μ : Mm), f_L_law_b1029 (fun i => (xs i.toNat).toInt) (L : Int) N k18 x1 x2 x3 bc bs μ = some (1, μ') → R32 x3 → ∀ (H : Heap) (locs : List Loc) (ls : Array Slot) (cells slots : Nat), (cells : Int) + bc ≤ 600000 ∧ 0 ≤ bc ∧ (slots : Int) + bs ≤ 7302250 ∧ 0 ≤ bs → MS E μ s H locs → lv_has ls 4 [(0, .ref b), (1, vr E x1), (2, vr E x2), (3, vi x3)] → W p l e room_1 s m #[Value.ref b] below meth c H locs cells slots (lw_Z below #[Value.ref b] s) (F0 m 1029 ls []) := by
  have hsc : ∀ i : Int, R32 ((fun i : Int => (xs i.toNat).toInt) i) := fun i => R32_of _
  have hsl : R32 (L : Int) := ⟨by omega, by omega⟩
  intro x1 x2 x3 bc bs μ h rx3 H locs ls cells slots hb hM hl
  unfold f_L_law_b1029 at h
  obtain ⟨a1, ea1, h⟩ := nm_some h
  have ra1 : R32 a1 := by rw [ea1]; exact w32_R _
  refine m_iinc (k := 3) (pc := 1029) C dL_law_1029 hl rfl (by decide) ea1 (lvK1 0 rfl (Nat.ne_of_beq_eq_false rfl) (Nat.ne_of_beq_eq_false rfl) (lvK1 1 rfl (Nat.ne_of_beq_eq_false rfl) (Nat.ne_of_beq_eq_false rfl) (lvK2 2 rfl (Nat.ne_of_beq_eq_false rfl) (vr_cat _ _) lvK0))) (fun ls hl => ?_)
  refine m_goto (tgt := 18) (pc := 1032) C dL_law_1032 (by decide) ?_
  exact hk18 _ _ _ _ _ _ h ra1 _ _ _ _ _ hb hM (lv_sub hl [1, 2, 3, 0] rfl)
set_option maxHeartbeats 4000000 in
set_option maxRecDepth 100000 in
theorem k_L_law_b172 (C : gCx p s m #[Value.ref b] meth c code 4 ret nmm R_law) (hX : va_X b L xs s s.heap) (hbl : b < s.heap.size) (hE : E.2.2.1 = s.heap.size) (hLn : L ≤ 2147483647) (N : Nat) {μ' : Mm} (k18 : Int → Int → Int → Int → Int → Mm → Rs) (hk18 : ∀ (x1 x2 x3 bc bs : Int) (μ : Mm), k18 x1 x2 x3 bc bs μ = some (1, μ') → R32 x3 → ∀ (H : Heap) (locs : List Loc) (ls : Array Slot) (cells slots : Nat), (cells : Int) + bc ≤ 600000 ∧ 0 ≤ bc ∧ (slots : Int) + bs ≤ 7302250 ∧ 0 ≤ bs → MS E μ s H locs → lv_has ls 4 [(0, .ref b), (1, vr E x1), (2, vr E x2), (3, vi x3)] → W p l e room_1 s m #[Value.ref b] below meth c H locs cells slots (lw_Z below #[Value.ref b] s) (F0 m 18 ls [])) : ∀ (x1 x2 x3 bc bs : Int) (μ : Mm), f_L_law_b172 (fun i => (xs i.toNat).toInt) (L : Int) N k18 x1 x2 x3 bc bs μ = some (1, μ') → R32 x3 → ∀ (H : Heap) (locs : List Loc) (ls : Array Slot) (cells slots : Nat), (cells : Int) + bc ≤ 600000 ∧ 0 ≤ bc ∧ (slots : Int) + bs ≤ 7302250 ∧ 0 ≤ bs → MS E μ s H locs → lv_has ls 4 [(0, .ref b), (1, vr E x1), (2, vr E x2), (3, vi x3)] → W p l e room_1 s m #[Value.ref b] below meth c H locs cells slots (lw_Z below #[Value.ref b] s) (F0 m 172 ls []) := by
  have hsc : ∀ i : Int, R32 ((fun i : Int => (xs i.toNat).toInt) i) := fun i => R32_of _
  have hsl : R32 (L : Int) := ⟨by omega, by omega⟩
  intro x1 x2 x3 bc bs μ h rx3 H locs ls cells slots hb hM hl
  unfold f_L_law_b172 at h
  refine m_aload_n (pc := 172) C dL_law_172 rfl (lv_at hl 1 rfl) ?_
  obtain ⟨q1, h⟩ := ck_some h
  obtain ⟨a2, μ3, ca2, h⟩ := bd_some h
  refine V_X7_addOwner (pc := 173) C hM ca2 q1 bw_2_86 ⟨Nat.le_of_ble_eq_true rfl, Nat.le_of_ble_eq_true rfl⟩ hl.1 rc0 ⟨by show _ + 0 ≤ 600000; omega, by show _ + 0 ≤ 7302250; omega⟩ dL_law_173 (fun ra2 H locs hM => ?_)
  refine m_aload_n (pc := 176) C dL_law_176 rfl (lv_at hl 2 rfl) ?_
  obtain ⟨q4, h⟩ := ck_some h
  obtain ⟨a5, μ6, ca5, h⟩ := bd_some h
  refine V_X8_addOwner (pc := 177) C hM ca5 q4 bw_5_59 ⟨Nat.le_of_ble_eq_true rfl, Nat.le_of_ble_eq_true rfl⟩ hl.1 (rcI rc0) ⟨by show _ + 0 ≤ 600000; omega, by show _ + 0 ≤ 7302250; omega⟩ dL_law_177 (fun ra5 H locs hM => ?_)
  refine m_icmp_eq (tgt := 1029) (pc := 180) C ra2 ra5 dL_law_180 (by decide) (fun c7 => ?_) (fun c7 => ?_)
  · have h := if_t h c7
    exact k_L_law_b1029 C hX hbl hE hLn N _ hk18 _ _ _ _ _ _ h rx3 _ _ _ _ _ hb hM (lv_sub hl [0, 1, 2, 3] rfl)
  · have h := if_f h c7
    refine m_iconst (pc := 183) C dL_law_183 ?_
    simp at h
set_option maxHeartbeats 4000000 in
set_option maxRecDepth 100000 in
theorem k_L_law_b185 (C : gCx p s m #[Value.ref b] meth c code 4 ret nmm R_law) (hX : va_X b L xs s s.heap) (hbl : b < s.heap.size) (hE : E.2.2.1 = s.heap.size) (hLn : L ≤ 2147483647) (N : Nat) {μ' : Mm} (k18 : Int → Int → Int → Int → Int → Mm → Rs) (hk18 : ∀ (x1 x2 x3 bc bs : Int) (μ : Mm), k18 x1 x2 x3 bc bs μ = some (1, μ') → R32 x3 → ∀ (H : Heap) (locs : List Loc) (ls : Array Slot) (cells slots : Nat), (cells : Int) + bc ≤ 600000 ∧ 0 ≤ bc ∧ (slots : Int) + bs ≤ 7302250 ∧ 0 ≤ bs → MS E μ s H locs → lv_has ls 4 [(0, .ref b), (1, vr E x1), (2, vr E x2), (3, vi x3)] → W p l e room_1 s m #[Value.ref b] below meth c H locs cells slots (lw_Z below #[Value.ref b] s) (F0 m 18 ls [])) : ∀ (x1 x2 x3 bc bs : Int) (μ : Mm), f_L_law_b185 (fun i => (xs i.toNat).toInt) (L : Int) N k18 x1 x2 x3 bc bs μ = some (1, μ') → R32 x3 → ∀ (H : Heap) (locs : List Loc) (ls : Array Slot) (cells slots : Nat), (cells : Int) + bc ≤ 600000 ∧ 0 ≤ bc ∧ (slots : Int) + bs ≤ 7302250 ∧ 0 ≤ bs → MS E μ s H locs → lv_has ls 4 [(0, .ref b), (1, vr E x1), (2, vr E x2), (3, vi x3)] → W p l e room_1 s m #[Value.ref b] below meth c H locs cells slots (lw_Z below #[Value.ref b] s) (F0 m 185 ls []) := by
  have hsc : ∀ i : Int, R32 ((fun i : Int => (xs i.toNat).toInt) i) := fun i => R32_of _
  have hsl : R32 (L : Int) := ⟨by omega, by omega⟩
  intro x1 x2 x3 bc bs μ h rx3 H locs ls cells slots hb hM hl
  unfold f_L_law_b185 at h
  refine m_aload_n (pc := 185) C dL_law_185 rfl (lv_at hl 1 rfl) ?_
  refine m_sload (pc := 186) C dL_law_186 rfl (lv_at hl 0 rfl) ?_
  refine m_iload_n (pc := 187) C dL_law_187 rfl (lv_at hl 3 rfl) ?_
  refine m_iconst (pc := 188) C dL_law_188 ?_
  obtain ⟨a1, ea1, h⟩ := nm_some h
  have ra1 : R32 a1 := by rw [ea1]; exact w32_R _
  refine m_iadd (pc := 189) C dL_law_189 ea1 ?_
  obtain ⟨q2, h⟩ := ck_some h
  refine m_sald (pc := 190) C hM hX hbl hE hLn q2.1 q2.2 dL_law_190 ?_
  refine m_sload (pc := 191) C dL_law_191 rfl (lv_at hl 0 rfl) ?_
  refine m_iload_n (pc := 192) C dL_law_192 rfl (lv_at hl 3 rfl) ?_
  refine m_iconst (pc := 193) C dL_law_193 ?_
  obtain ⟨a3, ea3, h⟩ := nm_some h
  have ra3 : R32 a3 := by rw [ea3]; exact w32_R _
  refine m_iadd (pc := 194) C dL_law_194 ea3 ?_
  obtain ⟨q4, h⟩ := ck_some h
  refine m_sald (pc := 195) C hM hX hbl hE hLn q4.1 q4.2 dL_law_195 ?_
  obtain ⟨q5, h⟩ := ck_some h
  obtain ⟨a6, μ7, ca6, h⟩ := bd_some h
  refine V_X7_deposit (pc := 196) C hM ca6 (hsc _) (hsc _) q5 bw_2_126 ⟨Nat.le_of_ble_eq_true rfl, Nat.le_of_ble_eq_true rfl⟩ hl.1 rc0 ⟨by show _ + 0 ≤ 600000; omega, by show _ + 0 ≤ 7302250; omega⟩ dL_law_196 (fun ra6 H locs hM => ?_)
  refine m_aload_n (pc := 199) C dL_law_199 rfl (lv_at hl 2 rfl) ?_
  refine m_sload (pc := 200) C dL_law_200 rfl (lv_at hl 0 rfl) ?_
  refine m_iload_n (pc := 201) C dL_law_201 rfl (lv_at hl 3 rfl) ?_
  refine m_iconst (pc := 202) C dL_law_202 ?_
  obtain ⟨a8, ea8, h⟩ := nm_some h
  have ra8 : R32 a8 := by rw [ea8]; exact w32_R _
  refine m_iadd (pc := 203) C dL_law_203 ea8 ?_
  obtain ⟨q9, h⟩ := ck_some h
  refine m_sald (pc := 204) C hM hX hbl hE hLn q9.1 q9.2 dL_law_204 ?_
  refine m_sload (pc := 205) C dL_law_205 rfl (lv_at hl 0 rfl) ?_
  refine m_iload_n (pc := 206) C dL_law_206 rfl (lv_at hl 3 rfl) ?_
  refine m_iconst (pc := 207) C dL_law_207 ?_
  obtain ⟨a10, ea10, h⟩ := nm_some h
  have ra10 : R32 a10 := by rw [ea10]; exact w32_R _
  refine m_iadd (pc := 208) C dL_law_208 ea10 ?_
  obtain ⟨q11, h⟩ := ck_some h
  refine m_sald (pc := 209) C hM hX hbl hE hLn q11.1 q11.2 dL_law_209 ?_
  obtain ⟨q12, h⟩ := ck_some h
  obtain ⟨a13, μ14, ca13, h⟩ := bd_some h
  refine V_X8_deposit (pc := 210) C hM ca13 (hsc _) (hsc _) q12 bw_5_68 ⟨Nat.le_of_ble_eq_true rfl, Nat.le_of_ble_eq_true rfl⟩ hl.1 (rcI rc0) ⟨by show _ + 0 ≤ 600000; omega, by show _ + 0 ≤ 7302250; omega⟩ dL_law_210 (fun ra13 H locs hM => ?_)
  refine m_icmp_eq (tgt := 1029) (pc := 213) C ra6 ra13 dL_law_213 (by decide) (fun c15 => ?_) (fun c15 => ?_)
  · have h := if_t h c15
    exact k_L_law_b1029 C hX hbl hE hLn N _ hk18 _ _ _ _ _ _ h rx3 _ _ _ _ _ hb hM (lv_sub hl [0, 1, 2, 3] rfl)
  · have h := if_f h c15
    refine m_iconst (pc := 216) C dL_law_216 ?_
    simp at h
set_option maxHeartbeats 4000000 in
set_option maxRecDepth 100000 in
theorem k_L_law_b218 (C : gCx p s m #[Value.ref b] meth c code 4 ret nmm R_law) (hX : va_X b L xs s s.heap) (hbl : b < s.heap.size) (hE : E.2.2.1 = s.heap.size) (hLn : L ≤ 2147483647) (N : Nat) {μ' : Mm} (k18 : Int → Int → Int → Int → Int → Mm → Rs) (hk18 : ∀ (x1 x2 x3 bc bs : Int) (μ : Mm), k18 x1 x2 x3 bc bs μ = some (1, μ') → R32 x3 → ∀ (H : Heap) (locs : List Loc) (ls : Array Slot) (cells slots : Nat), (cells : Int) + bc ≤ 600000 ∧ 0 ≤ bc ∧ (slots : Int) + bs ≤ 7302250 ∧ 0 ≤ bs → MS E μ s H locs → lv_has ls 4 [(0, .ref b), (1, vr E x1), (2, vr E x2), (3, vi x3)] → W p l e room_1 s m #[Value.ref b] below meth c H locs cells slots (lw_Z below #[Value.ref b] s) (F0 m 18 ls [])) : ∀ (x1 x2 x3 bc bs : Int) (μ : Mm), f_L_law_b218 (fun i => (xs i.toNat).toInt) (L : Int) N k18 x1 x2 x3 bc bs μ = some (1, μ') → R32 x3 → ∀ (H : Heap) (locs : List Loc) (ls : Array Slot) (cells slots : Nat), (cells : Int) + bc ≤ 600000 ∧ 0 ≤ bc ∧ (slots : Int) + bs ≤ 7302250 ∧ 0 ≤ bs → MS E μ s H locs → lv_has ls 4 [(0, .ref b), (1, vr E x1), (2, vr E x2), (3, vi x3)] → W p l e room_1 s m #[Value.ref b] below meth c H locs cells slots (lw_Z below #[Value.ref b] s) (F0 m 218 ls []) := by
  have hsc : ∀ i : Int, R32 ((fun i : Int => (xs i.toNat).toInt) i) := fun i => R32_of _
  have hsl : R32 (L : Int) := ⟨by omega, by omega⟩
  intro x1 x2 x3 bc bs μ h rx3 H locs ls cells slots hb hM hl
  unfold f_L_law_b218 at h
  refine m_aload_n (pc := 218) C dL_law_218 rfl (lv_at hl 1 rfl) ?_
  refine m_sload (pc := 219) C dL_law_219 rfl (lv_at hl 0 rfl) ?_
  refine m_iload_n (pc := 220) C dL_law_220 rfl (lv_at hl 3 rfl) ?_
  refine m_iconst (pc := 221) C dL_law_221 ?_
  obtain ⟨a1, ea1, h⟩ := nm_some h
  have ra1 : R32 a1 := by rw [ea1]; exact w32_R _
  refine m_iadd (pc := 222) C dL_law_222 ea1 ?_
  obtain ⟨q2, h⟩ := ck_some h
  refine m_sald (pc := 223) C hM hX hbl hE hLn q2.1 q2.2 dL_law_223 ?_
  refine m_sload (pc := 224) C dL_law_224 rfl (lv_at hl 0 rfl) ?_
  refine m_iload_n (pc := 225) C dL_law_225 rfl (lv_at hl 3 rfl) ?_
  refine m_iconst (pc := 226) C dL_law_226 ?_
  obtain ⟨a3, ea3, h⟩ := nm_some h
  have ra3 : R32 a3 := by rw [ea3]; exact w32_R _
  refine m_iadd (pc := 227) C dL_law_227 ea3 ?_
  obtain ⟨q4, h⟩ := ck_some h
  refine m_sald (pc := 228) C hM hX hbl hE hLn q4.1 q4.2 dL_law_228 ?_
  obtain ⟨q5, h⟩ := ck_some h
  obtain ⟨a6, μ7, ca6, h⟩ := bd_some h
  refine V_X7_setGuarantee (pc := 229) C hM ca6 (hsc _) (hsc _) q5 bw_2_147 ⟨Nat.le_of_ble_eq_true rfl, Nat.le_of_ble_eq_true rfl⟩ hl.1 rc0 ⟨by show _ + 0 ≤ 600000; omega, by show _ + 0 ≤ 7302250; omega⟩ dL_law_229 (fun ra6 H locs hM => ?_)
  refine m_aload_n (pc := 232) C dL_law_232 rfl (lv_at hl 2 rfl) ?_
  refine m_sload (pc := 233) C dL_law_233 rfl (lv_at hl 0 rfl) ?_
  refine m_iload_n (pc := 234) C dL_law_234 rfl (lv_at hl 3 rfl) ?_
  refine m_iconst (pc := 235) C dL_law_235 ?_
  obtain ⟨a8, ea8, h⟩ := nm_some h
  have ra8 : R32 a8 := by rw [ea8]; exact w32_R _
  refine m_iadd (pc := 236) C dL_law_236 ea8 ?_
  obtain ⟨q9, h⟩ := ck_some h
  refine m_sald (pc := 237) C hM hX hbl hE hLn q9.1 q9.2 dL_law_237 ?_
  refine m_sload (pc := 238) C dL_law_238 rfl (lv_at hl 0 rfl) ?_
  refine m_iload_n (pc := 239) C dL_law_239 rfl (lv_at hl 3 rfl) ?_
  refine m_iconst (pc := 240) C dL_law_240 ?_
  obtain ⟨a10, ea10, h⟩ := nm_some h
  have ra10 : R32 a10 := by rw [ea10]; exact w32_R _
  refine m_iadd (pc := 241) C dL_law_241 ea10 ?_
  obtain ⟨q11, h⟩ := ck_some h
  refine m_sald (pc := 242) C hM hX hbl hE hLn q11.1 q11.2 dL_law_242 ?_
  obtain ⟨q12, h⟩ := ck_some h
  obtain ⟨a13, μ14, ca13, h⟩ := bd_some h
  refine V_X8_setGuarantee (pc := 243) C hM ca13 (hsc _) (hsc _) q12 bw_5_78 ⟨Nat.le_of_ble_eq_true rfl, Nat.le_of_ble_eq_true rfl⟩ hl.1 (rcI rc0) ⟨by show _ + 0 ≤ 600000; omega, by show _ + 0 ≤ 7302250; omega⟩ dL_law_243 (fun ra13 H locs hM => ?_)
  refine m_icmp_eq (tgt := 1029) (pc := 246) C ra6 ra13 dL_law_246 (by decide) (fun c15 => ?_) (fun c15 => ?_)
  · have h := if_t h c15
    exact k_L_law_b1029 C hX hbl hE hLn N _ hk18 _ _ _ _ _ _ h rx3 _ _ _ _ _ hb hM (lv_sub hl [0, 1, 2, 3] rfl)
  · have h := if_f h c15
    refine m_iconst (pc := 249) C dL_law_249 ?_
    simp at h
set_option maxHeartbeats 4000000 in
set_option maxRecDepth 100000 in
theorem k_L_law_b251 (C : gCx p s m #[Value.ref b] meth c code 4 ret nmm R_law) (hX : va_X b L xs s s.heap) (hbl : b < s.heap.size) (hE : E.2.2.1 = s.heap.size) (hLn : L ≤ 2147483647) (N : Nat) {μ' : Mm} (k18 : Int → Int → Int → Int → Int → Mm → Rs) (hk18 : ∀ (x1 x2 x3 bc bs : Int) (μ : Mm), k18 x1 x2 x3 bc bs μ = some (1, μ') → R32 x3 → ∀ (H : Heap) (locs : List Loc) (ls : Array Slot) (cells slots : Nat), (cells : Int) + bc ≤ 600000 ∧ 0 ≤ bc ∧ (slots : Int) + bs ≤ 7302250 ∧ 0 ≤ bs → MS E μ s H locs → lv_has ls 4 [(0, .ref b), (1, vr E x1), (2, vr E x2), (3, vi x3)] → W p l e room_1 s m #[Value.ref b] below meth c H locs cells slots (lw_Z below #[Value.ref b] s) (F0 m 18 ls [])) : ∀ (x1 x2 x3 bc bs : Int) (μ : Mm), f_L_law_b251 (fun i => (xs i.toNat).toInt) (L : Int) N k18 x1 x2 x3 bc bs μ = some (1, μ') → R32 x3 → ∀ (H : Heap) (locs : List Loc) (ls : Array Slot) (cells slots : Nat), (cells : Int) + bc ≤ 600000 ∧ 0 ≤ bc ∧ (slots : Int) + bs ≤ 7302250 ∧ 0 ≤ bs → MS E μ s H locs → lv_has ls 4 [(0, .ref b), (1, vr E x1), (2, vr E x2), (3, vi x3)] → W p l e room_1 s m #[Value.ref b] below meth c H locs cells slots (lw_Z below #[Value.ref b] s) (F0 m 251 ls []) := by
  have hsc : ∀ i : Int, R32 ((fun i : Int => (xs i.toNat).toInt) i) := fun i => R32_of _
  have hsl : R32 (L : Int) := ⟨by omega, by omega⟩
  intro x1 x2 x3 bc bs μ h rx3 H locs ls cells slots hb hM hl
  unfold f_L_law_b251 at h
  refine m_aload_n (pc := 251) C dL_law_251 rfl (lv_at hl 1 rfl) ?_
  refine m_sload (pc := 252) C dL_law_252 rfl (lv_at hl 0 rfl) ?_
  refine m_iload_n (pc := 253) C dL_law_253 rfl (lv_at hl 3 rfl) ?_
  refine m_iconst (pc := 254) C dL_law_254 ?_
  obtain ⟨a1, ea1, h⟩ := nm_some h
  have ra1 : R32 a1 := by rw [ea1]; exact w32_R _
  refine m_iadd (pc := 255) C dL_law_255 ea1 ?_
  obtain ⟨q2, h⟩ := ck_some h
  refine m_sald (pc := 256) C hM hX hbl hE hLn q2.1 q2.2 dL_law_256 ?_
  refine m_sload (pc := 257) C dL_law_257 rfl (lv_at hl 0 rfl) ?_
  refine m_iload_n (pc := 258) C dL_law_258 rfl (lv_at hl 3 rfl) ?_
  refine m_iconst (pc := 259) C dL_law_259 ?_
  obtain ⟨a3, ea3, h⟩ := nm_some h
  have ra3 : R32 a3 := by rw [ea3]; exact w32_R _
  refine m_iadd (pc := 260) C dL_law_260 ea3 ?_
  obtain ⟨q4, h⟩ := ck_some h
  refine m_sald (pc := 261) C hM hX hbl hE hLn q4.1 q4.2 dL_law_261 ?_
  obtain ⟨q5, h⟩ := ck_some h
  obtain ⟨a6, μ7, ca6, h⟩ := bd_some h
  refine V_X7_setRate (pc := 262) C hM ca6 (hsc _) (hsc _) q5 bw_2_170 ⟨Nat.le_of_ble_eq_true rfl, Nat.le_of_ble_eq_true rfl⟩ hl.1 rc0 ⟨by show _ + 0 ≤ 600000; omega, by show _ + 0 ≤ 7302250; omega⟩ dL_law_262 (fun ra6 H locs hM => ?_)
  refine m_aload_n (pc := 265) C dL_law_265 rfl (lv_at hl 2 rfl) ?_
  refine m_sload (pc := 266) C dL_law_266 rfl (lv_at hl 0 rfl) ?_
  refine m_iload_n (pc := 267) C dL_law_267 rfl (lv_at hl 3 rfl) ?_
  refine m_iconst (pc := 268) C dL_law_268 ?_
  obtain ⟨a8, ea8, h⟩ := nm_some h
  have ra8 : R32 a8 := by rw [ea8]; exact w32_R _
  refine m_iadd (pc := 269) C dL_law_269 ea8 ?_
  obtain ⟨q9, h⟩ := ck_some h
  refine m_sald (pc := 270) C hM hX hbl hE hLn q9.1 q9.2 dL_law_270 ?_
  refine m_sload (pc := 271) C dL_law_271 rfl (lv_at hl 0 rfl) ?_
  refine m_iload_n (pc := 272) C dL_law_272 rfl (lv_at hl 3 rfl) ?_
  refine m_iconst (pc := 273) C dL_law_273 ?_
  obtain ⟨a10, ea10, h⟩ := nm_some h
  have ra10 : R32 a10 := by rw [ea10]; exact w32_R _
  refine m_iadd (pc := 274) C dL_law_274 ea10 ?_
  obtain ⟨q11, h⟩ := ck_some h
  refine m_sald (pc := 275) C hM hX hbl hE hLn q11.1 q11.2 dL_law_275 ?_
  obtain ⟨q12, h⟩ := ck_some h
  obtain ⟨a13, μ14, ca13, h⟩ := bd_some h
  refine V_X8_setRate (pc := 276) C hM ca13 (hsc _) (hsc _) q12 bw_5_126 ⟨Nat.le_of_ble_eq_true rfl, Nat.le_of_ble_eq_true rfl⟩ hl.1 (rcI rc0) ⟨by show _ + 0 ≤ 600000; omega, by show _ + 0 ≤ 7302250; omega⟩ dL_law_276 (fun ra13 H locs hM => ?_)
  refine m_icmp_eq (tgt := 1029) (pc := 279) C ra6 ra13 dL_law_279 (by decide) (fun c15 => ?_) (fun c15 => ?_)
  · have h := if_t h c15
    exact k_L_law_b1029 C hX hbl hE hLn N _ hk18 _ _ _ _ _ _ h rx3 _ _ _ _ _ hb hM (lv_sub hl [0, 1, 2, 3] rfl)
  · have h := if_f h c15
    refine m_iconst (pc := 282) C dL_law_282 ?_
    simp at h
set_option maxHeartbeats 4000000 in
set_option maxRecDepth 100000 in
theorem k_L_law_b284 (C : gCx p s m #[Value.ref b] meth c code 4 ret nmm R_law) (hX : va_X b L xs s s.heap) (hbl : b < s.heap.size) (hE : E.2.2.1 = s.heap.size) (hLn : L ≤ 2147483647) (N : Nat) {μ' : Mm} (k18 : Int → Int → Int → Int → Int → Mm → Rs) (hk18 : ∀ (x1 x2 x3 bc bs : Int) (μ : Mm), k18 x1 x2 x3 bc bs μ = some (1, μ') → R32 x3 → ∀ (H : Heap) (locs : List Loc) (ls : Array Slot) (cells slots : Nat), (cells : Int) + bc ≤ 600000 ∧ 0 ≤ bc ∧ (slots : Int) + bs ≤ 7302250 ∧ 0 ≤ bs → MS E μ s H locs → lv_has ls 4 [(0, .ref b), (1, vr E x1), (2, vr E x2), (3, vi x3)] → W p l e room_1 s m #[Value.ref b] below meth c H locs cells slots (lw_Z below #[Value.ref b] s) (F0 m 18 ls [])) : ∀ (x1 x2 x3 bc bs : Int) (μ : Mm), f_L_law_b284 (fun i => (xs i.toNat).toInt) (L : Int) N k18 x1 x2 x3 bc bs μ = some (1, μ') → R32 x3 → ∀ (H : Heap) (locs : List Loc) (ls : Array Slot) (cells slots : Nat), (cells : Int) + bc ≤ 600000 ∧ 0 ≤ bc ∧ (slots : Int) + bs ≤ 7302250 ∧ 0 ≤ bs → MS E μ s H locs → lv_has ls 4 [(0, .ref b), (1, vr E x1), (2, vr E x2), (3, vi x3)] → W p l e room_1 s m #[Value.ref b] below meth c H locs cells slots (lw_Z below #[Value.ref b] s) (F0 m 284 ls []) := by
  have hsc : ∀ i : Int, R32 ((fun i : Int => (xs i.toNat).toInt) i) := fun i => R32_of _
  have hsl : R32 (L : Int) := ⟨by omega, by omega⟩
  intro x1 x2 x3 bc bs μ h rx3 H locs ls cells slots hb hM hl
  unfold f_L_law_b284 at h
  refine m_aload_n (pc := 284) C dL_law_284 rfl (lv_at hl 1 rfl) ?_
  refine m_sload (pc := 285) C dL_law_285 rfl (lv_at hl 0 rfl) ?_
  refine m_iload_n (pc := 286) C dL_law_286 rfl (lv_at hl 3 rfl) ?_
  refine m_iconst (pc := 287) C dL_law_287 ?_
  obtain ⟨a1, ea1, h⟩ := nm_some h
  have ra1 : R32 a1 := by rw [ea1]; exact w32_R _
  refine m_iadd (pc := 288) C dL_law_288 ea1 ?_
  obtain ⟨q2, h⟩ := ck_some h
  refine m_sald (pc := 289) C hM hX hbl hE hLn q2.1 q2.2 dL_law_289 ?_
  refine m_sload (pc := 290) C dL_law_290 rfl (lv_at hl 0 rfl) ?_
  refine m_iload_n (pc := 291) C dL_law_291 rfl (lv_at hl 3 rfl) ?_
  refine m_iconst (pc := 292) C dL_law_292 ?_
  obtain ⟨a3, ea3, h⟩ := nm_some h
  have ra3 : R32 a3 := by rw [ea3]; exact w32_R _
  refine m_iadd (pc := 293) C dL_law_293 ea3 ?_
  obtain ⟨q4, h⟩ := ck_some h
  refine m_sald (pc := 294) C hM hX hbl hE hLn q4.1 q4.2 dL_law_294 ?_
  obtain ⟨q5, h⟩ := ck_some h
  obtain ⟨a6, μ7, ca6, h⟩ := bd_some h
  refine V_X7_setTerms (pc := 295) C hM ca6 (hsc _) (hsc _) q5 bw_2_174 ⟨Nat.le_of_ble_eq_true rfl, Nat.le_of_ble_eq_true rfl⟩ hl.1 rc0 ⟨by show _ + 0 ≤ 600000; omega, by show _ + 0 ≤ 7302250; omega⟩ dL_law_295 (fun ra6 H locs hM => ?_)
  refine m_aload_n (pc := 298) C dL_law_298 rfl (lv_at hl 2 rfl) ?_
  refine m_sload (pc := 299) C dL_law_299 rfl (lv_at hl 0 rfl) ?_
  refine m_iload_n (pc := 300) C dL_law_300 rfl (lv_at hl 3 rfl) ?_
  refine m_iconst (pc := 301) C dL_law_301 ?_
  obtain ⟨a8, ea8, h⟩ := nm_some h
  have ra8 : R32 a8 := by rw [ea8]; exact w32_R _
  refine m_iadd (pc := 302) C dL_law_302 ea8 ?_
  obtain ⟨q9, h⟩ := ck_some h
  refine m_sald (pc := 303) C hM hX hbl hE hLn q9.1 q9.2 dL_law_303 ?_
  refine m_sload (pc := 304) C dL_law_304 rfl (lv_at hl 0 rfl) ?_
  refine m_iload_n (pc := 305) C dL_law_305 rfl (lv_at hl 3 rfl) ?_
  refine m_iconst (pc := 306) C dL_law_306 ?_
  obtain ⟨a10, ea10, h⟩ := nm_some h
  have ra10 : R32 a10 := by rw [ea10]; exact w32_R _
  refine m_iadd (pc := 307) C dL_law_307 ea10 ?_
  obtain ⟨q11, h⟩ := ck_some h
  refine m_sald (pc := 308) C hM hX hbl hE hLn q11.1 q11.2 dL_law_308 ?_
  obtain ⟨q12, h⟩ := ck_some h
  obtain ⟨a13, μ14, ca13, h⟩ := bd_some h
  refine V_X8_setTerms (pc := 309) C hM ca13 (hsc _) (hsc _) q12 bw_5_134 ⟨Nat.le_of_ble_eq_true rfl, Nat.le_of_ble_eq_true rfl⟩ hl.1 (rcI rc0) ⟨by show _ + 0 ≤ 600000; omega, by show _ + 0 ≤ 7302250; omega⟩ dL_law_309 (fun ra13 H locs hM => ?_)
  refine m_icmp_eq (tgt := 1029) (pc := 312) C ra6 ra13 dL_law_312 (by decide) (fun c15 => ?_) (fun c15 => ?_)
  · have h := if_t h c15
    exact k_L_law_b1029 C hX hbl hE hLn N _ hk18 _ _ _ _ _ _ h rx3 _ _ _ _ _ hb hM (lv_sub hl [0, 1, 2, 3] rfl)
  · have h := if_f h c15
    refine m_iconst (pc := 315) C dL_law_315 ?_
    simp at h
set_option maxHeartbeats 4000000 in
set_option maxRecDepth 100000 in
theorem k_L_law_b317 (C : gCx p s m #[Value.ref b] meth c code 4 ret nmm R_law) (hX : va_X b L xs s s.heap) (hbl : b < s.heap.size) (hE : E.2.2.1 = s.heap.size) (hLn : L ≤ 2147483647) (N : Nat) {μ' : Mm} (k18 : Int → Int → Int → Int → Int → Mm → Rs) (hk18 : ∀ (x1 x2 x3 bc bs : Int) (μ : Mm), k18 x1 x2 x3 bc bs μ = some (1, μ') → R32 x3 → ∀ (H : Heap) (locs : List Loc) (ls : Array Slot) (cells slots : Nat), (cells : Int) + bc ≤ 600000 ∧ 0 ≤ bc ∧ (slots : Int) + bs ≤ 7302250 ∧ 0 ≤ bs → MS E μ s H locs → lv_has ls 4 [(0, .ref b), (1, vr E x1), (2, vr E x2), (3, vi x3)] → W p l e room_1 s m #[Value.ref b] below meth c H locs cells slots (lw_Z below #[Value.ref b] s) (F0 m 18 ls [])) : ∀ (x1 x2 x3 bc bs : Int) (μ : Mm), f_L_law_b317 (fun i => (xs i.toNat).toInt) (L : Int) N k18 x1 x2 x3 bc bs μ = some (1, μ') → R32 x3 → ∀ (H : Heap) (locs : List Loc) (ls : Array Slot) (cells slots : Nat), (cells : Int) + bc ≤ 600000 ∧ 0 ≤ bc ∧ (slots : Int) + bs ≤ 7302250 ∧ 0 ≤ bs → MS E μ s H locs → lv_has ls 4 [(0, .ref b), (1, vr E x1), (2, vr E x2), (3, vi x3)] → W p l e room_1 s m #[Value.ref b] below meth c H locs cells slots (lw_Z below #[Value.ref b] s) (F0 m 317 ls []) := by
  have hsc : ∀ i : Int, R32 ((fun i : Int => (xs i.toNat).toInt) i) := fun i => R32_of _
  have hsl : R32 (L : Int) := ⟨by omega, by omega⟩
  intro x1 x2 x3 bc bs μ h rx3 H locs ls cells slots hb hM hl
  unfold f_L_law_b317 at h
  refine m_aload_n (pc := 317) C dL_law_317 rfl (lv_at hl 1 rfl) ?_
  refine m_sload (pc := 318) C dL_law_318 rfl (lv_at hl 0 rfl) ?_
  refine m_iload_n (pc := 319) C dL_law_319 rfl (lv_at hl 3 rfl) ?_
  refine m_iconst (pc := 320) C dL_law_320 ?_
  obtain ⟨a1, ea1, h⟩ := nm_some h
  have ra1 : R32 a1 := by rw [ea1]; exact w32_R _
  refine m_iadd (pc := 321) C dL_law_321 ea1 ?_
  obtain ⟨q2, h⟩ := ck_some h
  refine m_sald (pc := 322) C hM hX hbl hE hLn q2.1 q2.2 dL_law_322 ?_
  refine m_sload (pc := 323) C dL_law_323 rfl (lv_at hl 0 rfl) ?_
  refine m_iload_n (pc := 324) C dL_law_324 rfl (lv_at hl 3 rfl) ?_
  refine m_iconst (pc := 325) C dL_law_325 ?_
  obtain ⟨a3, ea3, h⟩ := nm_some h
  have ra3 : R32 a3 := by rw [ea3]; exact w32_R _
  refine m_iadd (pc := 326) C dL_law_326 ea3 ?_
  obtain ⟨q4, h⟩ := ck_some h
  refine m_sald (pc := 327) C hM hX hbl hE hLn q4.1 q4.2 dL_law_327 ?_
  refine m_sload (pc := 328) C dL_law_328 rfl (lv_at hl 0 rfl) ?_
  refine m_iload_n (pc := 329) C dL_law_329 rfl (lv_at hl 3 rfl) ?_
  refine m_iconst (pc := 330) C dL_law_330 ?_
  obtain ⟨a5, ea5, h⟩ := nm_some h
  have ra5 : R32 a5 := by rw [ea5]; exact w32_R _
  refine m_iadd (pc := 331) C dL_law_331 ea5 ?_
  obtain ⟨q6, h⟩ := ck_some h
  refine m_sald (pc := 332) C hM hX hbl hE hLn q6.1 q6.2 dL_law_332 ?_
  obtain ⟨q7, h⟩ := ck_some h
  obtain ⟨a8, μ9, ca8, h⟩ := bd_some h
  refine V_X7_setRules (pc := 333) C hM ca8 (hsc _) (hsc _) (hsc _) q7 bw_2_178 ⟨Nat.le_of_ble_eq_true rfl, Nat.le_of_ble_eq_true rfl⟩ hl.1 rc0 ⟨by show _ + 0 ≤ 600000; omega, by show _ + 0 ≤ 7302250; omega⟩ dL_law_333 (fun ra8 H locs hM => ?_)
  refine m_aload_n (pc := 336) C dL_law_336 rfl (lv_at hl 2 rfl) ?_
  refine m_sload (pc := 337) C dL_law_337 rfl (lv_at hl 0 rfl) ?_
  refine m_iload_n (pc := 338) C dL_law_338 rfl (lv_at hl 3 rfl) ?_
  refine m_iconst (pc := 339) C dL_law_339 ?_
  obtain ⟨a10, ea10, h⟩ := nm_some h
  have ra10 : R32 a10 := by rw [ea10]; exact w32_R _
  refine m_iadd (pc := 340) C dL_law_340 ea10 ?_
  obtain ⟨q11, h⟩ := ck_some h
  refine m_sald (pc := 341) C hM hX hbl hE hLn q11.1 q11.2 dL_law_341 ?_
  refine m_sload (pc := 342) C dL_law_342 rfl (lv_at hl 0 rfl) ?_
  refine m_iload_n (pc := 343) C dL_law_343 rfl (lv_at hl 3 rfl) ?_
  refine m_iconst (pc := 344) C dL_law_344 ?_
  obtain ⟨a12, ea12, h⟩ := nm_some h
  have ra12 : R32 a12 := by rw [ea12]; exact w32_R _
  refine m_iadd (pc := 345) C dL_law_345 ea12 ?_
  obtain ⟨q13, h⟩ := ck_some h
  refine m_sald (pc := 346) C hM hX hbl hE hLn q13.1 q13.2 dL_law_346 ?_
  refine m_sload (pc := 347) C dL_law_347 rfl (lv_at hl 0 rfl) ?_
  refine m_iload_n (pc := 348) C dL_law_348 rfl (lv_at hl 3 rfl) ?_
  refine m_iconst (pc := 349) C dL_law_349 ?_
  obtain ⟨a14, ea14, h⟩ := nm_some h
  have ra14 : R32 a14 := by rw [ea14]; exact w32_R _
  refine m_iadd (pc := 350) C dL_law_350 ea14 ?_
  obtain ⟨q15, h⟩ := ck_some h
  refine m_sald (pc := 351) C hM hX hbl hE hLn q15.1 q15.2 dL_law_351 ?_
  obtain ⟨q16, h⟩ := ck_some h
  obtain ⟨a17, μ18, ca17, h⟩ := bd_some h
  refine V_X8_setRules (pc := 352) C hM ca17 (hsc _) (hsc _) (hsc _) q16 bw_5_139 ⟨Nat.le_of_ble_eq_true rfl, Nat.le_of_ble_eq_true rfl⟩ hl.1 (rcI rc0) ⟨by show _ + 0 ≤ 600000; omega, by show _ + 0 ≤ 7302250; omega⟩ dL_law_352 (fun ra17 H locs hM => ?_)
  refine m_icmp_eq (tgt := 1029) (pc := 355) C ra8 ra17 dL_law_355 (by decide) (fun c19 => ?_) (fun c19 => ?_)
  · have h := if_t h c19
    exact k_L_law_b1029 C hX hbl hE hLn N _ hk18 _ _ _ _ _ _ h rx3 _ _ _ _ _ hb hM (lv_sub hl [0, 1, 2, 3] rfl)
  · have h := if_f h c19
    refine m_iconst (pc := 358) C dL_law_358 ?_
    simp at h
set_option maxHeartbeats 4000000 in
set_option maxRecDepth 100000 in
theorem k_L_law_b360 (C : gCx p s m #[Value.ref b] meth c code 4 ret nmm R_law) (hX : va_X b L xs s s.heap) (hbl : b < s.heap.size) (hE : E.2.2.1 = s.heap.size) (hLn : L ≤ 2147483647) (N : Nat) {μ' : Mm} (k18 : Int → Int → Int → Int → Int → Mm → Rs) (hk18 : ∀ (x1 x2 x3 bc bs : Int) (μ : Mm), k18 x1 x2 x3 bc bs μ = some (1, μ') → R32 x3 → ∀ (H : Heap) (locs : List Loc) (ls : Array Slot) (cells slots : Nat), (cells : Int) + bc ≤ 600000 ∧ 0 ≤ bc ∧ (slots : Int) + bs ≤ 7302250 ∧ 0 ≤ bs → MS E μ s H locs → lv_has ls 4 [(0, .ref b), (1, vr E x1), (2, vr E x2), (3, vi x3)] → W p l e room_1 s m #[Value.ref b] below meth c H locs cells slots (lw_Z below #[Value.ref b] s) (F0 m 18 ls [])) : ∀ (x1 x2 x3 bc bs : Int) (μ : Mm), f_L_law_b360 (fun i => (xs i.toNat).toInt) (L : Int) N k18 x1 x2 x3 bc bs μ = some (1, μ') → R32 x3 → ∀ (H : Heap) (locs : List Loc) (ls : Array Slot) (cells slots : Nat), (cells : Int) + bc ≤ 600000 ∧ 0 ≤ bc ∧ (slots : Int) + bs ≤ 7302250 ∧ 0 ≤ bs → MS E μ s H locs → lv_has ls 4 [(0, .ref b), (1, vr E x1), (2, vr E x2), (3, vi x3)] → W p l e room_1 s m #[Value.ref b] below meth c H locs cells slots (lw_Z below #[Value.ref b] s) (F0 m 360 ls []) := by
  have hsc : ∀ i : Int, R32 ((fun i : Int => (xs i.toNat).toInt) i) := fun i => R32_of _
  have hsl : R32 (L : Int) := ⟨by omega, by omega⟩
  intro x1 x2 x3 bc bs μ h rx3 H locs ls cells slots hb hM hl
  unfold f_L_law_b360 at h
  refine m_aload_n (pc := 360) C dL_law_360 rfl (lv_at hl 1 rfl) ?_
  refine m_sload (pc := 361) C dL_law_361 rfl (lv_at hl 0 rfl) ?_
  refine m_iload_n (pc := 362) C dL_law_362 rfl (lv_at hl 3 rfl) ?_
  refine m_iconst (pc := 363) C dL_law_363 ?_
  obtain ⟨a1, ea1, h⟩ := nm_some h
  have ra1 : R32 a1 := by rw [ea1]; exact w32_R _
  refine m_iadd (pc := 364) C dL_law_364 ea1 ?_
  obtain ⟨q2, h⟩ := ck_some h
  refine m_sald (pc := 365) C hM hX hbl hE hLn q2.1 q2.2 dL_law_365 ?_
  refine m_sload (pc := 366) C dL_law_366 rfl (lv_at hl 0 rfl) ?_
  refine m_iload_n (pc := 367) C dL_law_367 rfl (lv_at hl 3 rfl) ?_
  refine m_iconst (pc := 368) C dL_law_368 ?_
  obtain ⟨a3, ea3, h⟩ := nm_some h
  have ra3 : R32 a3 := by rw [ea3]; exact w32_R _
  refine m_iadd (pc := 369) C dL_law_369 ea3 ?_
  obtain ⟨q4, h⟩ := ck_some h
  refine m_sald (pc := 370) C hM hX hbl hE hLn q4.1 q4.2 dL_law_370 ?_
  refine m_sload (pc := 371) C dL_law_371 rfl (lv_at hl 0 rfl) ?_
  refine m_iload_n (pc := 372) C dL_law_372 rfl (lv_at hl 3 rfl) ?_
  refine m_iconst (pc := 373) C dL_law_373 ?_
  obtain ⟨a5, ea5, h⟩ := nm_some h
  have ra5 : R32 a5 := by rw [ea5]; exact w32_R _
  refine m_iadd (pc := 374) C dL_law_374 ea5 ?_
  obtain ⟨q6, h⟩ := ck_some h
  refine m_sald (pc := 375) C hM hX hbl hE hLn q6.1 q6.2 dL_law_375 ?_
  refine m_sload (pc := 376) C dL_law_376 rfl (lv_at hl 0 rfl) ?_
  refine m_iload_n (pc := 377) C dL_law_377 rfl (lv_at hl 3 rfl) ?_
  refine m_iconst (pc := 378) C dL_law_378 ?_
  obtain ⟨a7, ea7, h⟩ := nm_some h
  have ra7 : R32 a7 := by rw [ea7]; exact w32_R _
  refine m_iadd (pc := 379) C dL_law_379 ea7 ?_
  obtain ⟨q8, h⟩ := ck_some h
  refine m_sald (pc := 380) C hM hX hbl hE hLn q8.1 q8.2 dL_law_380 ?_
  obtain ⟨q9, h⟩ := ck_some h
  obtain ⟨a10, μ11, ca10, h⟩ := bd_some h
  refine V_X7_enter (pc := 381) C hM ca10 (hsc _) (hsc _) (hsc _) (hsc _) q9 bw_2_182 ⟨Nat.le_of_ble_eq_true rfl, Nat.le_of_ble_eq_true rfl⟩ hl.1 rc0 ⟨by show _ + 0 ≤ 600000; omega, by show _ + 0 ≤ 7302250; omega⟩ dL_law_381 (fun ra10 H locs hM => ?_)
  refine m_aload_n (pc := 384) C dL_law_384 rfl (lv_at hl 2 rfl) ?_
  refine m_sload (pc := 385) C dL_law_385 rfl (lv_at hl 0 rfl) ?_
  refine m_iload_n (pc := 386) C dL_law_386 rfl (lv_at hl 3 rfl) ?_
  refine m_iconst (pc := 387) C dL_law_387 ?_
  obtain ⟨a12, ea12, h⟩ := nm_some h
  have ra12 : R32 a12 := by rw [ea12]; exact w32_R _
  refine m_iadd (pc := 388) C dL_law_388 ea12 ?_
  obtain ⟨q13, h⟩ := ck_some h
  refine m_sald (pc := 389) C hM hX hbl hE hLn q13.1 q13.2 dL_law_389 ?_
  refine m_sload (pc := 390) C dL_law_390 rfl (lv_at hl 0 rfl) ?_
  refine m_iload_n (pc := 391) C dL_law_391 rfl (lv_at hl 3 rfl) ?_
  refine m_iconst (pc := 392) C dL_law_392 ?_
  obtain ⟨a14, ea14, h⟩ := nm_some h
  have ra14 : R32 a14 := by rw [ea14]; exact w32_R _
  refine m_iadd (pc := 393) C dL_law_393 ea14 ?_
  obtain ⟨q15, h⟩ := ck_some h
  refine m_sald (pc := 394) C hM hX hbl hE hLn q15.1 q15.2 dL_law_394 ?_
  refine m_sload (pc := 395) C dL_law_395 rfl (lv_at hl 0 rfl) ?_
  refine m_iload_n (pc := 396) C dL_law_396 rfl (lv_at hl 3 rfl) ?_
  refine m_iconst (pc := 397) C dL_law_397 ?_
  obtain ⟨a16, ea16, h⟩ := nm_some h
  have ra16 : R32 a16 := by rw [ea16]; exact w32_R _
  refine m_iadd (pc := 398) C dL_law_398 ea16 ?_
  obtain ⟨q17, h⟩ := ck_some h
  refine m_sald (pc := 399) C hM hX hbl hE hLn q17.1 q17.2 dL_law_399 ?_
  refine m_sload (pc := 400) C dL_law_400 rfl (lv_at hl 0 rfl) ?_
  refine m_iload_n (pc := 401) C dL_law_401 rfl (lv_at hl 3 rfl) ?_
  refine m_iconst (pc := 402) C dL_law_402 ?_
  obtain ⟨a18, ea18, h⟩ := nm_some h
  have ra18 : R32 a18 := by rw [ea18]; exact w32_R _
  refine m_iadd (pc := 403) C dL_law_403 ea18 ?_
  obtain ⟨q19, h⟩ := ck_some h
  refine m_sald (pc := 404) C hM hX hbl hE hLn q19.1 q19.2 dL_law_404 ?_
  obtain ⟨q20, h⟩ := ck_some h
  obtain ⟨a21, μ22, ca21, h⟩ := bd_some h
  refine V_X8_enter (pc := 405) C hM ca21 (hsc _) (hsc _) (hsc _) (hsc _) q20 bw_5_143 ⟨Nat.le_of_ble_eq_true rfl, Nat.le_of_ble_eq_true rfl⟩ hl.1 (rcI rc0) ⟨by show _ + 0 ≤ 600000; omega, by show _ + 0 ≤ 7302250; omega⟩ dL_law_405 (fun ra21 H locs hM => ?_)
  refine m_icmp_eq (tgt := 1029) (pc := 408) C ra10 ra21 dL_law_408 (by decide) (fun c23 => ?_) (fun c23 => ?_)
  · have h := if_t h c23
    exact k_L_law_b1029 C hX hbl hE hLn N _ hk18 _ _ _ _ _ _ h rx3 _ _ _ _ _ hb hM (lv_sub hl [0, 1, 2, 3] rfl)
  · have h := if_f h c23
    refine m_iconst (pc := 411) C dL_law_411 ?_
    simp at h
set_option maxHeartbeats 4000000 in
set_option maxRecDepth 100000 in
theorem k_L_law_b413 (C : gCx p s m #[Value.ref b] meth c code 4 ret nmm R_law) (hX : va_X b L xs s s.heap) (hbl : b < s.heap.size) (hE : E.2.2.1 = s.heap.size) (hLn : L ≤ 2147483647) (N : Nat) {μ' : Mm} (k18 : Int → Int → Int → Int → Int → Mm → Rs) (hk18 : ∀ (x1 x2 x3 bc bs : Int) (μ : Mm), k18 x1 x2 x3 bc bs μ = some (1, μ') → R32 x3 → ∀ (H : Heap) (locs : List Loc) (ls : Array Slot) (cells slots : Nat), (cells : Int) + bc ≤ 600000 ∧ 0 ≤ bc ∧ (slots : Int) + bs ≤ 7302250 ∧ 0 ≤ bs → MS E μ s H locs → lv_has ls 4 [(0, .ref b), (1, vr E x1), (2, vr E x2), (3, vi x3)] → W p l e room_1 s m #[Value.ref b] below meth c H locs cells slots (lw_Z below #[Value.ref b] s) (F0 m 18 ls [])) : ∀ (x1 x2 x3 bc bs : Int) (μ : Mm), f_L_law_b413 (fun i => (xs i.toNat).toInt) (L : Int) N k18 x1 x2 x3 bc bs μ = some (1, μ') → R32 x3 → ∀ (H : Heap) (locs : List Loc) (ls : Array Slot) (cells slots : Nat), (cells : Int) + bc ≤ 600000 ∧ 0 ≤ bc ∧ (slots : Int) + bs ≤ 7302250 ∧ 0 ≤ bs → MS E μ s H locs → lv_has ls 4 [(0, .ref b), (1, vr E x1), (2, vr E x2), (3, vi x3)] → W p l e room_1 s m #[Value.ref b] below meth c H locs cells slots (lw_Z below #[Value.ref b] s) (F0 m 413 ls []) := by
  have hsc : ∀ i : Int, R32 ((fun i : Int => (xs i.toNat).toInt) i) := fun i => R32_of _
  have hsl : R32 (L : Int) := ⟨by omega, by omega⟩
  intro x1 x2 x3 bc bs μ h rx3 H locs ls cells slots hb hM hl
  unfold f_L_law_b413 at h
  refine m_aload_n (pc := 413) C dL_law_413 rfl (lv_at hl 1 rfl) ?_
  refine m_sload (pc := 414) C dL_law_414 rfl (lv_at hl 0 rfl) ?_
  refine m_iload_n (pc := 415) C dL_law_415 rfl (lv_at hl 3 rfl) ?_
  refine m_iconst (pc := 416) C dL_law_416 ?_
  obtain ⟨a1, ea1, h⟩ := nm_some h
  have ra1 : R32 a1 := by rw [ea1]; exact w32_R _
  refine m_iadd (pc := 417) C dL_law_417 ea1 ?_
  obtain ⟨q2, h⟩ := ck_some h
  refine m_sald (pc := 418) C hM hX hbl hE hLn q2.1 q2.2 dL_law_418 ?_
  refine m_sload (pc := 419) C dL_law_419 rfl (lv_at hl 0 rfl) ?_
  refine m_iload_n (pc := 420) C dL_law_420 rfl (lv_at hl 3 rfl) ?_
  refine m_iconst (pc := 421) C dL_law_421 ?_
  obtain ⟨a3, ea3, h⟩ := nm_some h
  have ra3 : R32 a3 := by rw [ea3]; exact w32_R _
  refine m_iadd (pc := 422) C dL_law_422 ea3 ?_
  obtain ⟨q4, h⟩ := ck_some h
  refine m_sald (pc := 423) C hM hX hbl hE hLn q4.1 q4.2 dL_law_423 ?_
  obtain ⟨q5, h⟩ := ck_some h
  obtain ⟨a6, μ7, ca6, h⟩ := bd_some h
  refine V_X7_release (pc := 424) C hM ca6 (hsc _) (hsc _) q5 bw_2_196 ⟨Nat.le_of_ble_eq_true rfl, Nat.le_of_ble_eq_true rfl⟩ hl.1 rc0 ⟨by show _ + 0 ≤ 600000; omega, by show _ + 0 ≤ 7302250; omega⟩ dL_law_424 (fun ra6 H locs hM => ?_)
  refine m_aload_n (pc := 427) C dL_law_427 rfl (lv_at hl 2 rfl) ?_
  refine m_sload (pc := 428) C dL_law_428 rfl (lv_at hl 0 rfl) ?_
  refine m_iload_n (pc := 429) C dL_law_429 rfl (lv_at hl 3 rfl) ?_
  refine m_iconst (pc := 430) C dL_law_430 ?_
  obtain ⟨a8, ea8, h⟩ := nm_some h
  have ra8 : R32 a8 := by rw [ea8]; exact w32_R _
  refine m_iadd (pc := 431) C dL_law_431 ea8 ?_
  obtain ⟨q9, h⟩ := ck_some h
  refine m_sald (pc := 432) C hM hX hbl hE hLn q9.1 q9.2 dL_law_432 ?_
  refine m_sload (pc := 433) C dL_law_433 rfl (lv_at hl 0 rfl) ?_
  refine m_iload_n (pc := 434) C dL_law_434 rfl (lv_at hl 3 rfl) ?_
  refine m_iconst (pc := 435) C dL_law_435 ?_
  obtain ⟨a10, ea10, h⟩ := nm_some h
  have ra10 : R32 a10 := by rw [ea10]; exact w32_R _
  refine m_iadd (pc := 436) C dL_law_436 ea10 ?_
  obtain ⟨q11, h⟩ := ck_some h
  refine m_sald (pc := 437) C hM hX hbl hE hLn q11.1 q11.2 dL_law_437 ?_
  obtain ⟨q12, h⟩ := ck_some h
  obtain ⟨a13, μ14, ca13, h⟩ := bd_some h
  refine V_X8_release (pc := 438) C hM ca13 (hsc _) (hsc _) q12 bw_5_159 ⟨Nat.le_of_ble_eq_true rfl, Nat.le_of_ble_eq_true rfl⟩ hl.1 (rcI rc0) ⟨by show _ + 0 ≤ 600000; omega, by show _ + 0 ≤ 7302250; omega⟩ dL_law_438 (fun ra13 H locs hM => ?_)
  refine m_icmp_eq (tgt := 1029) (pc := 441) C ra6 ra13 dL_law_441 (by decide) (fun c15 => ?_) (fun c15 => ?_)
  · have h := if_t h c15
    exact k_L_law_b1029 C hX hbl hE hLn N _ hk18 _ _ _ _ _ _ h rx3 _ _ _ _ _ hb hM (lv_sub hl [0, 1, 2, 3] rfl)
  · have h := if_f h c15
    refine m_iconst (pc := 444) C dL_law_444 ?_
    simp at h
set_option maxHeartbeats 4000000 in
set_option maxRecDepth 100000 in
theorem k_L_law_b446 (C : gCx p s m #[Value.ref b] meth c code 4 ret nmm R_law) (hX : va_X b L xs s s.heap) (hbl : b < s.heap.size) (hE : E.2.2.1 = s.heap.size) (hLn : L ≤ 2147483647) (N : Nat) {μ' : Mm} (k18 : Int → Int → Int → Int → Int → Mm → Rs) (hk18 : ∀ (x1 x2 x3 bc bs : Int) (μ : Mm), k18 x1 x2 x3 bc bs μ = some (1, μ') → R32 x3 → ∀ (H : Heap) (locs : List Loc) (ls : Array Slot) (cells slots : Nat), (cells : Int) + bc ≤ 600000 ∧ 0 ≤ bc ∧ (slots : Int) + bs ≤ 7302250 ∧ 0 ≤ bs → MS E μ s H locs → lv_has ls 4 [(0, .ref b), (1, vr E x1), (2, vr E x2), (3, vi x3)] → W p l e room_1 s m #[Value.ref b] below meth c H locs cells slots (lw_Z below #[Value.ref b] s) (F0 m 18 ls [])) : ∀ (x1 x2 x3 bc bs : Int) (μ : Mm), f_L_law_b446 (fun i => (xs i.toNat).toInt) (L : Int) N k18 x1 x2 x3 bc bs μ = some (1, μ') → R32 x3 → ∀ (H : Heap) (locs : List Loc) (ls : Array Slot) (cells slots : Nat), (cells : Int) + bc ≤ 600000 ∧ 0 ≤ bc ∧ (slots : Int) + bs ≤ 7302250 ∧ 0 ≤ bs → MS E μ s H locs → lv_has ls 4 [(0, .ref b), (1, vr E x1), (2, vr E x2), (3, vi x3)] → W p l e room_1 s m #[Value.ref b] below meth c H locs cells slots (lw_Z below #[Value.ref b] s) (F0 m 446 ls []) := by
  have hsc : ∀ i : Int, R32 ((fun i : Int => (xs i.toNat).toInt) i) := fun i => R32_of _
  have hsl : R32 (L : Int) := ⟨by omega, by omega⟩
  intro x1 x2 x3 bc bs μ h rx3 H locs ls cells slots hb hM hl
  unfold f_L_law_b446 at h
  refine m_aload_n (pc := 446) C dL_law_446 rfl (lv_at hl 1 rfl) ?_
  refine m_sload (pc := 447) C dL_law_447 rfl (lv_at hl 0 rfl) ?_
  refine m_iload_n (pc := 448) C dL_law_448 rfl (lv_at hl 3 rfl) ?_
  refine m_iconst (pc := 449) C dL_law_449 ?_
  obtain ⟨a1, ea1, h⟩ := nm_some h
  have ra1 : R32 a1 := by rw [ea1]; exact w32_R _
  refine m_iadd (pc := 450) C dL_law_450 ea1 ?_
  obtain ⟨q2, h⟩ := ck_some h
  refine m_sald (pc := 451) C hM hX hbl hE hLn q2.1 q2.2 dL_law_451 ?_
  refine m_sload (pc := 452) C dL_law_452 rfl (lv_at hl 0 rfl) ?_
  refine m_iload_n (pc := 453) C dL_law_453 rfl (lv_at hl 3 rfl) ?_
  refine m_iconst (pc := 454) C dL_law_454 ?_
  obtain ⟨a3, ea3, h⟩ := nm_some h
  have ra3 : R32 a3 := by rw [ea3]; exact w32_R _
  refine m_iadd (pc := 455) C dL_law_455 ea3 ?_
  obtain ⟨q4, h⟩ := ck_some h
  refine m_sald (pc := 456) C hM hX hbl hE hLn q4.1 q4.2 dL_law_456 ?_
  obtain ⟨q5, h⟩ := ck_some h
  obtain ⟨a6, μ7, ca6, h⟩ := bd_some h
  refine V_X7_sample (pc := 457) C hM ca6 (hsc _) (hsc _) q5 bw_2_220 ⟨Nat.le_of_ble_eq_true rfl, Nat.le_of_ble_eq_true rfl⟩ hl.1 rc0 ⟨by show _ + 0 ≤ 600000; omega, by show _ + 0 ≤ 7302250; omega⟩ dL_law_457 (fun ra6 H locs hM => ?_)
  refine m_aload_n (pc := 460) C dL_law_460 rfl (lv_at hl 2 rfl) ?_
  refine m_sload (pc := 461) C dL_law_461 rfl (lv_at hl 0 rfl) ?_
  refine m_iload_n (pc := 462) C dL_law_462 rfl (lv_at hl 3 rfl) ?_
  refine m_iconst (pc := 463) C dL_law_463 ?_
  obtain ⟨a8, ea8, h⟩ := nm_some h
  have ra8 : R32 a8 := by rw [ea8]; exact w32_R _
  refine m_iadd (pc := 464) C dL_law_464 ea8 ?_
  obtain ⟨q9, h⟩ := ck_some h
  refine m_sald (pc := 465) C hM hX hbl hE hLn q9.1 q9.2 dL_law_465 ?_
  refine m_sload (pc := 466) C dL_law_466 rfl (lv_at hl 0 rfl) ?_
  refine m_iload_n (pc := 467) C dL_law_467 rfl (lv_at hl 3 rfl) ?_
  refine m_iconst (pc := 468) C dL_law_468 ?_
  obtain ⟨a10, ea10, h⟩ := nm_some h
  have ra10 : R32 a10 := by rw [ea10]; exact w32_R _
  refine m_iadd (pc := 469) C dL_law_469 ea10 ?_
  obtain ⟨q11, h⟩ := ck_some h
  refine m_sald (pc := 470) C hM hX hbl hE hLn q11.1 q11.2 dL_law_470 ?_
  obtain ⟨q12, h⟩ := ck_some h
  obtain ⟨a13, μ14, ca13, h⟩ := bd_some h
  refine V_X8_sample (pc := 471) C hM ca13 (hsc _) (hsc _) q12 bw_5_191 ⟨Nat.le_of_ble_eq_true rfl, Nat.le_of_ble_eq_true rfl⟩ hl.1 (rcI rc0) ⟨by show _ + 0 ≤ 600000; omega, by show _ + 0 ≤ 7302250; omega⟩ dL_law_471 (fun ra13 H locs hM => ?_)
  refine m_icmp_eq (tgt := 1029) (pc := 474) C ra6 ra13 dL_law_474 (by decide) (fun c15 => ?_) (fun c15 => ?_)
  · have h := if_t h c15
    exact k_L_law_b1029 C hX hbl hE hLn N _ hk18 _ _ _ _ _ _ h rx3 _ _ _ _ _ hb hM (lv_sub hl [0, 1, 2, 3] rfl)
  · have h := if_f h c15
    refine m_iconst (pc := 477) C dL_law_477 ?_
    simp at h
set_option maxHeartbeats 4000000 in
set_option maxRecDepth 100000 in
theorem k_L_law_b479 (C : gCx p s m #[Value.ref b] meth c code 4 ret nmm R_law) (hX : va_X b L xs s s.heap) (hbl : b < s.heap.size) (hE : E.2.2.1 = s.heap.size) (hLn : L ≤ 2147483647) (N : Nat) {μ' : Mm} (k18 : Int → Int → Int → Int → Int → Mm → Rs) (hk18 : ∀ (x1 x2 x3 bc bs : Int) (μ : Mm), k18 x1 x2 x3 bc bs μ = some (1, μ') → R32 x3 → ∀ (H : Heap) (locs : List Loc) (ls : Array Slot) (cells slots : Nat), (cells : Int) + bc ≤ 600000 ∧ 0 ≤ bc ∧ (slots : Int) + bs ≤ 7302250 ∧ 0 ≤ bs → MS E μ s H locs → lv_has ls 4 [(0, .ref b), (1, vr E x1), (2, vr E x2), (3, vi x3)] → W p l e room_1 s m #[Value.ref b] below meth c H locs cells slots (lw_Z below #[Value.ref b] s) (F0 m 18 ls [])) : ∀ (x1 x2 x3 bc bs : Int) (μ : Mm), f_L_law_b479 (fun i => (xs i.toNat).toInt) (L : Int) N k18 x1 x2 x3 bc bs μ = some (1, μ') → R32 x3 → ∀ (H : Heap) (locs : List Loc) (ls : Array Slot) (cells slots : Nat), (cells : Int) + bc ≤ 600000 ∧ 0 ≤ bc ∧ (slots : Int) + bs ≤ 7302250 ∧ 0 ≤ bs → MS E μ s H locs → lv_has ls 4 [(0, .ref b), (1, vr E x1), (2, vr E x2), (3, vi x3)] → W p l e room_1 s m #[Value.ref b] below meth c H locs cells slots (lw_Z below #[Value.ref b] s) (F0 m 479 ls []) := by
  have hsc : ∀ i : Int, R32 ((fun i : Int => (xs i.toNat).toInt) i) := fun i => R32_of _
  have hsl : R32 (L : Int) := ⟨by omega, by omega⟩
  intro x1 x2 x3 bc bs μ h rx3 H locs ls cells slots hb hM hl
  unfold f_L_law_b479 at h
  refine m_aload_n (pc := 479) C dL_law_479 rfl (lv_at hl 1 rfl) ?_
  refine m_sload (pc := 480) C dL_law_480 rfl (lv_at hl 0 rfl) ?_
  refine m_iload_n (pc := 481) C dL_law_481 rfl (lv_at hl 3 rfl) ?_
  refine m_iconst (pc := 482) C dL_law_482 ?_
  obtain ⟨a1, ea1, h⟩ := nm_some h
  have ra1 : R32 a1 := by rw [ea1]; exact w32_R _
  refine m_iadd (pc := 483) C dL_law_483 ea1 ?_
  obtain ⟨q2, h⟩ := ck_some h
  refine m_sald (pc := 484) C hM hX hbl hE hLn q2.1 q2.2 dL_law_484 ?_
  refine m_sload (pc := 485) C dL_law_485 rfl (lv_at hl 0 rfl) ?_
  refine m_iload_n (pc := 486) C dL_law_486 rfl (lv_at hl 3 rfl) ?_
  refine m_iconst (pc := 487) C dL_law_487 ?_
  obtain ⟨a3, ea3, h⟩ := nm_some h
  have ra3 : R32 a3 := by rw [ea3]; exact w32_R _
  refine m_iadd (pc := 488) C dL_law_488 ea3 ?_
  obtain ⟨q4, h⟩ := ck_some h
  refine m_sald (pc := 489) C hM hX hbl hE hLn q4.1 q4.2 dL_law_489 ?_
  obtain ⟨q5, h⟩ := ck_some h
  obtain ⟨a6, μ7, ca6, h⟩ := bd_some h
  refine V_X7_export (pc := 490) C hM ca6 (hsc _) (hsc _) q5 bw_2_236 ⟨Nat.le_of_ble_eq_true rfl, Nat.le_of_ble_eq_true rfl⟩ hl.1 rc0 ⟨by show _ + 0 ≤ 600000; omega, by show _ + 0 ≤ 7302250; omega⟩ dL_law_490 (fun ra6 H locs hM => ?_)
  refine m_aload_n (pc := 493) C dL_law_493 rfl (lv_at hl 2 rfl) ?_
  refine m_sload (pc := 494) C dL_law_494 rfl (lv_at hl 0 rfl) ?_
  refine m_iload_n (pc := 495) C dL_law_495 rfl (lv_at hl 3 rfl) ?_
  refine m_iconst (pc := 496) C dL_law_496 ?_
  obtain ⟨a8, ea8, h⟩ := nm_some h
  have ra8 : R32 a8 := by rw [ea8]; exact w32_R _
  refine m_iadd (pc := 497) C dL_law_497 ea8 ?_
  obtain ⟨q9, h⟩ := ck_some h
  refine m_sald (pc := 498) C hM hX hbl hE hLn q9.1 q9.2 dL_law_498 ?_
  refine m_sload (pc := 499) C dL_law_499 rfl (lv_at hl 0 rfl) ?_
  refine m_iload_n (pc := 500) C dL_law_500 rfl (lv_at hl 3 rfl) ?_
  refine m_iconst (pc := 501) C dL_law_501 ?_
  obtain ⟨a10, ea10, h⟩ := nm_some h
  have ra10 : R32 a10 := by rw [ea10]; exact w32_R _
  refine m_iadd (pc := 502) C dL_law_502 ea10 ?_
  obtain ⟨q11, h⟩ := ck_some h
  refine m_sald (pc := 503) C hM hX hbl hE hLn q11.1 q11.2 dL_law_503 ?_
  obtain ⟨q12, h⟩ := ck_some h
  obtain ⟨a13, μ14, ca13, h⟩ := bd_some h
  refine V_X8_export (pc := 504) C hM ca13 (hsc _) (hsc _) q12 bw_5_211 ⟨Nat.le_of_ble_eq_true rfl, Nat.le_of_ble_eq_true rfl⟩ hl.1 (rcI rc0) ⟨by show _ + 0 ≤ 600000; omega, by show _ + 0 ≤ 7302250; omega⟩ dL_law_504 (fun ra13 H locs hM => ?_)
  refine m_icmp_eq (tgt := 1029) (pc := 507) C ra6 ra13 dL_law_507 (by decide) (fun c15 => ?_) (fun c15 => ?_)
  · have h := if_t h c15
    exact k_L_law_b1029 C hX hbl hE hLn N _ hk18 _ _ _ _ _ _ h rx3 _ _ _ _ _ hb hM (lv_sub hl [0, 1, 2, 3] rfl)
  · have h := if_f h c15
    refine m_iconst (pc := 510) C dL_law_510 ?_
    simp at h
set_option maxHeartbeats 4000000 in
set_option maxRecDepth 100000 in
theorem k_L_law_b512 (C : gCx p s m #[Value.ref b] meth c code 4 ret nmm R_law) (hX : va_X b L xs s s.heap) (hbl : b < s.heap.size) (hE : E.2.2.1 = s.heap.size) (hLn : L ≤ 2147483647) (N : Nat) {μ' : Mm} (k18 : Int → Int → Int → Int → Int → Mm → Rs) (hk18 : ∀ (x1 x2 x3 bc bs : Int) (μ : Mm), k18 x1 x2 x3 bc bs μ = some (1, μ') → R32 x3 → ∀ (H : Heap) (locs : List Loc) (ls : Array Slot) (cells slots : Nat), (cells : Int) + bc ≤ 600000 ∧ 0 ≤ bc ∧ (slots : Int) + bs ≤ 7302250 ∧ 0 ≤ bs → MS E μ s H locs → lv_has ls 4 [(0, .ref b), (1, vr E x1), (2, vr E x2), (3, vi x3)] → W p l e room_1 s m #[Value.ref b] below meth c H locs cells slots (lw_Z below #[Value.ref b] s) (F0 m 18 ls [])) : ∀ (x1 x2 x3 bc bs : Int) (μ : Mm), f_L_law_b512 (fun i => (xs i.toNat).toInt) (L : Int) N k18 x1 x2 x3 bc bs μ = some (1, μ') → R32 x3 → ∀ (H : Heap) (locs : List Loc) (ls : Array Slot) (cells slots : Nat), (cells : Int) + bc ≤ 600000 ∧ 0 ≤ bc ∧ (slots : Int) + bs ≤ 7302250 ∧ 0 ≤ bs → MS E μ s H locs → lv_has ls 4 [(0, .ref b), (1, vr E x1), (2, vr E x2), (3, vi x3)] → W p l e room_1 s m #[Value.ref b] below meth c H locs cells slots (lw_Z below #[Value.ref b] s) (F0 m 512 ls []) := by
  have hsc : ∀ i : Int, R32 ((fun i : Int => (xs i.toNat).toInt) i) := fun i => R32_of _
  have hsl : R32 (L : Int) := ⟨by omega, by omega⟩
  intro x1 x2 x3 bc bs μ h rx3 H locs ls cells slots hb hM hl
  unfold f_L_law_b512 at h
  refine m_aload_n (pc := 512) C dL_law_512 rfl (lv_at hl 1 rfl) ?_
  refine m_sload (pc := 513) C dL_law_513 rfl (lv_at hl 0 rfl) ?_
  refine m_iload_n (pc := 514) C dL_law_514 rfl (lv_at hl 3 rfl) ?_
  refine m_iconst (pc := 515) C dL_law_515 ?_
  obtain ⟨a1, ea1, h⟩ := nm_some h
  have ra1 : R32 a1 := by rw [ea1]; exact w32_R _
  refine m_iadd (pc := 516) C dL_law_516 ea1 ?_
  obtain ⟨q2, h⟩ := ck_some h
  refine m_sald (pc := 517) C hM hX hbl hE hLn q2.1 q2.2 dL_law_517 ?_
  obtain ⟨q3, h⟩ := ck_some h
  obtain ⟨a4, μ5, ca4, h⟩ := bd_some h
  refine V_X7_prove (pc := 518) C hM ca4 (hsc _) q3 bw_3_4 ⟨Nat.le_of_ble_eq_true rfl, Nat.le_of_ble_eq_true rfl⟩ hl.1 rc0 ⟨by show _ + 0 ≤ 600000; omega, by show _ + 0 ≤ 7302250; omega⟩ dL_law_518 (fun ra4 H locs hM => ?_)
  refine m_aload_n (pc := 521) C dL_law_521 rfl (lv_at hl 2 rfl) ?_
  refine m_sload (pc := 522) C dL_law_522 rfl (lv_at hl 0 rfl) ?_
  refine m_iload_n (pc := 523) C dL_law_523 rfl (lv_at hl 3 rfl) ?_
  refine m_iconst (pc := 524) C dL_law_524 ?_
  obtain ⟨a6, ea6, h⟩ := nm_some h
  have ra6 : R32 a6 := by rw [ea6]; exact w32_R _
  refine m_iadd (pc := 525) C dL_law_525 ea6 ?_
  obtain ⟨q7, h⟩ := ck_some h
  refine m_sald (pc := 526) C hM hX hbl hE hLn q7.1 q7.2 dL_law_526 ?_
  obtain ⟨q8, h⟩ := ck_some h
  obtain ⟨a9, μ10, ca9, h⟩ := bd_some h
  refine V_X8_prove (pc := 527) C hM ca9 (hsc _) q8 bw_5_223 ⟨Nat.le_of_ble_eq_true rfl, Nat.le_of_ble_eq_true rfl⟩ hl.1 (rcI rc0) ⟨by show _ + 0 ≤ 600000; omega, by show _ + 0 ≤ 7302250; omega⟩ dL_law_527 (fun ra9 H locs hM => ?_)
  refine m_icmp_eq (tgt := 1029) (pc := 530) C ra4 ra9 dL_law_530 (by decide) (fun c11 => ?_) (fun c11 => ?_)
  · have h := if_t h c11
    exact k_L_law_b1029 C hX hbl hE hLn N _ hk18 _ _ _ _ _ _ h rx3 _ _ _ _ _ hb hM (lv_sub hl [0, 1, 2, 3] rfl)
  · have h := if_f h c11
    refine m_iconst (pc := 533) C dL_law_533 ?_
    simp at h
set_option maxHeartbeats 4000000 in
set_option maxRecDepth 100000 in
theorem k_L_law_b535 (C : gCx p s m #[Value.ref b] meth c code 4 ret nmm R_law) (hX : va_X b L xs s s.heap) (hbl : b < s.heap.size) (hE : E.2.2.1 = s.heap.size) (hLn : L ≤ 2147483647) (N : Nat) {μ' : Mm} (k18 : Int → Int → Int → Int → Int → Mm → Rs) (hk18 : ∀ (x1 x2 x3 bc bs : Int) (μ : Mm), k18 x1 x2 x3 bc bs μ = some (1, μ') → R32 x3 → ∀ (H : Heap) (locs : List Loc) (ls : Array Slot) (cells slots : Nat), (cells : Int) + bc ≤ 600000 ∧ 0 ≤ bc ∧ (slots : Int) + bs ≤ 7302250 ∧ 0 ≤ bs → MS E μ s H locs → lv_has ls 4 [(0, .ref b), (1, vr E x1), (2, vr E x2), (3, vi x3)] → W p l e room_1 s m #[Value.ref b] below meth c H locs cells slots (lw_Z below #[Value.ref b] s) (F0 m 18 ls [])) : ∀ (x1 x2 x3 bc bs : Int) (μ : Mm), f_L_law_b535 (fun i => (xs i.toNat).toInt) (L : Int) N k18 x1 x2 x3 bc bs μ = some (1, μ') → R32 x3 → ∀ (H : Heap) (locs : List Loc) (ls : Array Slot) (cells slots : Nat), (cells : Int) + bc ≤ 600000 ∧ 0 ≤ bc ∧ (slots : Int) + bs ≤ 7302250 ∧ 0 ≤ bs → MS E μ s H locs → lv_has ls 4 [(0, .ref b), (1, vr E x1), (2, vr E x2), (3, vi x3)] → W p l e room_1 s m #[Value.ref b] below meth c H locs cells slots (lw_Z below #[Value.ref b] s) (F0 m 535 ls []) := by
  have hsc : ∀ i : Int, R32 ((fun i : Int => (xs i.toNat).toInt) i) := fun i => R32_of _
  have hsl : R32 (L : Int) := ⟨by omega, by omega⟩
  intro x1 x2 x3 bc bs μ h rx3 H locs ls cells slots hb hM hl
  unfold f_L_law_b535 at h
  refine m_aload_n (pc := 535) C dL_law_535 rfl (lv_at hl 1 rfl) ?_
  refine m_sload (pc := 536) C dL_law_536 rfl (lv_at hl 0 rfl) ?_
  refine m_iload_n (pc := 537) C dL_law_537 rfl (lv_at hl 3 rfl) ?_
  refine m_iconst (pc := 538) C dL_law_538 ?_
  obtain ⟨a1, ea1, h⟩ := nm_some h
  have ra1 : R32 a1 := by rw [ea1]; exact w32_R _
  refine m_iadd (pc := 539) C dL_law_539 ea1 ?_
  obtain ⟨q2, h⟩ := ck_some h
  refine m_sald (pc := 540) C hM hX hbl hE hLn q2.1 q2.2 dL_law_540 ?_
  refine m_sload (pc := 541) C dL_law_541 rfl (lv_at hl 0 rfl) ?_
  refine m_iload_n (pc := 542) C dL_law_542 rfl (lv_at hl 3 rfl) ?_
  refine m_iconst (pc := 543) C dL_law_543 ?_
  obtain ⟨a3, ea3, h⟩ := nm_some h
  have ra3 : R32 a3 := by rw [ea3]; exact w32_R _
  refine m_iadd (pc := 544) C dL_law_544 ea3 ?_
  obtain ⟨q4, h⟩ := ck_some h
  refine m_sald (pc := 545) C hM hX hbl hE hLn q4.1 q4.2 dL_law_545 ?_
  obtain ⟨q5, h⟩ := ck_some h
  obtain ⟨a6, μ7, ca6, h⟩ := bd_some h
  refine V_X7_destroy (pc := 546) C hM ca6 (hsc _) (hsc _) q5 bw_3_20 ⟨Nat.le_of_ble_eq_true rfl, Nat.le_of_ble_eq_true rfl⟩ hl.1 rc0 ⟨by show _ + 0 ≤ 600000; omega, by show _ + 0 ≤ 7302250; omega⟩ dL_law_546 (fun ra6 H locs hM => ?_)
  refine m_aload_n (pc := 549) C dL_law_549 rfl (lv_at hl 2 rfl) ?_
  refine m_sload (pc := 550) C dL_law_550 rfl (lv_at hl 0 rfl) ?_
  refine m_iload_n (pc := 551) C dL_law_551 rfl (lv_at hl 3 rfl) ?_
  refine m_iconst (pc := 552) C dL_law_552 ?_
  obtain ⟨a8, ea8, h⟩ := nm_some h
  have ra8 : R32 a8 := by rw [ea8]; exact w32_R _
  refine m_iadd (pc := 553) C dL_law_553 ea8 ?_
  obtain ⟨q9, h⟩ := ck_some h
  refine m_sald (pc := 554) C hM hX hbl hE hLn q9.1 q9.2 dL_law_554 ?_
  refine m_sload (pc := 555) C dL_law_555 rfl (lv_at hl 0 rfl) ?_
  refine m_iload_n (pc := 556) C dL_law_556 rfl (lv_at hl 3 rfl) ?_
  refine m_iconst (pc := 557) C dL_law_557 ?_
  obtain ⟨a10, ea10, h⟩ := nm_some h
  have ra10 : R32 a10 := by rw [ea10]; exact w32_R _
  refine m_iadd (pc := 558) C dL_law_558 ea10 ?_
  obtain ⟨q11, h⟩ := ck_some h
  refine m_sald (pc := 559) C hM hX hbl hE hLn q11.1 q11.2 dL_law_559 ?_
  obtain ⟨q12, h⟩ := ck_some h
  obtain ⟨a13, μ14, ca13, h⟩ := bd_some h
  refine V_X8_destroy (pc := 560) C hM ca13 (hsc _) (hsc _) q12 bw_5_239 ⟨Nat.le_of_ble_eq_true rfl, Nat.le_of_ble_eq_true rfl⟩ hl.1 (rcI rc0) ⟨by show _ + 0 ≤ 600000; omega, by show _ + 0 ≤ 7302250; omega⟩ dL_law_560 (fun ra13 H locs hM => ?_)
  refine m_icmp_eq (tgt := 1029) (pc := 563) C ra6 ra13 dL_law_563 (by decide) (fun c15 => ?_) (fun c15 => ?_)
  · have h := if_t h c15
    exact k_L_law_b1029 C hX hbl hE hLn N _ hk18 _ _ _ _ _ _ h rx3 _ _ _ _ _ hb hM (lv_sub hl [0, 1, 2, 3] rfl)
  · have h := if_f h c15
    refine m_iconst (pc := 566) C dL_law_566 ?_
    simp at h
set_option maxHeartbeats 4000000 in
set_option maxRecDepth 100000 in
theorem k_L_law_b568 (C : gCx p s m #[Value.ref b] meth c code 4 ret nmm R_law) (hX : va_X b L xs s s.heap) (hbl : b < s.heap.size) (hE : E.2.2.1 = s.heap.size) (hLn : L ≤ 2147483647) (N : Nat) {μ' : Mm} (k18 : Int → Int → Int → Int → Int → Mm → Rs) (hk18 : ∀ (x1 x2 x3 bc bs : Int) (μ : Mm), k18 x1 x2 x3 bc bs μ = some (1, μ') → R32 x3 → ∀ (H : Heap) (locs : List Loc) (ls : Array Slot) (cells slots : Nat), (cells : Int) + bc ≤ 600000 ∧ 0 ≤ bc ∧ (slots : Int) + bs ≤ 7302250 ∧ 0 ≤ bs → MS E μ s H locs → lv_has ls 4 [(0, .ref b), (1, vr E x1), (2, vr E x2), (3, vi x3)] → W p l e room_1 s m #[Value.ref b] below meth c H locs cells slots (lw_Z below #[Value.ref b] s) (F0 m 18 ls [])) : ∀ (x1 x2 x3 bc bs : Int) (μ : Mm), f_L_law_b568 (fun i => (xs i.toNat).toInt) (L : Int) N k18 x1 x2 x3 bc bs μ = some (1, μ') → R32 x3 → ∀ (H : Heap) (locs : List Loc) (ls : Array Slot) (cells slots : Nat), (cells : Int) + bc ≤ 600000 ∧ 0 ≤ bc ∧ (slots : Int) + bs ≤ 7302250 ∧ 0 ≤ bs → MS E μ s H locs → lv_has ls 4 [(0, .ref b), (1, vr E x1), (2, vr E x2), (3, vi x3)] → W p l e room_1 s m #[Value.ref b] below meth c H locs cells slots (lw_Z below #[Value.ref b] s) (F0 m 568 ls []) := by
  have hsc : ∀ i : Int, R32 ((fun i : Int => (xs i.toNat).toInt) i) := fun i => R32_of _
  have hsl : R32 (L : Int) := ⟨by omega, by omega⟩
  intro x1 x2 x3 bc bs μ h rx3 H locs ls cells slots hb hM hl
  unfold f_L_law_b568 at h
  refine m_aload_n (pc := 568) C dL_law_568 rfl (lv_at hl 1 rfl) ?_
  refine m_sload (pc := 569) C dL_law_569 rfl (lv_at hl 0 rfl) ?_
  refine m_iload_n (pc := 570) C dL_law_570 rfl (lv_at hl 3 rfl) ?_
  refine m_iconst (pc := 571) C dL_law_571 ?_
  obtain ⟨a1, ea1, h⟩ := nm_some h
  have ra1 : R32 a1 := by rw [ea1]; exact w32_R _
  refine m_iadd (pc := 572) C dL_law_572 ea1 ?_
  obtain ⟨q2, h⟩ := ck_some h
  refine m_sald (pc := 573) C hM hX hbl hE hLn q2.1 q2.2 dL_law_573 ?_
  refine m_sload (pc := 574) C dL_law_574 rfl (lv_at hl 0 rfl) ?_
  refine m_iload_n (pc := 575) C dL_law_575 rfl (lv_at hl 3 rfl) ?_
  refine m_iconst (pc := 576) C dL_law_576 ?_
  obtain ⟨a3, ea3, h⟩ := nm_some h
  have ra3 : R32 a3 := by rw [ea3]; exact w32_R _
  refine m_iadd (pc := 577) C dL_law_577 ea3 ?_
  obtain ⟨q4, h⟩ := ck_some h
  refine m_sald (pc := 578) C hM hX hbl hE hLn q4.1 q4.2 dL_law_578 ?_
  obtain ⟨q5, h⟩ := ck_some h
  obtain ⟨a6, μ7, ca6, h⟩ := bd_some h
  refine V_X7_give (pc := 579) C hM ca6 (hsc _) (hsc _) q5 bw_3_28 ⟨Nat.le_of_ble_eq_true rfl, Nat.le_of_ble_eq_true rfl⟩ hl.1 rc0 ⟨by show _ + 0 ≤ 600000; omega, by show _ + 0 ≤ 7302250; omega⟩ dL_law_579 (fun ra6 H locs hM => ?_)
  refine m_aload_n (pc := 582) C dL_law_582 rfl (lv_at hl 2 rfl) ?_
  refine m_sload (pc := 583) C dL_law_583 rfl (lv_at hl 0 rfl) ?_
  refine m_iload_n (pc := 584) C dL_law_584 rfl (lv_at hl 3 rfl) ?_
  refine m_iconst (pc := 585) C dL_law_585 ?_
  obtain ⟨a8, ea8, h⟩ := nm_some h
  have ra8 : R32 a8 := by rw [ea8]; exact w32_R _
  refine m_iadd (pc := 586) C dL_law_586 ea8 ?_
  obtain ⟨q9, h⟩ := ck_some h
  refine m_sald (pc := 587) C hM hX hbl hE hLn q9.1 q9.2 dL_law_587 ?_
  refine m_sload (pc := 588) C dL_law_588 rfl (lv_at hl 0 rfl) ?_
  refine m_iload_n (pc := 589) C dL_law_589 rfl (lv_at hl 3 rfl) ?_
  refine m_iconst (pc := 590) C dL_law_590 ?_
  obtain ⟨a10, ea10, h⟩ := nm_some h
  have ra10 : R32 a10 := by rw [ea10]; exact w32_R _
  refine m_iadd (pc := 591) C dL_law_591 ea10 ?_
  obtain ⟨q11, h⟩ := ck_some h
  refine m_sald (pc := 592) C hM hX hbl hE hLn q11.1 q11.2 dL_law_592 ?_
  obtain ⟨q12, h⟩ := ck_some h
  obtain ⟨a13, μ14, ca13, h⟩ := bd_some h
  refine V_X8_give (pc := 593) C hM ca13 (hsc _) (hsc _) q12 bw_6_11 ⟨Nat.le_of_ble_eq_true rfl, Nat.le_of_ble_eq_true rfl⟩ hl.1 (rcI rc0) ⟨by show _ + 0 ≤ 600000; omega, by show _ + 0 ≤ 7302250; omega⟩ dL_law_593 (fun ra13 H locs hM => ?_)
  refine m_icmp_eq (tgt := 1029) (pc := 596) C ra6 ra13 dL_law_596 (by decide) (fun c15 => ?_) (fun c15 => ?_)
  · have h := if_t h c15
    exact k_L_law_b1029 C hX hbl hE hLn N _ hk18 _ _ _ _ _ _ h rx3 _ _ _ _ _ hb hM (lv_sub hl [0, 1, 2, 3] rfl)
  · have h := if_f h c15
    refine m_iconst (pc := 599) C dL_law_599 ?_
    simp at h
set_option maxHeartbeats 4000000 in
set_option maxRecDepth 100000 in
theorem k_L_law_b601 (C : gCx p s m #[Value.ref b] meth c code 4 ret nmm R_law) (hX : va_X b L xs s s.heap) (hbl : b < s.heap.size) (hE : E.2.2.1 = s.heap.size) (hLn : L ≤ 2147483647) (N : Nat) {μ' : Mm} (k18 : Int → Int → Int → Int → Int → Mm → Rs) (hk18 : ∀ (x1 x2 x3 bc bs : Int) (μ : Mm), k18 x1 x2 x3 bc bs μ = some (1, μ') → R32 x3 → ∀ (H : Heap) (locs : List Loc) (ls : Array Slot) (cells slots : Nat), (cells : Int) + bc ≤ 600000 ∧ 0 ≤ bc ∧ (slots : Int) + bs ≤ 7302250 ∧ 0 ≤ bs → MS E μ s H locs → lv_has ls 4 [(0, .ref b), (1, vr E x1), (2, vr E x2), (3, vi x3)] → W p l e room_1 s m #[Value.ref b] below meth c H locs cells slots (lw_Z below #[Value.ref b] s) (F0 m 18 ls [])) : ∀ (x1 x2 x3 bc bs : Int) (μ : Mm), f_L_law_b601 (fun i => (xs i.toNat).toInt) (L : Int) N k18 x1 x2 x3 bc bs μ = some (1, μ') → R32 x3 → ∀ (H : Heap) (locs : List Loc) (ls : Array Slot) (cells slots : Nat), (cells : Int) + bc ≤ 600000 ∧ 0 ≤ bc ∧ (slots : Int) + bs ≤ 7302250 ∧ 0 ≤ bs → MS E μ s H locs → lv_has ls 4 [(0, .ref b), (1, vr E x1), (2, vr E x2), (3, vi x3)] → W p l e room_1 s m #[Value.ref b] below meth c H locs cells slots (lw_Z below #[Value.ref b] s) (F0 m 601 ls []) := by
  have hsc : ∀ i : Int, R32 ((fun i : Int => (xs i.toNat).toInt) i) := fun i => R32_of _
  have hsl : R32 (L : Int) := ⟨by omega, by omega⟩
  intro x1 x2 x3 bc bs μ h rx3 H locs ls cells slots hb hM hl
  unfold f_L_law_b601 at h
  refine m_aload_n (pc := 601) C dL_law_601 rfl (lv_at hl 1 rfl) ?_
  refine m_sload (pc := 602) C dL_law_602 rfl (lv_at hl 0 rfl) ?_
  refine m_iload_n (pc := 603) C dL_law_603 rfl (lv_at hl 3 rfl) ?_
  refine m_iconst (pc := 604) C dL_law_604 ?_
  obtain ⟨a1, ea1, h⟩ := nm_some h
  have ra1 : R32 a1 := by rw [ea1]; exact w32_R _
  refine m_iadd (pc := 605) C dL_law_605 ea1 ?_
  obtain ⟨q2, h⟩ := ck_some h
  refine m_sald (pc := 606) C hM hX hbl hE hLn q2.1 q2.2 dL_law_606 ?_
  obtain ⟨q3, h⟩ := ck_some h
  obtain ⟨a4, μ5, ca4, h⟩ := bd_some h
  refine V_X7_pass (pc := 607) C hM ca4 (hsc _) q3 bw_3_37 ⟨Nat.le_of_ble_eq_true rfl, Nat.le_of_ble_eq_true rfl⟩ hl.1 rc0 ⟨by show _ + 0 ≤ 600000; omega, by show _ + 0 ≤ 7302250; omega⟩ dL_law_607 (fun ra4 H locs hM => ?_)
  refine m_aload_n (pc := 610) C dL_law_610 rfl (lv_at hl 2 rfl) ?_
  refine m_sload (pc := 611) C dL_law_611 rfl (lv_at hl 0 rfl) ?_
  refine m_iload_n (pc := 612) C dL_law_612 rfl (lv_at hl 3 rfl) ?_
  refine m_iconst (pc := 613) C dL_law_613 ?_
  obtain ⟨a6, ea6, h⟩ := nm_some h
  have ra6 : R32 a6 := by rw [ea6]; exact w32_R _
  refine m_iadd (pc := 614) C dL_law_614 ea6 ?_
  obtain ⟨q7, h⟩ := ck_some h
  refine m_sald (pc := 615) C hM hX hbl hE hLn q7.1 q7.2 dL_law_615 ?_
  obtain ⟨q8, h⟩ := ck_some h
  obtain ⟨a9, μ10, ca9, h⟩ := bd_some h
  refine V_X8_pass (pc := 616) C hM ca9 (hsc _) q8 bw_6_23 ⟨Nat.le_of_ble_eq_true rfl, Nat.le_of_ble_eq_true rfl⟩ hl.1 (rcI rc0) ⟨by show _ + 0 ≤ 600000; omega, by show _ + 0 ≤ 7302250; omega⟩ dL_law_616 (fun ra9 H locs hM => ?_)
  refine m_icmp_eq (tgt := 1029) (pc := 619) C ra4 ra9 dL_law_619 (by decide) (fun c11 => ?_) (fun c11 => ?_)
  · have h := if_t h c11
    exact k_L_law_b1029 C hX hbl hE hLn N _ hk18 _ _ _ _ _ _ h rx3 _ _ _ _ _ hb hM (lv_sub hl [0, 1, 2, 3] rfl)
  · have h := if_f h c11
    refine m_iconst (pc := 622) C dL_law_622 ?_
    simp at h
set_option maxHeartbeats 4000000 in
set_option maxRecDepth 100000 in
theorem k_L_law_b624 (C : gCx p s m #[Value.ref b] meth c code 4 ret nmm R_law) (hX : va_X b L xs s s.heap) (hbl : b < s.heap.size) (hE : E.2.2.1 = s.heap.size) (hLn : L ≤ 2147483647) (N : Nat) {μ' : Mm} (k18 : Int → Int → Int → Int → Int → Mm → Rs) (hk18 : ∀ (x1 x2 x3 bc bs : Int) (μ : Mm), k18 x1 x2 x3 bc bs μ = some (1, μ') → R32 x3 → ∀ (H : Heap) (locs : List Loc) (ls : Array Slot) (cells slots : Nat), (cells : Int) + bc ≤ 600000 ∧ 0 ≤ bc ∧ (slots : Int) + bs ≤ 7302250 ∧ 0 ≤ bs → MS E μ s H locs → lv_has ls 4 [(0, .ref b), (1, vr E x1), (2, vr E x2), (3, vi x3)] → W p l e room_1 s m #[Value.ref b] below meth c H locs cells slots (lw_Z below #[Value.ref b] s) (F0 m 18 ls [])) : ∀ (x1 x2 x3 bc bs : Int) (μ : Mm), f_L_law_b624 (fun i => (xs i.toNat).toInt) (L : Int) N k18 x1 x2 x3 bc bs μ = some (1, μ') → R32 x3 → ∀ (H : Heap) (locs : List Loc) (ls : Array Slot) (cells slots : Nat), (cells : Int) + bc ≤ 600000 ∧ 0 ≤ bc ∧ (slots : Int) + bs ≤ 7302250 ∧ 0 ≤ bs → MS E μ s H locs → lv_has ls 4 [(0, .ref b), (1, vr E x1), (2, vr E x2), (3, vi x3)] → W p l e room_1 s m #[Value.ref b] below meth c H locs cells slots (lw_Z below #[Value.ref b] s) (F0 m 624 ls []) := by
  have hsc : ∀ i : Int, R32 ((fun i : Int => (xs i.toNat).toInt) i) := fun i => R32_of _
  have hsl : R32 (L : Int) := ⟨by omega, by omega⟩
  intro x1 x2 x3 bc bs μ h rx3 H locs ls cells slots hb hM hl
  unfold f_L_law_b624 at h
  refine m_aload_n (pc := 624) C dL_law_624 rfl (lv_at hl 1 rfl) ?_
  refine m_sload (pc := 625) C dL_law_625 rfl (lv_at hl 0 rfl) ?_
  refine m_iload_n (pc := 626) C dL_law_626 rfl (lv_at hl 3 rfl) ?_
  refine m_iconst (pc := 627) C dL_law_627 ?_
  obtain ⟨a1, ea1, h⟩ := nm_some h
  have ra1 : R32 a1 := by rw [ea1]; exact w32_R _
  refine m_iadd (pc := 628) C dL_law_628 ea1 ?_
  obtain ⟨q2, h⟩ := ck_some h
  refine m_sald (pc := 629) C hM hX hbl hE hLn q2.1 q2.2 dL_law_629 ?_
  obtain ⟨a3, ea3, h⟩ := nm_some h
  have ra3 : R32 a3 := by rw [ea3]; exact R32_of _
  refine m_i2c (pc := 630) C dL_law_630 ea3 ?_
  obtain ⟨q4, h⟩ := ck_some h
  obtain ⟨a5, μ6, ca5, h⟩ := bd_some h
  refine V_X7_type (pc := 631) C hM ca5 ra3 q4 bw_3_73 ⟨Nat.le_of_ble_eq_true rfl, Nat.le_of_ble_eq_true rfl⟩ hl.1 rc0 ⟨by show _ + 0 ≤ 600000; omega, by show _ + 0 ≤ 7302250; omega⟩ dL_law_631 (fun ra5 H locs hM => ?_)
  refine m_aload_n (pc := 634) C dL_law_634 rfl (lv_at hl 2 rfl) ?_
  refine m_sload (pc := 635) C dL_law_635 rfl (lv_at hl 0 rfl) ?_
  refine m_iload_n (pc := 636) C dL_law_636 rfl (lv_at hl 3 rfl) ?_
  refine m_iconst (pc := 637) C dL_law_637 ?_
  obtain ⟨a7, ea7, h⟩ := nm_some h
  have ra7 : R32 a7 := by rw [ea7]; exact w32_R _
  refine m_iadd (pc := 638) C dL_law_638 ea7 ?_
  obtain ⟨q8, h⟩ := ck_some h
  refine m_sald (pc := 639) C hM hX hbl hE hLn q8.1 q8.2 dL_law_639 ?_
  obtain ⟨a9, ea9, h⟩ := nm_some h
  have ra9 : R32 a9 := by rw [ea9]; exact R32_of _
  refine m_i2c (pc := 640) C dL_law_640 ea9 ?_
  obtain ⟨q10, h⟩ := ck_some h
  obtain ⟨a11, μ12, ca11, h⟩ := bd_some h
  refine V_X8_type (pc := 641) C hM ca11 ra9 q10 bw_6_36 ⟨Nat.le_of_ble_eq_true rfl, Nat.le_of_ble_eq_true rfl⟩ hl.1 (rcI rc0) ⟨by show _ + 0 ≤ 600000; omega, by show _ + 0 ≤ 7302250; omega⟩ dL_law_641 (fun ra11 H locs hM => ?_)
  refine m_icmp_eq (tgt := 1029) (pc := 644) C ra5 ra11 dL_law_644 (by decide) (fun c13 => ?_) (fun c13 => ?_)
  · have h := if_t h c13
    exact k_L_law_b1029 C hX hbl hE hLn N _ hk18 _ _ _ _ _ _ h rx3 _ _ _ _ _ hb hM (lv_sub hl [0, 1, 2, 3] rfl)
  · have h := if_f h c13
    refine m_iconst (pc := 647) C dL_law_647 ?_
    simp at h
set_option maxHeartbeats 4000000 in
set_option maxRecDepth 100000 in
theorem k_L_law_b649 (C : gCx p s m #[Value.ref b] meth c code 4 ret nmm R_law) (hX : va_X b L xs s s.heap) (hbl : b < s.heap.size) (hE : E.2.2.1 = s.heap.size) (hLn : L ≤ 2147483647) (N : Nat) {μ' : Mm} (k18 : Int → Int → Int → Int → Int → Mm → Rs) (hk18 : ∀ (x1 x2 x3 bc bs : Int) (μ : Mm), k18 x1 x2 x3 bc bs μ = some (1, μ') → R32 x3 → ∀ (H : Heap) (locs : List Loc) (ls : Array Slot) (cells slots : Nat), (cells : Int) + bc ≤ 600000 ∧ 0 ≤ bc ∧ (slots : Int) + bs ≤ 7302250 ∧ 0 ≤ bs → MS E μ s H locs → lv_has ls 4 [(0, .ref b), (1, vr E x1), (2, vr E x2), (3, vi x3)] → W p l e room_1 s m #[Value.ref b] below meth c H locs cells slots (lw_Z below #[Value.ref b] s) (F0 m 18 ls [])) : ∀ (x1 x2 x3 bc bs : Int) (μ : Mm), f_L_law_b649 (fun i => (xs i.toNat).toInt) (L : Int) N k18 x1 x2 x3 bc bs μ = some (1, μ') → R32 x3 → ∀ (H : Heap) (locs : List Loc) (ls : Array Slot) (cells slots : Nat), (cells : Int) + bc ≤ 600000 ∧ 0 ≤ bc ∧ (slots : Int) + bs ≤ 7302250 ∧ 0 ≤ bs → MS E μ s H locs → lv_has ls 4 [(0, .ref b), (1, vr E x1), (2, vr E x2), (3, vi x3)] → W p l e room_1 s m #[Value.ref b] below meth c H locs cells slots (lw_Z below #[Value.ref b] s) (F0 m 649 ls []) := by
  have hsc : ∀ i : Int, R32 ((fun i : Int => (xs i.toNat).toInt) i) := fun i => R32_of _
  have hsl : R32 (L : Int) := ⟨by omega, by omega⟩
  intro x1 x2 x3 bc bs μ h rx3 H locs ls cells slots hb hM hl
  unfold f_L_law_b649 at h
  refine m_aload_n (pc := 649) C dL_law_649 rfl (lv_at hl 1 rfl) ?_
  obtain ⟨q1, h⟩ := ck_some h
  obtain ⟨a2, μ3, ca2, h⟩ := bd_some h
  refine V_X7_clearText (pc := 650) C hM ca2 q1 bw_3_81 ⟨Nat.le_of_ble_eq_true rfl, Nat.le_of_ble_eq_true rfl⟩ hl.1 rc0 ⟨by show _ + 0 ≤ 600000; omega, by show _ + 0 ≤ 7302250; omega⟩ dL_law_650 (fun ra2 H locs hM => ?_)
  refine m_aload_n (pc := 653) C dL_law_653 rfl (lv_at hl 2 rfl) ?_
  obtain ⟨q4, h⟩ := ck_some h
  obtain ⟨a5, μ6, ca5, h⟩ := bd_some h
  refine V_X8_clearText (pc := 654) C hM ca5 q4 bw_6_40 ⟨Nat.le_of_ble_eq_true rfl, Nat.le_of_ble_eq_true rfl⟩ hl.1 (rcI rc0) ⟨by show _ + 0 ≤ 600000; omega, by show _ + 0 ≤ 7302250; omega⟩ dL_law_654 (fun ra5 H locs hM => ?_)
  refine m_icmp_eq (tgt := 1029) (pc := 657) C ra2 ra5 dL_law_657 (by decide) (fun c7 => ?_) (fun c7 => ?_)
  · have h := if_t h c7
    exact k_L_law_b1029 C hX hbl hE hLn N _ hk18 _ _ _ _ _ _ h rx3 _ _ _ _ _ hb hM (lv_sub hl [0, 1, 2, 3] rfl)
  · have h := if_f h c7
    refine m_iconst (pc := 660) C dL_law_660 ?_
    simp at h
set_option maxHeartbeats 4000000 in
set_option maxRecDepth 100000 in
theorem k_L_law_b662 (C : gCx p s m #[Value.ref b] meth c code 4 ret nmm R_law) (hX : va_X b L xs s s.heap) (hbl : b < s.heap.size) (hE : E.2.2.1 = s.heap.size) (hLn : L ≤ 2147483647) (N : Nat) {μ' : Mm} (k18 : Int → Int → Int → Int → Int → Mm → Rs) (hk18 : ∀ (x1 x2 x3 bc bs : Int) (μ : Mm), k18 x1 x2 x3 bc bs μ = some (1, μ') → R32 x3 → ∀ (H : Heap) (locs : List Loc) (ls : Array Slot) (cells slots : Nat), (cells : Int) + bc ≤ 600000 ∧ 0 ≤ bc ∧ (slots : Int) + bs ≤ 7302250 ∧ 0 ≤ bs → MS E μ s H locs → lv_has ls 4 [(0, .ref b), (1, vr E x1), (2, vr E x2), (3, vi x3)] → W p l e room_1 s m #[Value.ref b] below meth c H locs cells slots (lw_Z below #[Value.ref b] s) (F0 m 18 ls [])) : ∀ (x1 x2 x3 bc bs : Int) (μ : Mm), f_L_law_b662 (fun i => (xs i.toNat).toInt) (L : Int) N k18 x1 x2 x3 bc bs μ = some (1, μ') → R32 x3 → ∀ (H : Heap) (locs : List Loc) (ls : Array Slot) (cells slots : Nat), (cells : Int) + bc ≤ 600000 ∧ 0 ≤ bc ∧ (slots : Int) + bs ≤ 7302250 ∧ 0 ≤ bs → MS E μ s H locs → lv_has ls 4 [(0, .ref b), (1, vr E x1), (2, vr E x2), (3, vi x3)] → W p l e room_1 s m #[Value.ref b] below meth c H locs cells slots (lw_Z below #[Value.ref b] s) (F0 m 662 ls []) := by
  have hsc : ∀ i : Int, R32 ((fun i : Int => (xs i.toNat).toInt) i) := fun i => R32_of _
  have hsl : R32 (L : Int) := ⟨by omega, by omega⟩
  intro x1 x2 x3 bc bs μ h rx3 H locs ls cells slots hb hM hl
  unfold f_L_law_b662 at h
  refine m_aload_n (pc := 662) C dL_law_662 rfl (lv_at hl 1 rfl) ?_
  obtain ⟨q1, h⟩ := ck_some h
  obtain ⟨a2, μ3, ca2, h⟩ := bd_some h
  refine V_X7_runOrders (pc := 663) C hM ca2 q1 bw_3_85 ⟨Nat.le_of_ble_eq_true rfl, Nat.le_of_ble_eq_true rfl⟩ hl.1 rc0 ⟨by show _ + 0 ≤ 600000; omega, by show _ + 0 ≤ 7302250; omega⟩ dL_law_663 (fun ra2 H locs hM => ?_)
  refine m_aload_n (pc := 666) C dL_law_666 rfl (lv_at hl 2 rfl) ?_
  obtain ⟨q4, h⟩ := ck_some h
  obtain ⟨a5, μ6, ca5, h⟩ := bd_some h
  refine V_X8_runOrders (pc := 667) C hM ca5 q4 bw_6_44 ⟨Nat.le_of_ble_eq_true rfl, Nat.le_of_ble_eq_true rfl⟩ hl.1 (rcI rc0) ⟨by show _ + 0 ≤ 600000; omega, by show _ + 0 ≤ 7302250; omega⟩ dL_law_667 (fun ra5 H locs hM => ?_)
  refine m_icmp_eq (tgt := 1029) (pc := 670) C ra2 ra5 dL_law_670 (by decide) (fun c7 => ?_) (fun c7 => ?_)
  · have h := if_t h c7
    exact k_L_law_b1029 C hX hbl hE hLn N _ hk18 _ _ _ _ _ _ h rx3 _ _ _ _ _ hb hM (lv_sub hl [0, 1, 2, 3] rfl)
  · have h := if_f h c7
    refine m_iconst (pc := 673) C dL_law_673 ?_
    simp at h
set_option maxHeartbeats 4000000 in
set_option maxRecDepth 100000 in
theorem k_L_law_b675 (C : gCx p s m #[Value.ref b] meth c code 4 ret nmm R_law) (hX : va_X b L xs s s.heap) (hbl : b < s.heap.size) (hE : E.2.2.1 = s.heap.size) (hLn : L ≤ 2147483647) (N : Nat) {μ' : Mm} (k18 : Int → Int → Int → Int → Int → Mm → Rs) (hk18 : ∀ (x1 x2 x3 bc bs : Int) (μ : Mm), k18 x1 x2 x3 bc bs μ = some (1, μ') → R32 x3 → ∀ (H : Heap) (locs : List Loc) (ls : Array Slot) (cells slots : Nat), (cells : Int) + bc ≤ 600000 ∧ 0 ≤ bc ∧ (slots : Int) + bs ≤ 7302250 ∧ 0 ≤ bs → MS E μ s H locs → lv_has ls 4 [(0, .ref b), (1, vr E x1), (2, vr E x2), (3, vi x3)] → W p l e room_1 s m #[Value.ref b] below meth c H locs cells slots (lw_Z below #[Value.ref b] s) (F0 m 18 ls [])) : ∀ (x1 x2 x3 bc bs : Int) (μ : Mm), f_L_law_b675 (fun i => (xs i.toNat).toInt) (L : Int) N k18 x1 x2 x3 bc bs μ = some (1, μ') → R32 x3 → ∀ (H : Heap) (locs : List Loc) (ls : Array Slot) (cells slots : Nat), (cells : Int) + bc ≤ 600000 ∧ 0 ≤ bc ∧ (slots : Int) + bs ≤ 7302250 ∧ 0 ≤ bs → MS E μ s H locs → lv_has ls 4 [(0, .ref b), (1, vr E x1), (2, vr E x2), (3, vi x3)] → W p l e room_1 s m #[Value.ref b] below meth c H locs cells slots (lw_Z below #[Value.ref b] s) (F0 m 675 ls []) := by
  have hsc : ∀ i : Int, R32 ((fun i : Int => (xs i.toNat).toInt) i) := fun i => R32_of _
  have hsl : R32 (L : Int) := ⟨by omega, by omega⟩
  intro x1 x2 x3 bc bs μ h rx3 H locs ls cells slots hb hM hl
  unfold f_L_law_b675 at h
  refine m_aload_n (pc := 675) C dL_law_675 rfl (lv_at hl 1 rfl) ?_
  obtain ⟨q1, h⟩ := ck_some h
  obtain ⟨a2, μ3, ca2, h⟩ := bd_some h
  refine V_X7_undo (pc := 676) C hM ca2 q1 bw_3_212 ⟨Nat.le_of_ble_eq_true rfl, Nat.le_of_ble_eq_true rfl⟩ hl.1 rc0 ⟨by show _ + 0 ≤ 600000; omega, by show _ + 0 ≤ 7302250; omega⟩ dL_law_676 (fun ra2 H locs hM => ?_)
  refine m_aload_n (pc := 679) C dL_law_679 rfl (lv_at hl 2 rfl) ?_
  obtain ⟨q4, h⟩ := ck_some h
  obtain ⟨a5, μ6, ca5, h⟩ := bd_some h
  refine V_X8_undo (pc := 680) C hM ca5 q4 bw_5_34 ⟨Nat.le_of_ble_eq_true rfl, Nat.le_of_ble_eq_true rfl⟩ hl.1 (rcI rc0) ⟨by show _ + 0 ≤ 600000; omega, by show _ + 0 ≤ 7302250; omega⟩ dL_law_680 (fun ra5 H locs hM => ?_)
  refine m_icmp_eq (tgt := 1029) (pc := 683) C ra2 ra5 dL_law_683 (by decide) (fun c7 => ?_) (fun c7 => ?_)
  · have h := if_t h c7
    exact k_L_law_b1029 C hX hbl hE hLn N _ hk18 _ _ _ _ _ _ h rx3 _ _ _ _ _ hb hM (lv_sub hl [0, 1, 2, 3] rfl)
  · have h := if_f h c7
    refine m_iconst (pc := 686) C dL_law_686 ?_
    simp at h
set_option maxHeartbeats 4000000 in
set_option maxRecDepth 100000 in
theorem k_L_law_b688 (C : gCx p s m #[Value.ref b] meth c code 4 ret nmm R_law) (hX : va_X b L xs s s.heap) (hbl : b < s.heap.size) (hE : E.2.2.1 = s.heap.size) (hLn : L ≤ 2147483647) (N : Nat) {μ' : Mm} (k18 : Int → Int → Int → Int → Int → Mm → Rs) (hk18 : ∀ (x1 x2 x3 bc bs : Int) (μ : Mm), k18 x1 x2 x3 bc bs μ = some (1, μ') → R32 x3 → ∀ (H : Heap) (locs : List Loc) (ls : Array Slot) (cells slots : Nat), (cells : Int) + bc ≤ 600000 ∧ 0 ≤ bc ∧ (slots : Int) + bs ≤ 7302250 ∧ 0 ≤ bs → MS E μ s H locs → lv_has ls 4 [(0, .ref b), (1, vr E x1), (2, vr E x2), (3, vi x3)] → W p l e room_1 s m #[Value.ref b] below meth c H locs cells slots (lw_Z below #[Value.ref b] s) (F0 m 18 ls [])) : ∀ (x1 x2 x3 bc bs : Int) (μ : Mm), f_L_law_b688 (fun i => (xs i.toNat).toInt) (L : Int) N k18 x1 x2 x3 bc bs μ = some (1, μ') → R32 x3 → ∀ (H : Heap) (locs : List Loc) (ls : Array Slot) (cells slots : Nat), (cells : Int) + bc ≤ 600000 ∧ 0 ≤ bc ∧ (slots : Int) + bs ≤ 7302250 ∧ 0 ≤ bs → MS E μ s H locs → lv_has ls 4 [(0, .ref b), (1, vr E x1), (2, vr E x2), (3, vi x3)] → W p l e room_1 s m #[Value.ref b] below meth c H locs cells slots (lw_Z below #[Value.ref b] s) (F0 m 688 ls []) := by
  have hsc : ∀ i : Int, R32 ((fun i : Int => (xs i.toNat).toInt) i) := fun i => R32_of _
  have hsl : R32 (L : Int) := ⟨by omega, by omega⟩
  intro x1 x2 x3 bc bs μ h rx3 H locs ls cells slots hb hM hl
  unfold f_L_law_b688 at h
  refine m_aload_n (pc := 688) C dL_law_688 rfl (lv_at hl 1 rfl) ?_
  refine m_sload (pc := 689) C dL_law_689 rfl (lv_at hl 0 rfl) ?_
  refine m_iload_n (pc := 690) C dL_law_690 rfl (lv_at hl 3 rfl) ?_
  refine m_iconst (pc := 691) C dL_law_691 ?_
  obtain ⟨a1, ea1, h⟩ := nm_some h
  have ra1 : R32 a1 := by rw [ea1]; exact w32_R _
  refine m_iadd (pc := 692) C dL_law_692 ea1 ?_
  obtain ⟨q2, h⟩ := ck_some h
  refine m_sald (pc := 693) C hM hX hbl hE hLn q2.1 q2.2 dL_law_693 ?_
  obtain ⟨q3, h⟩ := ck_some h
  obtain ⟨a4, μ5, ca4, h⟩ := bd_some h
  refine V_X7_keep (pc := 694) C hM ca4 (hsc _) q3 bw_3_221 ⟨Nat.le_of_ble_eq_true rfl, Nat.le_of_ble_eq_true rfl⟩ hl.1 rc0 ⟨by show _ + 0 ≤ 600000; omega, by show _ + 0 ≤ 7302250; omega⟩ dL_law_694 (fun ra4 H locs hM => ?_)
  refine m_aload_n (pc := 697) C dL_law_697 rfl (lv_at hl 2 rfl) ?_
  refine m_sload (pc := 698) C dL_law_698 rfl (lv_at hl 0 rfl) ?_
  refine m_iload_n (pc := 699) C dL_law_699 rfl (lv_at hl 3 rfl) ?_
  refine m_iconst (pc := 700) C dL_law_700 ?_
  obtain ⟨a6, ea6, h⟩ := nm_some h
  have ra6 : R32 a6 := by rw [ea6]; exact w32_R _
  refine m_iadd (pc := 701) C dL_law_701 ea6 ?_
  obtain ⟨q7, h⟩ := ck_some h
  refine m_sald (pc := 702) C hM hX hbl hE hLn q7.1 q7.2 dL_law_702 ?_
  obtain ⟨q8, h⟩ := ck_some h
  obtain ⟨a9, μ10, ca9, h⟩ := bd_some h
  refine V_X8_keep (pc := 703) C hM ca9 (hsc _) q8 bw_5_39 ⟨Nat.le_of_ble_eq_true rfl, Nat.le_of_ble_eq_true rfl⟩ hl.1 (rcI rc0) ⟨by show _ + 0 ≤ 600000; omega, by show _ + 0 ≤ 7302250; omega⟩ dL_law_703 (fun ra9 H locs hM => ?_)
  refine m_icmp_eq (tgt := 1029) (pc := 706) C ra4 ra9 dL_law_706 (by decide) (fun c11 => ?_) (fun c11 => ?_)
  · have h := if_t h c11
    exact k_L_law_b1029 C hX hbl hE hLn N _ hk18 _ _ _ _ _ _ h rx3 _ _ _ _ _ hb hM (lv_sub hl [0, 1, 2, 3] rfl)
  · have h := if_f h c11
    refine m_iconst (pc := 709) C dL_law_709 ?_
    simp at h
set_option maxHeartbeats 4000000 in
set_option maxRecDepth 100000 in
theorem k_L_law_b711 (C : gCx p s m #[Value.ref b] meth c code 4 ret nmm R_law) (hX : va_X b L xs s s.heap) (hbl : b < s.heap.size) (hE : E.2.2.1 = s.heap.size) (hLn : L ≤ 2147483647) (N : Nat) {μ' : Mm} (k18 : Int → Int → Int → Int → Int → Mm → Rs) (hk18 : ∀ (x1 x2 x3 bc bs : Int) (μ : Mm), k18 x1 x2 x3 bc bs μ = some (1, μ') → R32 x3 → ∀ (H : Heap) (locs : List Loc) (ls : Array Slot) (cells slots : Nat), (cells : Int) + bc ≤ 600000 ∧ 0 ≤ bc ∧ (slots : Int) + bs ≤ 7302250 ∧ 0 ≤ bs → MS E μ s H locs → lv_has ls 4 [(0, .ref b), (1, vr E x1), (2, vr E x2), (3, vi x3)] → W p l e room_1 s m #[Value.ref b] below meth c H locs cells slots (lw_Z below #[Value.ref b] s) (F0 m 18 ls [])) : ∀ (x1 x2 x3 bc bs : Int) (μ : Mm), f_L_law_b711 (fun i => (xs i.toNat).toInt) (L : Int) N k18 x1 x2 x3 bc bs μ = some (1, μ') → R32 x3 → ∀ (H : Heap) (locs : List Loc) (ls : Array Slot) (cells slots : Nat), (cells : Int) + bc ≤ 600000 ∧ 0 ≤ bc ∧ (slots : Int) + bs ≤ 7302250 ∧ 0 ≤ bs → MS E μ s H locs → lv_has ls 4 [(0, .ref b), (1, vr E x1), (2, vr E x2), (3, vi x3)] → W p l e room_1 s m #[Value.ref b] below meth c H locs cells slots (lw_Z below #[Value.ref b] s) (F0 m 711 ls []) := by
  have hsc : ∀ i : Int, R32 ((fun i : Int => (xs i.toNat).toInt) i) := fun i => R32_of _
  have hsl : R32 (L : Int) := ⟨by omega, by omega⟩
  intro x1 x2 x3 bc bs μ h rx3 H locs ls cells slots hb hM hl
  unfold f_L_law_b711 at h
  refine m_aload_n (pc := 711) C dL_law_711 rfl (lv_at hl 1 rfl) ?_
  refine m_sload (pc := 712) C dL_law_712 rfl (lv_at hl 0 rfl) ?_
  refine m_iload_n (pc := 713) C dL_law_713 rfl (lv_at hl 3 rfl) ?_
  refine m_iconst (pc := 714) C dL_law_714 ?_
  obtain ⟨a1, ea1, h⟩ := nm_some h
  have ra1 : R32 a1 := by rw [ea1]; exact w32_R _
  refine m_iadd (pc := 715) C dL_law_715 ea1 ?_
  obtain ⟨q2, h⟩ := ck_some h
  refine m_sald (pc := 716) C hM hX hbl hE hLn q2.1 q2.2 dL_law_716 ?_
  obtain ⟨q3, h⟩ := ck_some h
  obtain ⟨a4, μ5, ca4, h⟩ := bd_some h
  refine V_X7_restore (pc := 717) C hM ca4 (hsc _) q3 bw_3_226 ⟨Nat.le_of_ble_eq_true rfl, Nat.le_of_ble_eq_true rfl⟩ hl.1 rc0 ⟨by show _ + 0 ≤ 600000; omega, by show _ + 0 ≤ 7302250; omega⟩ dL_law_717 (fun ra4 H locs hM => ?_)
  refine m_aload_n (pc := 720) C dL_law_720 rfl (lv_at hl 2 rfl) ?_
  refine m_sload (pc := 721) C dL_law_721 rfl (lv_at hl 0 rfl) ?_
  refine m_iload_n (pc := 722) C dL_law_722 rfl (lv_at hl 3 rfl) ?_
  refine m_iconst (pc := 723) C dL_law_723 ?_
  obtain ⟨a6, ea6, h⟩ := nm_some h
  have ra6 : R32 a6 := by rw [ea6]; exact w32_R _
  refine m_iadd (pc := 724) C dL_law_724 ea6 ?_
  obtain ⟨q7, h⟩ := ck_some h
  refine m_sald (pc := 725) C hM hX hbl hE hLn q7.1 q7.2 dL_law_725 ?_
  obtain ⟨q8, h⟩ := ck_some h
  obtain ⟨a9, μ10, ca9, h⟩ := bd_some h
  refine V_X8_restore (pc := 726) C hM ca9 (hsc _) q8 bw_5_51 ⟨Nat.le_of_ble_eq_true rfl, Nat.le_of_ble_eq_true rfl⟩ hl.1 (rcI rc0) ⟨by show _ + 0 ≤ 600000; omega, by show _ + 0 ≤ 7302250; omega⟩ dL_law_726 (fun ra9 H locs hM => ?_)
  refine m_icmp_eq (tgt := 1029) (pc := 729) C ra4 ra9 dL_law_729 (by decide) (fun c11 => ?_) (fun c11 => ?_)
  · have h := if_t h c11
    exact k_L_law_b1029 C hX hbl hE hLn N _ hk18 _ _ _ _ _ _ h rx3 _ _ _ _ _ hb hM (lv_sub hl [0, 1, 2, 3] rfl)
  · have h := if_f h c11
    refine m_iconst (pc := 732) C dL_law_732 ?_
    simp at h
set_option maxHeartbeats 4000000 in
set_option maxRecDepth 100000 in
theorem k_L_law_b734 (C : gCx p s m #[Value.ref b] meth c code 4 ret nmm R_law) (hX : va_X b L xs s s.heap) (hbl : b < s.heap.size) (hE : E.2.2.1 = s.heap.size) (hLn : L ≤ 2147483647) (N : Nat) {μ' : Mm} (k18 : Int → Int → Int → Int → Int → Mm → Rs) (hk18 : ∀ (x1 x2 x3 bc bs : Int) (μ : Mm), k18 x1 x2 x3 bc bs μ = some (1, μ') → R32 x3 → ∀ (H : Heap) (locs : List Loc) (ls : Array Slot) (cells slots : Nat), (cells : Int) + bc ≤ 600000 ∧ 0 ≤ bc ∧ (slots : Int) + bs ≤ 7302250 ∧ 0 ≤ bs → MS E μ s H locs → lv_has ls 4 [(0, .ref b), (1, vr E x1), (2, vr E x2), (3, vi x3)] → W p l e room_1 s m #[Value.ref b] below meth c H locs cells slots (lw_Z below #[Value.ref b] s) (F0 m 18 ls [])) : ∀ (x1 x2 x3 bc bs : Int) (μ : Mm), f_L_law_b734 (fun i => (xs i.toNat).toInt) (L : Int) N k18 x1 x2 x3 bc bs μ = some (1, μ') → R32 x3 → ∀ (H : Heap) (locs : List Loc) (ls : Array Slot) (cells slots : Nat), (cells : Int) + bc ≤ 600000 ∧ 0 ≤ bc ∧ (slots : Int) + bs ≤ 7302250 ∧ 0 ≤ bs → MS E μ s H locs → lv_has ls 4 [(0, .ref b), (1, vr E x1), (2, vr E x2), (3, vi x3)] → W p l e room_1 s m #[Value.ref b] below meth c H locs cells slots (lw_Z below #[Value.ref b] s) (F0 m 734 ls []) := by
  have hsc : ∀ i : Int, R32 ((fun i : Int => (xs i.toNat).toInt) i) := fun i => R32_of _
  have hsl : R32 (L : Int) := ⟨by omega, by omega⟩
  intro x1 x2 x3 bc bs μ h rx3 H locs ls cells slots hb hM hl
  unfold f_L_law_b734 at h
  refine m_aload_n (pc := 734) C dL_law_734 rfl (lv_at hl 1 rfl) ?_
  refine m_sload (pc := 735) C dL_law_735 rfl (lv_at hl 0 rfl) ?_
  refine m_iload_n (pc := 736) C dL_law_736 rfl (lv_at hl 3 rfl) ?_
  refine m_iconst (pc := 737) C dL_law_737 ?_
  obtain ⟨a1, ea1, h⟩ := nm_some h
  have ra1 : R32 a1 := by rw [ea1]; exact w32_R _
  refine m_iadd (pc := 738) C dL_law_738 ea1 ?_
  obtain ⟨q2, h⟩ := ck_some h
  refine m_sald (pc := 739) C hM hX hbl hE hLn q2.1 q2.2 dL_law_739 ?_
  refine m_sload (pc := 740) C dL_law_740 rfl (lv_at hl 0 rfl) ?_
  refine m_iload_n (pc := 741) C dL_law_741 rfl (lv_at hl 3 rfl) ?_
  refine m_iconst (pc := 742) C dL_law_742 ?_
  obtain ⟨a3, ea3, h⟩ := nm_some h
  have ra3 : R32 a3 := by rw [ea3]; exact w32_R _
  refine m_iadd (pc := 743) C dL_law_743 ea3 ?_
  obtain ⟨q4, h⟩ := ck_some h
  refine m_sald (pc := 744) C hM hX hbl hE hLn q4.1 q4.2 dL_law_744 ?_
  obtain ⟨q5, h⟩ := ck_some h
  obtain ⟨a6, μ7, ca6, h⟩ := bd_some h
  refine V_X7_owner (pc := 745) C hM ca6 (hsc _) (hsc _) q5 bw_3_230 ⟨Nat.le_of_ble_eq_true rfl, Nat.le_of_ble_eq_true rfl⟩ hl.1 rc0 ⟨by show _ + 0 ≤ 600000; omega, by show _ + 0 ≤ 7302250; omega⟩ dL_law_745 (fun ra6 H locs hM => ?_)
  refine m_aload_n (pc := 748) C dL_law_748 rfl (lv_at hl 2 rfl) ?_
  refine m_sload (pc := 749) C dL_law_749 rfl (lv_at hl 0 rfl) ?_
  refine m_iload_n (pc := 750) C dL_law_750 rfl (lv_at hl 3 rfl) ?_
  refine m_iconst (pc := 751) C dL_law_751 ?_
  obtain ⟨a8, ea8, h⟩ := nm_some h
  have ra8 : R32 a8 := by rw [ea8]; exact w32_R _
  refine m_iadd (pc := 752) C dL_law_752 ea8 ?_
  obtain ⟨q9, h⟩ := ck_some h
  refine m_sald (pc := 753) C hM hX hbl hE hLn q9.1 q9.2 dL_law_753 ?_
  refine m_sload (pc := 754) C dL_law_754 rfl (lv_at hl 0 rfl) ?_
  refine m_iload_n (pc := 755) C dL_law_755 rfl (lv_at hl 3 rfl) ?_
  refine m_iconst (pc := 756) C dL_law_756 ?_
  obtain ⟨a10, ea10, h⟩ := nm_some h
  have ra10 : R32 a10 := by rw [ea10]; exact w32_R _
  refine m_iadd (pc := 757) C dL_law_757 ea10 ?_
  obtain ⟨q11, h⟩ := ck_some h
  refine m_sald (pc := 758) C hM hX hbl hE hLn q11.1 q11.2 dL_law_758 ?_
  obtain ⟨q12, h⟩ := ck_some h
  obtain ⟨a13, μ14, ca13, h⟩ := bd_some h
  refine V_X8_owner (pc := 759) C hM ca13 (hsc _) (hsc _) q12 bw_6_87 ⟨Nat.le_of_ble_eq_true rfl, Nat.le_of_ble_eq_true rfl⟩ hl.1 (rcL rc0) ⟨by show _ + 0 ≤ 600000; omega, by show _ + 0 ≤ 7302250; omega⟩ dL_law_759 (fun ra13 H locs hM => ?_)
  refine m_lcmp_eq (tgt := 1029) (pc := 762) C ra6 ra13 dL_law_762 dL_law_763 (by decide) (fun c15 => ?_) (fun c15 => ?_)
  · have h := if_t h c15
    exact k_L_law_b1029 C hX hbl hE hLn N _ hk18 _ _ _ _ _ _ h rx3 _ _ _ _ _ hb hM (lv_sub hl [0, 1, 2, 3] rfl)
  · have h := if_f h c15
    refine m_iconst (pc := 766) C dL_law_766 ?_
    simp at h
set_option maxHeartbeats 4000000 in
set_option maxRecDepth 100000 in
theorem k_L_law_b768 (C : gCx p s m #[Value.ref b] meth c code 4 ret nmm R_law) (hX : va_X b L xs s s.heap) (hbl : b < s.heap.size) (hE : E.2.2.1 = s.heap.size) (hLn : L ≤ 2147483647) (N : Nat) {μ' : Mm} (k18 : Int → Int → Int → Int → Int → Mm → Rs) (hk18 : ∀ (x1 x2 x3 bc bs : Int) (μ : Mm), k18 x1 x2 x3 bc bs μ = some (1, μ') → R32 x3 → ∀ (H : Heap) (locs : List Loc) (ls : Array Slot) (cells slots : Nat), (cells : Int) + bc ≤ 600000 ∧ 0 ≤ bc ∧ (slots : Int) + bs ≤ 7302250 ∧ 0 ≤ bs → MS E μ s H locs → lv_has ls 4 [(0, .ref b), (1, vr E x1), (2, vr E x2), (3, vi x3)] → W p l e room_1 s m #[Value.ref b] below meth c H locs cells slots (lw_Z below #[Value.ref b] s) (F0 m 18 ls [])) : ∀ (x1 x2 x3 bc bs : Int) (μ : Mm), f_L_law_b768 (fun i => (xs i.toNat).toInt) (L : Int) N k18 x1 x2 x3 bc bs μ = some (1, μ') → R32 x3 → ∀ (H : Heap) (locs : List Loc) (ls : Array Slot) (cells slots : Nat), (cells : Int) + bc ≤ 600000 ∧ 0 ≤ bc ∧ (slots : Int) + bs ≤ 7302250 ∧ 0 ≤ bs → MS E μ s H locs → lv_has ls 4 [(0, .ref b), (1, vr E x1), (2, vr E x2), (3, vi x3)] → W p l e room_1 s m #[Value.ref b] below meth c H locs cells slots (lw_Z below #[Value.ref b] s) (F0 m 768 ls []) := by
  have hsc : ∀ i : Int, R32 ((fun i : Int => (xs i.toNat).toInt) i) := fun i => R32_of _
  have hsl : R32 (L : Int) := ⟨by omega, by omega⟩
  intro x1 x2 x3 bc bs μ h rx3 H locs ls cells slots hb hM hl
  unfold f_L_law_b768 at h
  refine m_aload_n (pc := 768) C dL_law_768 rfl (lv_at hl 1 rfl) ?_
  refine m_sload (pc := 769) C dL_law_769 rfl (lv_at hl 0 rfl) ?_
  refine m_iload_n (pc := 770) C dL_law_770 rfl (lv_at hl 3 rfl) ?_
  refine m_iconst (pc := 771) C dL_law_771 ?_
  obtain ⟨a1, ea1, h⟩ := nm_some h
  have ra1 : R32 a1 := by rw [ea1]; exact w32_R _
  refine m_iadd (pc := 772) C dL_law_772 ea1 ?_
  obtain ⟨q2, h⟩ := ck_some h
  refine m_sald (pc := 773) C hM hX hbl hE hLn q2.1 q2.2 dL_law_773 ?_
  refine m_sload (pc := 774) C dL_law_774 rfl (lv_at hl 0 rfl) ?_
  refine m_iload_n (pc := 775) C dL_law_775 rfl (lv_at hl 3 rfl) ?_
  refine m_iconst (pc := 776) C dL_law_776 ?_
  obtain ⟨a3, ea3, h⟩ := nm_some h
  have ra3 : R32 a3 := by rw [ea3]; exact w32_R _
  refine m_iadd (pc := 777) C dL_law_777 ea3 ?_
  obtain ⟨q4, h⟩ := ck_some h
  refine m_sald (pc := 778) C hM hX hbl hE hLn q4.1 q4.2 dL_law_778 ?_
  obtain ⟨q5, h⟩ := ck_some h
  obtain ⟨a6, μ7, ca6, h⟩ := bd_some h
  refine V_X7_lot (pc := 779) C hM ca6 (hsc _) (hsc _) q5 bw_4_0 ⟨Nat.le_of_ble_eq_true rfl, Nat.le_of_ble_eq_true rfl⟩ hl.1 rc0 ⟨by show _ + 0 ≤ 600000; omega, by show _ + 0 ≤ 7302250; omega⟩ dL_law_779 (fun ra6 H locs hM => ?_)
  refine m_aload_n (pc := 782) C dL_law_782 rfl (lv_at hl 2 rfl) ?_
  refine m_sload (pc := 783) C dL_law_783 rfl (lv_at hl 0 rfl) ?_
  refine m_iload_n (pc := 784) C dL_law_784 rfl (lv_at hl 3 rfl) ?_
  refine m_iconst (pc := 785) C dL_law_785 ?_
  obtain ⟨a8, ea8, h⟩ := nm_some h
  have ra8 : R32 a8 := by rw [ea8]; exact w32_R _
  refine m_iadd (pc := 786) C dL_law_786 ea8 ?_
  obtain ⟨q9, h⟩ := ck_some h
  refine m_sald (pc := 787) C hM hX hbl hE hLn q9.1 q9.2 dL_law_787 ?_
  refine m_sload (pc := 788) C dL_law_788 rfl (lv_at hl 0 rfl) ?_
  refine m_iload_n (pc := 789) C dL_law_789 rfl (lv_at hl 3 rfl) ?_
  refine m_iconst (pc := 790) C dL_law_790 ?_
  obtain ⟨a10, ea10, h⟩ := nm_some h
  have ra10 : R32 a10 := by rw [ea10]; exact w32_R _
  refine m_iadd (pc := 791) C dL_law_791 ea10 ?_
  obtain ⟨q11, h⟩ := ck_some h
  refine m_sald (pc := 792) C hM hX hbl hE hLn q11.1 q11.2 dL_law_792 ?_
  obtain ⟨q12, h⟩ := ck_some h
  obtain ⟨a13, μ14, ca13, h⟩ := bd_some h
  refine V_X8_lot (pc := 793) C hM ca13 (hsc _) (hsc _) q12 bw_6_97 ⟨Nat.le_of_ble_eq_true rfl, Nat.le_of_ble_eq_true rfl⟩ hl.1 (rcI rc0) ⟨by show _ + 0 ≤ 600000; omega, by show _ + 0 ≤ 7302250; omega⟩ dL_law_793 (fun ra13 H locs hM => ?_)
  refine m_icmp_eq (tgt := 1029) (pc := 796) C ra6 ra13 dL_law_796 (by decide) (fun c15 => ?_) (fun c15 => ?_)
  · have h := if_t h c15
    exact k_L_law_b1029 C hX hbl hE hLn N _ hk18 _ _ _ _ _ _ h rx3 _ _ _ _ _ hb hM (lv_sub hl [0, 1, 2, 3] rfl)
  · have h := if_f h c15
    refine m_iconst (pc := 799) C dL_law_799 ?_
    simp at h
set_option maxHeartbeats 4000000 in
set_option maxRecDepth 100000 in
theorem k_L_law_b801 (C : gCx p s m #[Value.ref b] meth c code 4 ret nmm R_law) (hX : va_X b L xs s s.heap) (hbl : b < s.heap.size) (hE : E.2.2.1 = s.heap.size) (hLn : L ≤ 2147483647) (N : Nat) {μ' : Mm} (k18 : Int → Int → Int → Int → Int → Mm → Rs) (hk18 : ∀ (x1 x2 x3 bc bs : Int) (μ : Mm), k18 x1 x2 x3 bc bs μ = some (1, μ') → R32 x3 → ∀ (H : Heap) (locs : List Loc) (ls : Array Slot) (cells slots : Nat), (cells : Int) + bc ≤ 600000 ∧ 0 ≤ bc ∧ (slots : Int) + bs ≤ 7302250 ∧ 0 ≤ bs → MS E μ s H locs → lv_has ls 4 [(0, .ref b), (1, vr E x1), (2, vr E x2), (3, vi x3)] → W p l e room_1 s m #[Value.ref b] below meth c H locs cells slots (lw_Z below #[Value.ref b] s) (F0 m 18 ls [])) : ∀ (x1 x2 x3 bc bs : Int) (μ : Mm), f_L_law_b801 (fun i => (xs i.toNat).toInt) (L : Int) N k18 x1 x2 x3 bc bs μ = some (1, μ') → R32 x3 → ∀ (H : Heap) (locs : List Loc) (ls : Array Slot) (cells slots : Nat), (cells : Int) + bc ≤ 600000 ∧ 0 ≤ bc ∧ (slots : Int) + bs ≤ 7302250 ∧ 0 ≤ bs → MS E μ s H locs → lv_has ls 4 [(0, .ref b), (1, vr E x1), (2, vr E x2), (3, vi x3)] → W p l e room_1 s m #[Value.ref b] below meth c H locs cells slots (lw_Z below #[Value.ref b] s) (F0 m 801 ls []) := by
  have hsc : ∀ i : Int, R32 ((fun i : Int => (xs i.toNat).toInt) i) := fun i => R32_of _
  have hsl : R32 (L : Int) := ⟨by omega, by omega⟩
  intro x1 x2 x3 bc bs μ h rx3 H locs ls cells slots hb hM hl
  unfold f_L_law_b801 at h
  refine m_aload_n (pc := 801) C dL_law_801 rfl (lv_at hl 1 rfl) ?_
  refine m_sload (pc := 802) C dL_law_802 rfl (lv_at hl 0 rfl) ?_
  refine m_iload_n (pc := 803) C dL_law_803 rfl (lv_at hl 3 rfl) ?_
  refine m_iconst (pc := 804) C dL_law_804 ?_
  obtain ⟨a1, ea1, h⟩ := nm_some h
  have ra1 : R32 a1 := by rw [ea1]; exact w32_R _
  refine m_iadd (pc := 805) C dL_law_805 ea1 ?_
  obtain ⟨q2, h⟩ := ck_some h
  refine m_sald (pc := 806) C hM hX hbl hE hLn q2.1 q2.2 dL_law_806 ?_
  refine m_sload (pc := 807) C dL_law_807 rfl (lv_at hl 0 rfl) ?_
  refine m_iload_n (pc := 808) C dL_law_808 rfl (lv_at hl 3 rfl) ?_
  refine m_iconst (pc := 809) C dL_law_809 ?_
  obtain ⟨a3, ea3, h⟩ := nm_some h
  have ra3 : R32 a3 := by rw [ea3]; exact w32_R _
  refine m_iadd (pc := 810) C dL_law_810 ea3 ?_
  obtain ⟨q4, h⟩ := ck_some h
  refine m_sald (pc := 811) C hM hX hbl hE hLn q4.1 q4.2 dL_law_811 ?_
  obtain ⟨q5, h⟩ := ck_some h
  obtain ⟨a6, μ7, ca6, h⟩ := bd_some h
  refine V_X7_exported (pc := 812) C hM ca6 (hsc _) (hsc _) q5 bw_4_9 ⟨Nat.le_of_ble_eq_true rfl, Nat.le_of_ble_eq_true rfl⟩ hl.1 rc0 ⟨by show _ + 0 ≤ 600000; omega, by show _ + 0 ≤ 7302250; omega⟩ dL_law_812 (fun ra6 H locs hM => ?_)
  refine m_aload_n (pc := 815) C dL_law_815 rfl (lv_at hl 2 rfl) ?_
  refine m_sload (pc := 816) C dL_law_816 rfl (lv_at hl 0 rfl) ?_
  refine m_iload_n (pc := 817) C dL_law_817 rfl (lv_at hl 3 rfl) ?_
  refine m_iconst (pc := 818) C dL_law_818 ?_
  obtain ⟨a8, ea8, h⟩ := nm_some h
  have ra8 : R32 a8 := by rw [ea8]; exact w32_R _
  refine m_iadd (pc := 819) C dL_law_819 ea8 ?_
  obtain ⟨q9, h⟩ := ck_some h
  refine m_sald (pc := 820) C hM hX hbl hE hLn q9.1 q9.2 dL_law_820 ?_
  refine m_sload (pc := 821) C dL_law_821 rfl (lv_at hl 0 rfl) ?_
  refine m_iload_n (pc := 822) C dL_law_822 rfl (lv_at hl 3 rfl) ?_
  refine m_iconst (pc := 823) C dL_law_823 ?_
  obtain ⟨a10, ea10, h⟩ := nm_some h
  have ra10 : R32 a10 := by rw [ea10]; exact w32_R _
  refine m_iadd (pc := 824) C dL_law_824 ea10 ?_
  obtain ⟨q11, h⟩ := ck_some h
  refine m_sald (pc := 825) C hM hX hbl hE hLn q11.1 q11.2 dL_law_825 ?_
  obtain ⟨q12, h⟩ := ck_some h
  obtain ⟨a13, μ14, ca13, h⟩ := bd_some h
  refine V_X8_exported (pc := 826) C hM ca13 (hsc _) (hsc _) q12 bw_6_102 ⟨Nat.le_of_ble_eq_true rfl, Nat.le_of_ble_eq_true rfl⟩ hl.1 (rcI rc0) ⟨by show _ + 0 ≤ 600000; omega, by show _ + 0 ≤ 7302250; omega⟩ dL_law_826 (fun ra13 H locs hM => ?_)
  refine m_icmp_eq (tgt := 1029) (pc := 829) C ra6 ra13 dL_law_829 (by decide) (fun c15 => ?_) (fun c15 => ?_)
  · have h := if_t h c15
    exact k_L_law_b1029 C hX hbl hE hLn N _ hk18 _ _ _ _ _ _ h rx3 _ _ _ _ _ hb hM (lv_sub hl [0, 1, 2, 3] rfl)
  · have h := if_f h c15
    refine m_iconst (pc := 832) C dL_law_832 ?_
    simp at h
set_option maxHeartbeats 4000000 in
set_option maxRecDepth 100000 in
theorem k_L_law_b834 (C : gCx p s m #[Value.ref b] meth c code 4 ret nmm R_law) (hX : va_X b L xs s s.heap) (hbl : b < s.heap.size) (hE : E.2.2.1 = s.heap.size) (hLn : L ≤ 2147483647) (N : Nat) {μ' : Mm} (k18 : Int → Int → Int → Int → Int → Mm → Rs) (hk18 : ∀ (x1 x2 x3 bc bs : Int) (μ : Mm), k18 x1 x2 x3 bc bs μ = some (1, μ') → R32 x3 → ∀ (H : Heap) (locs : List Loc) (ls : Array Slot) (cells slots : Nat), (cells : Int) + bc ≤ 600000 ∧ 0 ≤ bc ∧ (slots : Int) + bs ≤ 7302250 ∧ 0 ≤ bs → MS E μ s H locs → lv_has ls 4 [(0, .ref b), (1, vr E x1), (2, vr E x2), (3, vi x3)] → W p l e room_1 s m #[Value.ref b] below meth c H locs cells slots (lw_Z below #[Value.ref b] s) (F0 m 18 ls [])) : ∀ (x1 x2 x3 bc bs : Int) (μ : Mm), f_L_law_b834 (fun i => (xs i.toNat).toInt) (L : Int) N k18 x1 x2 x3 bc bs μ = some (1, μ') → R32 x3 → ∀ (H : Heap) (locs : List Loc) (ls : Array Slot) (cells slots : Nat), (cells : Int) + bc ≤ 600000 ∧ 0 ≤ bc ∧ (slots : Int) + bs ≤ 7302250 ∧ 0 ≤ bs → MS E μ s H locs → lv_has ls 4 [(0, .ref b), (1, vr E x1), (2, vr E x2), (3, vi x3)] → W p l e room_1 s m #[Value.ref b] below meth c H locs cells slots (lw_Z below #[Value.ref b] s) (F0 m 834 ls []) := by
  have hsc : ∀ i : Int, R32 ((fun i : Int => (xs i.toNat).toInt) i) := fun i => R32_of _
  have hsl : R32 (L : Int) := ⟨by omega, by omega⟩
  intro x1 x2 x3 bc bs μ h rx3 H locs ls cells slots hb hM hl
  unfold f_L_law_b834 at h
  refine m_aload_n (pc := 834) C dL_law_834 rfl (lv_at hl 1 rfl) ?_
  refine m_sload (pc := 835) C dL_law_835 rfl (lv_at hl 0 rfl) ?_
  refine m_iload_n (pc := 836) C dL_law_836 rfl (lv_at hl 3 rfl) ?_
  refine m_iconst (pc := 837) C dL_law_837 ?_
  obtain ⟨a1, ea1, h⟩ := nm_some h
  have ra1 : R32 a1 := by rw [ea1]; exact w32_R _
  refine m_iadd (pc := 838) C dL_law_838 ea1 ?_
  obtain ⟨q2, h⟩ := ck_some h
  refine m_sald (pc := 839) C hM hX hbl hE hLn q2.1 q2.2 dL_law_839 ?_
  obtain ⟨q3, h⟩ := ck_some h
  obtain ⟨q4, h⟩ := ck_some h
  obtain ⟨a5, μ6, ca5, h⟩ := bd_some h
  refine V_X7_documentLength (pc := 840) C hM ca5 (hsc _) q3 bw_4_13 ⟨Nat.le_of_ble_eq_true rfl, Nat.le_of_ble_eq_true rfl⟩ hl.1 rc0 ⟨by show _ + 10 ≤ 600000; omega, by show _ + 2000 ≤ 7302250; omega⟩ dL_law_840 (fun ra5 H locs hM => ?_)
  replace hb : ((cells + 10 : Nat) : Int) + (bc - 10) ≤ 600000 ∧ (0 : Int) ≤ bc - 10 ∧ ((slots + 2000 : Nat) : Int) + (bs - 2000) ≤ 7302250 ∧ (0 : Int) ≤ bs - 2000 := by omega
  refine m_aload_n (pc := 843) C dL_law_843 rfl (lv_at hl 2 rfl) ?_
  refine m_sload (pc := 844) C dL_law_844 rfl (lv_at hl 0 rfl) ?_
  refine m_iload_n (pc := 845) C dL_law_845 rfl (lv_at hl 3 rfl) ?_
  refine m_iconst (pc := 846) C dL_law_846 ?_
  obtain ⟨a7, ea7, h⟩ := nm_some h
  have ra7 : R32 a7 := by rw [ea7]; exact w32_R _
  refine m_iadd (pc := 847) C dL_law_847 ea7 ?_
  obtain ⟨q8, h⟩ := ck_some h
  refine m_sald (pc := 848) C hM hX hbl hE hLn q8.1 q8.2 dL_law_848 ?_
  obtain ⟨q9, h⟩ := ck_some h
  obtain ⟨a10, μ11, ca10, h⟩ := bd_some h
  refine V_X8_documentLength (pc := 849) C hM ca10 (hsc _) q9 bw_6_107 ⟨Nat.le_of_ble_eq_true rfl, Nat.le_of_ble_eq_true rfl⟩ hl.1 (rcI rc0) ⟨by show _ + 0 ≤ 600000; omega, by show _ + 0 ≤ 7302250; omega⟩ dL_law_849 (fun ra10 H locs hM => ?_)
  refine m_icmp_eq (tgt := 1029) (pc := 852) C ra5 ra10 dL_law_852 (by decide) (fun c12 => ?_) (fun c12 => ?_)
  · have h := if_t h c12
    exact k_L_law_b1029 C hX hbl hE hLn N _ hk18 _ _ _ _ _ _ h rx3 _ _ _ _ _ hb hM (lv_sub hl [0, 1, 2, 3] rfl)
  · have h := if_f h c12
    refine m_iconst (pc := 855) C dL_law_855 ?_
    simp at h
set_option maxHeartbeats 4000000 in
set_option maxRecDepth 100000 in
theorem k_L_law_b857 (C : gCx p s m #[Value.ref b] meth c code 4 ret nmm R_law) (hX : va_X b L xs s s.heap) (hbl : b < s.heap.size) (hE : E.2.2.1 = s.heap.size) (hLn : L ≤ 2147483647) (N : Nat) {μ' : Mm} (k18 : Int → Int → Int → Int → Int → Mm → Rs) (hk18 : ∀ (x1 x2 x3 bc bs : Int) (μ : Mm), k18 x1 x2 x3 bc bs μ = some (1, μ') → R32 x3 → ∀ (H : Heap) (locs : List Loc) (ls : Array Slot) (cells slots : Nat), (cells : Int) + bc ≤ 600000 ∧ 0 ≤ bc ∧ (slots : Int) + bs ≤ 7302250 ∧ 0 ≤ bs → MS E μ s H locs → lv_has ls 4 [(0, .ref b), (1, vr E x1), (2, vr E x2), (3, vi x3)] → W p l e room_1 s m #[Value.ref b] below meth c H locs cells slots (lw_Z below #[Value.ref b] s) (F0 m 18 ls [])) : ∀ (x1 x2 x3 bc bs : Int) (μ : Mm), f_L_law_b857 (fun i => (xs i.toNat).toInt) (L : Int) N k18 x1 x2 x3 bc bs μ = some (1, μ') → R32 x3 → ∀ (H : Heap) (locs : List Loc) (ls : Array Slot) (cells slots : Nat), (cells : Int) + bc ≤ 600000 ∧ 0 ≤ bc ∧ (slots : Int) + bs ≤ 7302250 ∧ 0 ≤ bs → MS E μ s H locs → lv_has ls 4 [(0, .ref b), (1, vr E x1), (2, vr E x2), (3, vi x3)] → W p l e room_1 s m #[Value.ref b] below meth c H locs cells slots (lw_Z below #[Value.ref b] s) (F0 m 857 ls []) := by
  have hsc : ∀ i : Int, R32 ((fun i : Int => (xs i.toNat).toInt) i) := fun i => R32_of _
  have hsl : R32 (L : Int) := ⟨by omega, by omega⟩
  intro x1 x2 x3 bc bs μ h rx3 H locs ls cells slots hb hM hl
  unfold f_L_law_b857 at h
  refine m_aload_n (pc := 857) C dL_law_857 rfl (lv_at hl 1 rfl) ?_
  refine m_sload (pc := 858) C dL_law_858 rfl (lv_at hl 0 rfl) ?_
  refine m_iload_n (pc := 859) C dL_law_859 rfl (lv_at hl 3 rfl) ?_
  refine m_iconst (pc := 860) C dL_law_860 ?_
  obtain ⟨a1, ea1, h⟩ := nm_some h
  have ra1 : R32 a1 := by rw [ea1]; exact w32_R _
  refine m_iadd (pc := 861) C dL_law_861 ea1 ?_
  obtain ⟨q2, h⟩ := ck_some h
  refine m_sald (pc := 862) C hM hX hbl hE hLn q2.1 q2.2 dL_law_862 ?_
  refine m_sload (pc := 863) C dL_law_863 rfl (lv_at hl 0 rfl) ?_
  refine m_iload_n (pc := 864) C dL_law_864 rfl (lv_at hl 3 rfl) ?_
  refine m_iconst (pc := 865) C dL_law_865 ?_
  obtain ⟨a3, ea3, h⟩ := nm_some h
  have ra3 : R32 a3 := by rw [ea3]; exact w32_R _
  refine m_iadd (pc := 866) C dL_law_866 ea3 ?_
  obtain ⟨q4, h⟩ := ck_some h
  refine m_sald (pc := 867) C hM hX hbl hE hLn q4.1 q4.2 dL_law_867 ?_
  obtain ⟨q5, h⟩ := ck_some h
  obtain ⟨q6, h⟩ := ck_some h
  obtain ⟨a7, μ8, ca7, h⟩ := bd_some h
  refine V_X7_documentAt (pc := 868) C hM ca7 (hsc _) (hsc _) q5 bw_4_156 ⟨Nat.le_of_ble_eq_true rfl, Nat.le_of_ble_eq_true rfl⟩ hl.1 rc0 ⟨by show _ + 10 ≤ 600000; omega, by show _ + 2000 ≤ 7302250; omega⟩ dL_law_868 (fun ra7 H locs hM => ?_)
  replace hb : ((cells + 10 : Nat) : Int) + (bc - 10) ≤ 600000 ∧ (0 : Int) ≤ bc - 10 ∧ ((slots + 2000 : Nat) : Int) + (bs - 2000) ≤ 7302250 ∧ (0 : Int) ≤ bs - 2000 := by omega
  refine m_aload_n (pc := 871) C dL_law_871 rfl (lv_at hl 2 rfl) ?_
  refine m_sload (pc := 872) C dL_law_872 rfl (lv_at hl 0 rfl) ?_
  refine m_iload_n (pc := 873) C dL_law_873 rfl (lv_at hl 3 rfl) ?_
  refine m_iconst (pc := 874) C dL_law_874 ?_
  obtain ⟨a9, ea9, h⟩ := nm_some h
  have ra9 : R32 a9 := by rw [ea9]; exact w32_R _
  refine m_iadd (pc := 875) C dL_law_875 ea9 ?_
  obtain ⟨q10, h⟩ := ck_some h
  refine m_sald (pc := 876) C hM hX hbl hE hLn q10.1 q10.2 dL_law_876 ?_
  refine m_sload (pc := 877) C dL_law_877 rfl (lv_at hl 0 rfl) ?_
  refine m_iload_n (pc := 878) C dL_law_878 rfl (lv_at hl 3 rfl) ?_
  refine m_iconst (pc := 879) C dL_law_879 ?_
  obtain ⟨a11, ea11, h⟩ := nm_some h
  have ra11 : R32 a11 := by rw [ea11]; exact w32_R _
  refine m_iadd (pc := 880) C dL_law_880 ea11 ?_
  obtain ⟨q12, h⟩ := ck_some h
  refine m_sald (pc := 881) C hM hX hbl hE hLn q12.1 q12.2 dL_law_881 ?_
  obtain ⟨q13, h⟩ := ck_some h
  obtain ⟨a14, μ15, ca14, h⟩ := bd_some h
  refine V_X8_documentAt (pc := 882) C hM ca14 (hsc _) (hsc _) q13 bw_6_129 ⟨Nat.le_of_ble_eq_true rfl, Nat.le_of_ble_eq_true rfl⟩ hl.1 (rcI rc0) ⟨by show _ + 0 ≤ 600000; omega, by show _ + 0 ≤ 7302250; omega⟩ dL_law_882 (fun ra14 H locs hM => ?_)
  refine m_icmp_eq (tgt := 1029) (pc := 885) C ra7 ra14 dL_law_885 (by decide) (fun c16 => ?_) (fun c16 => ?_)
  · have h := if_t h c16
    exact k_L_law_b1029 C hX hbl hE hLn N _ hk18 _ _ _ _ _ _ h rx3 _ _ _ _ _ hb hM (lv_sub hl [0, 1, 2, 3] rfl)
  · have h := if_f h c16
    refine m_iconst (pc := 888) C dL_law_888 ?_
    simp at h
set_option maxHeartbeats 4000000 in
set_option maxRecDepth 100000 in
theorem k_L_law_b890 (C : gCx p s m #[Value.ref b] meth c code 4 ret nmm R_law) (hX : va_X b L xs s s.heap) (hbl : b < s.heap.size) (hE : E.2.2.1 = s.heap.size) (hLn : L ≤ 2147483647) (N : Nat) {μ' : Mm} (k18 : Int → Int → Int → Int → Int → Mm → Rs) (hk18 : ∀ (x1 x2 x3 bc bs : Int) (μ : Mm), k18 x1 x2 x3 bc bs μ = some (1, μ') → R32 x3 → ∀ (H : Heap) (locs : List Loc) (ls : Array Slot) (cells slots : Nat), (cells : Int) + bc ≤ 600000 ∧ 0 ≤ bc ∧ (slots : Int) + bs ≤ 7302250 ∧ 0 ≤ bs → MS E μ s H locs → lv_has ls 4 [(0, .ref b), (1, vr E x1), (2, vr E x2), (3, vi x3)] → W p l e room_1 s m #[Value.ref b] below meth c H locs cells slots (lw_Z below #[Value.ref b] s) (F0 m 18 ls [])) : ∀ (x1 x2 x3 bc bs : Int) (μ : Mm), f_L_law_b890 (fun i => (xs i.toNat).toInt) (L : Int) N k18 x1 x2 x3 bc bs μ = some (1, μ') → R32 x3 → ∀ (H : Heap) (locs : List Loc) (ls : Array Slot) (cells slots : Nat), (cells : Int) + bc ≤ 600000 ∧ 0 ≤ bc ∧ (slots : Int) + bs ≤ 7302250 ∧ 0 ≤ bs → MS E μ s H locs → lv_has ls 4 [(0, .ref b), (1, vr E x1), (2, vr E x2), (3, vi x3)] → W p l e room_1 s m #[Value.ref b] below meth c H locs cells slots (lw_Z below #[Value.ref b] s) (F0 m 890 ls []) := by
  have hsc : ∀ i : Int, R32 ((fun i : Int => (xs i.toNat).toInt) i) := fun i => R32_of _
  have hsl : R32 (L : Int) := ⟨by omega, by omega⟩
  intro x1 x2 x3 bc bs μ h rx3 H locs ls cells slots hb hM hl
  unfold f_L_law_b890 at h
  refine m_aload_n (pc := 890) C dL_law_890 rfl (lv_at hl 1 rfl) ?_
  obtain ⟨q1, h⟩ := ck_some h
  obtain ⟨a2, μ3, ca2, h⟩ := bd_some h
  refine V_X7_nextDeadline (pc := 891) C hM ca2 q1 bw_4_170 ⟨Nat.le_of_ble_eq_true rfl, Nat.le_of_ble_eq_true rfl⟩ hl.1 rc0 ⟨by show _ + 0 ≤ 600000; omega, by show _ + 0 ≤ 7302250; omega⟩ dL_law_891 (fun ra2 H locs hM => ?_)
  refine m_aload_n (pc := 894) C dL_law_894 rfl (lv_at hl 2 rfl) ?_
  obtain ⟨q4, h⟩ := ck_some h
  obtain ⟨a5, μ6, ca5, h⟩ := bd_some h
  refine V_X8_nextDeadline (pc := 895) C hM ca5 q4 bw_6_133 ⟨Nat.le_of_ble_eq_true rfl, Nat.le_of_ble_eq_true rfl⟩ hl.1 (rcI rc0) ⟨by show _ + 0 ≤ 600000; omega, by show _ + 0 ≤ 7302250; omega⟩ dL_law_895 (fun ra5 H locs hM => ?_)
  refine m_icmp_eq (tgt := 1029) (pc := 898) C ra2 ra5 dL_law_898 (by decide) (fun c7 => ?_) (fun c7 => ?_)
  · have h := if_t h c7
    exact k_L_law_b1029 C hX hbl hE hLn N _ hk18 _ _ _ _ _ _ h rx3 _ _ _ _ _ hb hM (lv_sub hl [0, 1, 2, 3] rfl)
  · have h := if_f h c7
    refine m_iconst (pc := 901) C dL_law_901 ?_
    simp at h
set_option maxHeartbeats 4000000 in
set_option maxRecDepth 100000 in
theorem k_L_law_b903 (C : gCx p s m #[Value.ref b] meth c code 4 ret nmm R_law) (hX : va_X b L xs s s.heap) (hbl : b < s.heap.size) (hE : E.2.2.1 = s.heap.size) (hLn : L ≤ 2147483647) (N : Nat) {μ' : Mm} (k18 : Int → Int → Int → Int → Int → Mm → Rs) (hk18 : ∀ (x1 x2 x3 bc bs : Int) (μ : Mm), k18 x1 x2 x3 bc bs μ = some (1, μ') → R32 x3 → ∀ (H : Heap) (locs : List Loc) (ls : Array Slot) (cells slots : Nat), (cells : Int) + bc ≤ 600000 ∧ 0 ≤ bc ∧ (slots : Int) + bs ≤ 7302250 ∧ 0 ≤ bs → MS E μ s H locs → lv_has ls 4 [(0, .ref b), (1, vr E x1), (2, vr E x2), (3, vi x3)] → W p l e room_1 s m #[Value.ref b] below meth c H locs cells slots (lw_Z below #[Value.ref b] s) (F0 m 18 ls [])) : ∀ (x1 x2 x3 bc bs : Int) (μ : Mm), f_L_law_b903 (fun i => (xs i.toNat).toInt) (L : Int) N k18 x1 x2 x3 bc bs μ = some (1, μ') → R32 x3 → ∀ (H : Heap) (locs : List Loc) (ls : Array Slot) (cells slots : Nat), (cells : Int) + bc ≤ 600000 ∧ 0 ≤ bc ∧ (slots : Int) + bs ≤ 7302250 ∧ 0 ≤ bs → MS E μ s H locs → lv_has ls 4 [(0, .ref b), (1, vr E x1), (2, vr E x2), (3, vi x3)] → W p l e room_1 s m #[Value.ref b] below meth c H locs cells slots (lw_Z below #[Value.ref b] s) (F0 m 903 ls []) := by
  have hsc : ∀ i : Int, R32 ((fun i : Int => (xs i.toNat).toInt) i) := fun i => R32_of _
  have hsl : R32 (L : Int) := ⟨by omega, by omega⟩
  intro x1 x2 x3 bc bs μ h rx3 H locs ls cells slots hb hM hl
  unfold f_L_law_b903 at h
  refine m_aload_n (pc := 903) C dL_law_903 rfl (lv_at hl 1 rfl) ?_
  refine m_sload (pc := 904) C dL_law_904 rfl (lv_at hl 0 rfl) ?_
  refine m_iload_n (pc := 905) C dL_law_905 rfl (lv_at hl 3 rfl) ?_
  refine m_iconst (pc := 906) C dL_law_906 ?_
  obtain ⟨a1, ea1, h⟩ := nm_some h
  have ra1 : R32 a1 := by rw [ea1]; exact w32_R _
  refine m_iadd (pc := 907) C dL_law_907 ea1 ?_
  obtain ⟨q2, h⟩ := ck_some h
  refine m_sald (pc := 908) C hM hX hbl hE hLn q2.1 q2.2 dL_law_908 ?_
  obtain ⟨q3, h⟩ := ck_some h
  obtain ⟨a4, μ5, ca4, h⟩ := bd_some h
  refine V_X7_calledIn (pc := 909) C hM ca4 (hsc _) q3 bw_4_175 ⟨Nat.le_of_ble_eq_true rfl, Nat.le_of_ble_eq_true rfl⟩ hl.1 rc0 ⟨by show _ + 0 ≤ 600000; omega, by show _ + 0 ≤ 7302250; omega⟩ dL_law_909 (fun ra4 H locs hM => ?_)
  refine m_aload_n (pc := 912) C dL_law_912 rfl (lv_at hl 2 rfl) ?_
  refine m_sload (pc := 913) C dL_law_913 rfl (lv_at hl 0 rfl) ?_
  refine m_iload_n (pc := 914) C dL_law_914 rfl (lv_at hl 3 rfl) ?_
  refine m_iconst (pc := 915) C dL_law_915 ?_
  obtain ⟨a6, ea6, h⟩ := nm_some h
  have ra6 : R32 a6 := by rw [ea6]; exact w32_R _
  refine m_iadd (pc := 916) C dL_law_916 ea6 ?_
  obtain ⟨q7, h⟩ := ck_some h
  refine m_sald (pc := 917) C hM hX hbl hE hLn q7.1 q7.2 dL_law_917 ?_
  obtain ⟨q8, h⟩ := ck_some h
  obtain ⟨a9, μ10, ca9, h⟩ := bd_some h
  refine V_X8_calledIn (pc := 918) C hM ca9 (hsc _) q8 bw_6_137 ⟨Nat.le_of_ble_eq_true rfl, Nat.le_of_ble_eq_true rfl⟩ hl.1 (rcI rc0) ⟨by show _ + 0 ≤ 600000; omega, by show _ + 0 ≤ 7302250; omega⟩ dL_law_918 (fun ra9 H locs hM => ?_)
  refine m_icmp_eq (tgt := 1029) (pc := 921) C ra4 ra9 dL_law_921 (by decide) (fun c11 => ?_) (fun c11 => ?_)
  · have h := if_t h c11
    exact k_L_law_b1029 C hX hbl hE hLn N _ hk18 _ _ _ _ _ _ h rx3 _ _ _ _ _ hb hM (lv_sub hl [0, 1, 2, 3] rfl)
  · have h := if_f h c11
    refine m_iconst (pc := 924) C dL_law_924 ?_
    simp at h
set_option maxHeartbeats 4000000 in
set_option maxRecDepth 100000 in
theorem k_L_law_b926 (C : gCx p s m #[Value.ref b] meth c code 4 ret nmm R_law) (hX : va_X b L xs s s.heap) (hbl : b < s.heap.size) (hE : E.2.2.1 = s.heap.size) (hLn : L ≤ 2147483647) (N : Nat) {μ' : Mm} (k18 : Int → Int → Int → Int → Int → Mm → Rs) (hk18 : ∀ (x1 x2 x3 bc bs : Int) (μ : Mm), k18 x1 x2 x3 bc bs μ = some (1, μ') → R32 x3 → ∀ (H : Heap) (locs : List Loc) (ls : Array Slot) (cells slots : Nat), (cells : Int) + bc ≤ 600000 ∧ 0 ≤ bc ∧ (slots : Int) + bs ≤ 7302250 ∧ 0 ≤ bs → MS E μ s H locs → lv_has ls 4 [(0, .ref b), (1, vr E x1), (2, vr E x2), (3, vi x3)] → W p l e room_1 s m #[Value.ref b] below meth c H locs cells slots (lw_Z below #[Value.ref b] s) (F0 m 18 ls [])) : ∀ (x1 x2 x3 bc bs : Int) (μ : Mm), f_L_law_b926 (fun i => (xs i.toNat).toInt) (L : Int) N k18 x1 x2 x3 bc bs μ = some (1, μ') → R32 x3 → ∀ (H : Heap) (locs : List Loc) (ls : Array Slot) (cells slots : Nat), (cells : Int) + bc ≤ 600000 ∧ 0 ≤ bc ∧ (slots : Int) + bs ≤ 7302250 ∧ 0 ≤ bs → MS E μ s H locs → lv_has ls 4 [(0, .ref b), (1, vr E x1), (2, vr E x2), (3, vi x3)] → W p l e room_1 s m #[Value.ref b] below meth c H locs cells slots (lw_Z below #[Value.ref b] s) (F0 m 926 ls []) := by
  have hsc : ∀ i : Int, R32 ((fun i : Int => (xs i.toNat).toInt) i) := fun i => R32_of _
  have hsl : R32 (L : Int) := ⟨by omega, by omega⟩
  intro x1 x2 x3 bc bs μ h rx3 H locs ls cells slots hb hM hl
  unfold f_L_law_b926 at h
  refine m_aload_n (pc := 926) C dL_law_926 rfl (lv_at hl 1 rfl) ?_
  refine m_sload (pc := 927) C dL_law_927 rfl (lv_at hl 0 rfl) ?_
  refine m_iload_n (pc := 928) C dL_law_928 rfl (lv_at hl 3 rfl) ?_
  refine m_iconst (pc := 929) C dL_law_929 ?_
  obtain ⟨a1, ea1, h⟩ := nm_some h
  have ra1 : R32 a1 := by rw [ea1]; exact w32_R _
  refine m_iadd (pc := 930) C dL_law_930 ea1 ?_
  obtain ⟨q2, h⟩ := ck_some h
  refine m_sald (pc := 931) C hM hX hbl hE hLn q2.1 q2.2 dL_law_931 ?_
  refine m_sload (pc := 932) C dL_law_932 rfl (lv_at hl 0 rfl) ?_
  refine m_iload_n (pc := 933) C dL_law_933 rfl (lv_at hl 3 rfl) ?_
  refine m_iconst (pc := 934) C dL_law_934 ?_
  obtain ⟨a3, ea3, h⟩ := nm_some h
  have ra3 : R32 a3 := by rw [ea3]; exact w32_R _
  refine m_iadd (pc := 935) C dL_law_935 ea3 ?_
  obtain ⟨q4, h⟩ := ck_some h
  refine m_sald (pc := 936) C hM hX hbl hE hLn q4.1 q4.2 dL_law_936 ?_
  obtain ⟨q5, h⟩ := ck_some h
  obtain ⟨a6, μ7, ca6, h⟩ := bd_some h
  refine V_X7_greatestValue (pc := 937) C hM ca6 (hsc _) (hsc _) q5 bw_4_183 ⟨Nat.le_of_ble_eq_true rfl, Nat.le_of_ble_eq_true rfl⟩ hl.1 rc0 ⟨by show _ + 0 ≤ 600000; omega, by show _ + 0 ≤ 7302250; omega⟩ dL_law_937 (fun ra6 H locs hM => ?_)
  refine m_aload_n (pc := 940) C dL_law_940 rfl (lv_at hl 2 rfl) ?_
  refine m_sload (pc := 941) C dL_law_941 rfl (lv_at hl 0 rfl) ?_
  refine m_iload_n (pc := 942) C dL_law_942 rfl (lv_at hl 3 rfl) ?_
  refine m_iconst (pc := 943) C dL_law_943 ?_
  obtain ⟨a8, ea8, h⟩ := nm_some h
  have ra8 : R32 a8 := by rw [ea8]; exact w32_R _
  refine m_iadd (pc := 944) C dL_law_944 ea8 ?_
  obtain ⟨q9, h⟩ := ck_some h
  refine m_sald (pc := 945) C hM hX hbl hE hLn q9.1 q9.2 dL_law_945 ?_
  refine m_sload (pc := 946) C dL_law_946 rfl (lv_at hl 0 rfl) ?_
  refine m_iload_n (pc := 947) C dL_law_947 rfl (lv_at hl 3 rfl) ?_
  refine m_iconst (pc := 948) C dL_law_948 ?_
  obtain ⟨a10, ea10, h⟩ := nm_some h
  have ra10 : R32 a10 := by rw [ea10]; exact w32_R _
  refine m_iadd (pc := 949) C dL_law_949 ea10 ?_
  obtain ⟨q11, h⟩ := ck_some h
  refine m_sald (pc := 950) C hM hX hbl hE hLn q11.1 q11.2 dL_law_950 ?_
  obtain ⟨q12, h⟩ := ck_some h
  obtain ⟨a13, μ14, ca13, h⟩ := bd_some h
  refine V_X8_greatestValue (pc := 951) C hM ca13 (hsc _) (hsc _) q12 bw_6_141 ⟨Nat.le_of_ble_eq_true rfl, Nat.le_of_ble_eq_true rfl⟩ hl.1 (rcI rc0) ⟨by show _ + 0 ≤ 600000; omega, by show _ + 0 ≤ 7302250; omega⟩ dL_law_951 (fun ra13 H locs hM => ?_)
  refine m_icmp_eq (tgt := 1029) (pc := 954) C ra6 ra13 dL_law_954 (by decide) (fun c15 => ?_) (fun c15 => ?_)
  · have h := if_t h c15
    exact k_L_law_b1029 C hX hbl hE hLn N _ hk18 _ _ _ _ _ _ h rx3 _ _ _ _ _ hb hM (lv_sub hl [0, 1, 2, 3] rfl)
  · have h := if_f h c15
    refine m_iconst (pc := 957) C dL_law_957 ?_
    simp at h
set_option maxHeartbeats 4000000 in
set_option maxRecDepth 100000 in
theorem k_L_law_b959 (C : gCx p s m #[Value.ref b] meth c code 4 ret nmm R_law) (hX : va_X b L xs s s.heap) (hbl : b < s.heap.size) (hE : E.2.2.1 = s.heap.size) (hLn : L ≤ 2147483647) (N : Nat) {μ' : Mm} (k18 : Int → Int → Int → Int → Int → Mm → Rs) (hk18 : ∀ (x1 x2 x3 bc bs : Int) (μ : Mm), k18 x1 x2 x3 bc bs μ = some (1, μ') → R32 x3 → ∀ (H : Heap) (locs : List Loc) (ls : Array Slot) (cells slots : Nat), (cells : Int) + bc ≤ 600000 ∧ 0 ≤ bc ∧ (slots : Int) + bs ≤ 7302250 ∧ 0 ≤ bs → MS E μ s H locs → lv_has ls 4 [(0, .ref b), (1, vr E x1), (2, vr E x2), (3, vi x3)] → W p l e room_1 s m #[Value.ref b] below meth c H locs cells slots (lw_Z below #[Value.ref b] s) (F0 m 18 ls [])) : ∀ (x1 x2 x3 bc bs : Int) (μ : Mm), f_L_law_b959 (fun i => (xs i.toNat).toInt) (L : Int) N k18 x1 x2 x3 bc bs μ = some (1, μ') → R32 x3 → ∀ (H : Heap) (locs : List Loc) (ls : Array Slot) (cells slots : Nat), (cells : Int) + bc ≤ 600000 ∧ 0 ≤ bc ∧ (slots : Int) + bs ≤ 7302250 ∧ 0 ≤ bs → MS E μ s H locs → lv_has ls 4 [(0, .ref b), (1, vr E x1), (2, vr E x2), (3, vi x3)] → W p l e room_1 s m #[Value.ref b] below meth c H locs cells slots (lw_Z below #[Value.ref b] s) (F0 m 959 ls []) := by
  have hsc : ∀ i : Int, R32 ((fun i : Int => (xs i.toNat).toInt) i) := fun i => R32_of _
  have hsl : R32 (L : Int) := ⟨by omega, by omega⟩
  intro x1 x2 x3 bc bs μ h rx3 H locs ls cells slots hb hM hl
  unfold f_L_law_b959 at h
  refine m_aload_n (pc := 959) C dL_law_959 rfl (lv_at hl 1 rfl) ?_
  refine m_sload (pc := 960) C dL_law_960 rfl (lv_at hl 0 rfl) ?_
  refine m_iload_n (pc := 961) C dL_law_961 rfl (lv_at hl 3 rfl) ?_
  refine m_iconst (pc := 962) C dL_law_962 ?_
  obtain ⟨a1, ea1, h⟩ := nm_some h
  have ra1 : R32 a1 := by rw [ea1]; exact w32_R _
  refine m_iadd (pc := 963) C dL_law_963 ea1 ?_
  obtain ⟨q2, h⟩ := ck_some h
  refine m_sald (pc := 964) C hM hX hbl hE hLn q2.1 q2.2 dL_law_964 ?_
  obtain ⟨q3, h⟩ := ck_some h
  obtain ⟨a4, μ5, ca4, h⟩ := bd_some h
  refine V_X7_account (pc := 965) C hM ca4 (hsc _) q3 bw_4_188 ⟨Nat.le_of_ble_eq_true rfl, Nat.le_of_ble_eq_true rfl⟩ hl.1 rc0 ⟨by show _ + 0 ≤ 600000; omega, by show _ + 0 ≤ 7302250; omega⟩ dL_law_965 (fun ra4 H locs hM => ?_)
  refine m_aload_n (pc := 968) C dL_law_968 rfl (lv_at hl 2 rfl) ?_
  refine m_sload (pc := 969) C dL_law_969 rfl (lv_at hl 0 rfl) ?_
  refine m_iload_n (pc := 970) C dL_law_970 rfl (lv_at hl 3 rfl) ?_
  refine m_iconst (pc := 971) C dL_law_971 ?_
  obtain ⟨a6, ea6, h⟩ := nm_some h
  have ra6 : R32 a6 := by rw [ea6]; exact w32_R _
  refine m_iadd (pc := 972) C dL_law_972 ea6 ?_
  obtain ⟨q7, h⟩ := ck_some h
  refine m_sald (pc := 973) C hM hX hbl hE hLn q7.1 q7.2 dL_law_973 ?_
  obtain ⟨q8, h⟩ := ck_some h
  obtain ⟨a9, μ10, ca9, h⟩ := bd_some h
  refine V_X8_account (pc := 974) C hM ca9 (hsc _) q8 bw_6_145 ⟨Nat.le_of_ble_eq_true rfl, Nat.le_of_ble_eq_true rfl⟩ hl.1 (rcL rc0) ⟨by show _ + 0 ≤ 600000; omega, by show _ + 0 ≤ 7302250; omega⟩ dL_law_974 (fun ra9 H locs hM => ?_)
  refine m_lcmp_eq (tgt := 1029) (pc := 977) C ra4 ra9 dL_law_977 dL_law_978 (by decide) (fun c11 => ?_) (fun c11 => ?_)
  · have h := if_t h c11
    exact k_L_law_b1029 C hX hbl hE hLn N _ hk18 _ _ _ _ _ _ h rx3 _ _ _ _ _ hb hM (lv_sub hl [0, 1, 2, 3] rfl)
  · have h := if_f h c11
    refine m_iconst (pc := 981) C dL_law_981 ?_
    simp at h
set_option maxHeartbeats 4000000 in
set_option maxRecDepth 100000 in
theorem k_L_law_b983 (C : gCx p s m #[Value.ref b] meth c code 4 ret nmm R_law) (hX : va_X b L xs s s.heap) (hbl : b < s.heap.size) (hE : E.2.2.1 = s.heap.size) (hLn : L ≤ 2147483647) (N : Nat) {μ' : Mm} (k18 : Int → Int → Int → Int → Int → Mm → Rs) (hk18 : ∀ (x1 x2 x3 bc bs : Int) (μ : Mm), k18 x1 x2 x3 bc bs μ = some (1, μ') → R32 x3 → ∀ (H : Heap) (locs : List Loc) (ls : Array Slot) (cells slots : Nat), (cells : Int) + bc ≤ 600000 ∧ 0 ≤ bc ∧ (slots : Int) + bs ≤ 7302250 ∧ 0 ≤ bs → MS E μ s H locs → lv_has ls 4 [(0, .ref b), (1, vr E x1), (2, vr E x2), (3, vi x3)] → W p l e room_1 s m #[Value.ref b] below meth c H locs cells slots (lw_Z below #[Value.ref b] s) (F0 m 18 ls [])) : ∀ (x1 x2 x3 bc bs : Int) (μ : Mm), f_L_law_b983 (fun i => (xs i.toNat).toInt) (L : Int) N k18 x1 x2 x3 bc bs μ = some (1, μ') → R32 x3 → ∀ (H : Heap) (locs : List Loc) (ls : Array Slot) (cells slots : Nat), (cells : Int) + bc ≤ 600000 ∧ 0 ≤ bc ∧ (slots : Int) + bs ≤ 7302250 ∧ 0 ≤ bs → MS E μ s H locs → lv_has ls 4 [(0, .ref b), (1, vr E x1), (2, vr E x2), (3, vi x3)] → W p l e room_1 s m #[Value.ref b] below meth c H locs cells slots (lw_Z below #[Value.ref b] s) (F0 m 983 ls []) := by
  have hsc : ∀ i : Int, R32 ((fun i : Int => (xs i.toNat).toInt) i) := fun i => R32_of _
  have hsl : R32 (L : Int) := ⟨by omega, by omega⟩
  intro x1 x2 x3 bc bs μ h rx3 H locs ls cells slots hb hM hl
  unfold f_L_law_b983 at h
  refine m_aload_n (pc := 983) C dL_law_983 rfl (lv_at hl 1 rfl) ?_
  refine m_sload (pc := 984) C dL_law_984 rfl (lv_at hl 0 rfl) ?_
  refine m_iload_n (pc := 985) C dL_law_985 rfl (lv_at hl 3 rfl) ?_
  refine m_iconst (pc := 986) C dL_law_986 ?_
  obtain ⟨a1, ea1, h⟩ := nm_some h
  have ra1 : R32 a1 := by rw [ea1]; exact w32_R _
  refine m_iadd (pc := 987) C dL_law_987 ea1 ?_
  obtain ⟨q2, h⟩ := ck_some h
  refine m_sald (pc := 988) C hM hX hbl hE hLn q2.1 q2.2 dL_law_988 ?_
  obtain ⟨q3, h⟩ := ck_some h
  obtain ⟨a4, μ5, ca4, h⟩ := bd_some h
  refine V_X7_count (pc := 989) C hM ca4 (hsc _) q3 bw_4_205 ⟨Nat.le_of_ble_eq_true rfl, Nat.le_of_ble_eq_true rfl⟩ hl.1 rc0 ⟨by show _ + 0 ≤ 600000; omega, by show _ + 0 ≤ 7302250; omega⟩ dL_law_989 (fun ra4 H locs hM => ?_)
  refine m_aload_n (pc := 992) C dL_law_992 rfl (lv_at hl 2 rfl) ?_
  refine m_sload (pc := 993) C dL_law_993 rfl (lv_at hl 0 rfl) ?_
  refine m_iload_n (pc := 994) C dL_law_994 rfl (lv_at hl 3 rfl) ?_
  refine m_iconst (pc := 995) C dL_law_995 ?_
  obtain ⟨a6, ea6, h⟩ := nm_some h
  have ra6 : R32 a6 := by rw [ea6]; exact w32_R _
  refine m_iadd (pc := 996) C dL_law_996 ea6 ?_
  obtain ⟨q7, h⟩ := ck_some h
  refine m_sald (pc := 997) C hM hX hbl hE hLn q7.1 q7.2 dL_law_997 ?_
  obtain ⟨q8, h⟩ := ck_some h
  obtain ⟨a9, μ10, ca9, h⟩ := bd_some h
  refine V_X8_count (pc := 998) C hM ca9 (hsc _) q8 bw_6_150 ⟨Nat.le_of_ble_eq_true rfl, Nat.le_of_ble_eq_true rfl⟩ hl.1 (rcI rc0) ⟨by show _ + 0 ≤ 600000; omega, by show _ + 0 ≤ 7302250; omega⟩ dL_law_998 (fun ra9 H locs hM => ?_)
  refine m_icmp_eq (tgt := 1029) (pc := 1001) C ra4 ra9 dL_law_1001 (by decide) (fun c11 => ?_) (fun c11 => ?_)
  · have h := if_t h c11
    exact k_L_law_b1029 C hX hbl hE hLn N _ hk18 _ _ _ _ _ _ h rx3 _ _ _ _ _ hb hM (lv_sub hl [0, 1, 2, 3] rfl)
  · have h := if_f h c11
    refine m_iconst (pc := 1004) C dL_law_1004 ?_
    simp at h
set_option maxHeartbeats 4000000 in
set_option maxRecDepth 100000 in
theorem k_L_law_b1006 (C : gCx p s m #[Value.ref b] meth c code 4 ret nmm R_law) (hX : va_X b L xs s s.heap) (hbl : b < s.heap.size) (hE : E.2.2.1 = s.heap.size) (hLn : L ≤ 2147483647) (N : Nat) {μ' : Mm} (k18 : Int → Int → Int → Int → Int → Mm → Rs) (hk18 : ∀ (x1 x2 x3 bc bs : Int) (μ : Mm), k18 x1 x2 x3 bc bs μ = some (1, μ') → R32 x3 → ∀ (H : Heap) (locs : List Loc) (ls : Array Slot) (cells slots : Nat), (cells : Int) + bc ≤ 600000 ∧ 0 ≤ bc ∧ (slots : Int) + bs ≤ 7302250 ∧ 0 ≤ bs → MS E μ s H locs → lv_has ls 4 [(0, .ref b), (1, vr E x1), (2, vr E x2), (3, vi x3)] → W p l e room_1 s m #[Value.ref b] below meth c H locs cells slots (lw_Z below #[Value.ref b] s) (F0 m 18 ls [])) : ∀ (x1 x2 x3 bc bs : Int) (μ : Mm), f_L_law_b1006 (fun i => (xs i.toNat).toInt) (L : Int) N k18 x1 x2 x3 bc bs μ = some (1, μ') → R32 x3 → ∀ (H : Heap) (locs : List Loc) (ls : Array Slot) (cells slots : Nat), (cells : Int) + bc ≤ 600000 ∧ 0 ≤ bc ∧ (slots : Int) + bs ≤ 7302250 ∧ 0 ≤ bs → MS E μ s H locs → lv_has ls 4 [(0, .ref b), (1, vr E x1), (2, vr E x2), (3, vi x3)] → W p l e room_1 s m #[Value.ref b] below meth c H locs cells slots (lw_Z below #[Value.ref b] s) (F0 m 1006 ls []) := by
  have hsc : ∀ i : Int, R32 ((fun i : Int => (xs i.toNat).toInt) i) := fun i => R32_of _
  have hsl : R32 (L : Int) := ⟨by omega, by omega⟩
  intro x1 x2 x3 bc bs μ h rx3 H locs ls cells slots hb hM hl
  unfold f_L_law_b1006 at h
  refine m_aload_n (pc := 1006) C dL_law_1006 rfl (lv_at hl 1 rfl) ?_
  refine m_sload (pc := 1007) C dL_law_1007 rfl (lv_at hl 0 rfl) ?_
  refine m_iload_n (pc := 1008) C dL_law_1008 rfl (lv_at hl 3 rfl) ?_
  refine m_iconst (pc := 1009) C dL_law_1009 ?_
  obtain ⟨a1, ea1, h⟩ := nm_some h
  have ra1 : R32 a1 := by rw [ea1]; exact w32_R _
  refine m_iadd (pc := 1010) C dL_law_1010 ea1 ?_
  obtain ⟨q2, h⟩ := ck_some h
  refine m_sald (pc := 1011) C hM hX hbl hE hLn q2.1 q2.2 dL_law_1011 ?_
  obtain ⟨q3, h⟩ := ck_some h
  obtain ⟨a4, μ5, ca4, h⟩ := bd_some h
  refine V_X7_rate (pc := 1012) C hM ca4 (hsc _) q3 bw_4_213 ⟨Nat.le_of_ble_eq_true rfl, Nat.le_of_ble_eq_true rfl⟩ hl.1 rc0 ⟨by show _ + 0 ≤ 600000; omega, by show _ + 0 ≤ 7302250; omega⟩ dL_law_1012 (fun ra4 H locs hM => ?_)
  refine m_aload_n (pc := 1015) C dL_law_1015 rfl (lv_at hl 2 rfl) ?_
  refine m_sload (pc := 1016) C dL_law_1016 rfl (lv_at hl 0 rfl) ?_
  refine m_iload_n (pc := 1017) C dL_law_1017 rfl (lv_at hl 3 rfl) ?_
  refine m_iconst (pc := 1018) C dL_law_1018 ?_
  obtain ⟨a6, ea6, h⟩ := nm_some h
  have ra6 : R32 a6 := by rw [ea6]; exact w32_R _
  refine m_iadd (pc := 1019) C dL_law_1019 ea6 ?_
  obtain ⟨q7, h⟩ := ck_some h
  refine m_sald (pc := 1020) C hM hX hbl hE hLn q7.1 q7.2 dL_law_1020 ?_
  obtain ⟨q8, h⟩ := ck_some h
  obtain ⟨a9, μ10, ca9, h⟩ := bd_some h
  refine V_X8_rate (pc := 1021) C hM ca9 (hsc _) q8 bw_6_154 ⟨Nat.le_of_ble_eq_true rfl, Nat.le_of_ble_eq_true rfl⟩ hl.1 (rcI rc0) ⟨by show _ + 0 ≤ 600000; omega, by show _ + 0 ≤ 7302250; omega⟩ dL_law_1021 (fun ra9 H locs hM => ?_)
  refine m_icmp_eq (tgt := 1029) (pc := 1024) C ra4 ra9 dL_law_1024 (by decide) (fun c11 => ?_) (fun c11 => ?_)
  · have h := if_t h c11
    exact k_L_law_b1029 C hX hbl hE hLn N _ hk18 _ _ _ _ _ _ h rx3 _ _ _ _ _ hb hM (lv_sub hl [0, 1, 2, 3] rfl)
  · have h := if_f h c11
    refine m_iconst (pc := 1027) C dL_law_1027 ?_
    simp at h
set_option maxHeartbeats 4000000 in
set_option maxRecDepth 100000 in
theorem k_L_law_b18 (C : gCx p s m #[Value.ref b] meth c code 4 ret nmm R_law) (hX : va_X b L xs s s.heap) (hbl : b < s.heap.size) (hE : E.2.2.1 = s.heap.size) (hLn : L ≤ 2147483647) (N : Nat) {μ' : Mm} : ∀ (n : Nat), ∀ (x1 x2 x3 bc bs : Int) (μ : Mm), f_L_law_b18 (fun i => (xs i.toNat).toInt) (L : Int) N n x1 x2 x3 bc bs μ = some (1, μ') → R32 x3 → ∀ (H : Heap) (locs : List Loc) (ls : Array Slot) (cells slots : Nat), (cells : Int) + bc ≤ 600000 ∧ 0 ≤ bc ∧ (slots : Int) + bs ≤ 7302250 ∧ 0 ≤ bs → MS E μ s H locs → lv_has ls 4 [(0, .ref b), (1, vr E x1), (2, vr E x2), (3, vi x3)] → W p l e room_1 s m #[Value.ref b] below meth c H locs cells slots (lw_Z below #[Value.ref b] s) (F0 m 18 ls []) := by
  have hsc : ∀ i : Int, R32 ((fun i : Int => (xs i.toNat).toInt) i) := fun i => R32_of _
  have hsl : R32 (L : Int) := ⟨by omega, by omega⟩
  intro n
  induction n with
  | zero => intro x1 x2 x3 bc bs μ h; simp [f_L_law_b18] at h
  | succ n ih =>
    intro x1 x2 x3 bc bs μ h rx3 H locs ls cells slots hb hM hl
    rw [f_L_law_b18] at h
    refine m_iload_n (pc := 18) C dL_law_18 rfl (lv_at hl 3 rfl) ?_
    refine m_sload (pc := 19) C dL_law_19 rfl (lv_at hl 0 rfl) ?_
    refine m_slen (pc := 20) C hM hX hbl hE dL_law_20 ?_
    refine m_iconst (pc := 21) C dL_law_21 ?_
    obtain ⟨a2, ea2, h⟩ := nm_some h
    have ra2 : R32 a2 := by rw [ea2]; exact w32_R _
    refine m_isub (pc := 22) C dL_law_22 ea2 ?_
    refine m_icmp_gt (tgt := 1035) (pc := 23) C rx3 ra2 dL_law_23 (by decide) (fun c3 => ?_) (fun c3 => ?_)
    · have h := if_t h c3
      refine m_iconst (pc := 1035) C dL_law_1035 ?_
      refine va_forget (fun q hq => by have h9 := hM.2.1.2.2 q hq; unfold gA at h9; rw [hE] at h9; exact h9) ?_
      refine W.widen (k := 600000) (n := 7302250) (by omega) (by omega) ?_
      exact lw_ret C.1.1 C.1.2.1 C.2.1 C.2.2.1 dL_law_1036
    · have h := if_f h c3
      refine m_sload (pc := 26) C dL_law_26 rfl (lv_at hl 0 rfl) ?_
      refine m_iload_n (pc := 27) C dL_law_27 rfl (lv_at hl 3 rfl) ?_
      obtain ⟨q4, h⟩ := ck_some h
      refine m_sald (pc := 28) C hM hX hbl hE hLn q4.1 q4.2 dL_law_28 ?_
      refine m_bipush (pc := 29) C dL_law_29 rfl ?_
      obtain ⟨a5, ea5, h⟩ := nm_some h
      have ra5 : R32 a5 := by rw [ea5]; exact R32_of _
      refine m_iand (pc := 31) C dL_law_31 ea5 ?_
      by_cases c6 : a5 = 0
      · have h := if_t h c6
        refine m_tab (pc := 32) (tgt := 172) C ra5 c6 dL_law_32 (by decide) (by decide) rfl (by decide) ?_
        exact k_L_law_b172 C hX hbl hE hLn N _ ih _ _ _ _ _ _ h rx3 _ _ _ _ _ hb hM (lv_sub hl [0, 1, 2, 3] rfl)
      replace h := if_f h c6
      by_cases c7 : a5 = 1
      · have h := if_t h c7
        refine m_tab (pc := 32) (tgt := 185) C ra5 c7 dL_law_32 (by decide) (by decide) rfl (by decide) ?_
        exact k_L_law_b185 C hX hbl hE hLn N _ ih _ _ _ _ _ _ h rx3 _ _ _ _ _ hb hM (lv_sub hl [0, 1, 2, 3] rfl)
      replace h := if_f h c7
      by_cases c8 : a5 = 2
      · have h := if_t h c8
        refine m_tab (pc := 32) (tgt := 218) C ra5 c8 dL_law_32 (by decide) (by decide) rfl (by decide) ?_
        exact k_L_law_b218 C hX hbl hE hLn N _ ih _ _ _ _ _ _ h rx3 _ _ _ _ _ hb hM (lv_sub hl [0, 1, 2, 3] rfl)
      replace h := if_f h c8
      by_cases c9 : a5 = 3
      · have h := if_t h c9
        refine m_tab (pc := 32) (tgt := 251) C ra5 c9 dL_law_32 (by decide) (by decide) rfl (by decide) ?_
        exact k_L_law_b251 C hX hbl hE hLn N _ ih _ _ _ _ _ _ h rx3 _ _ _ _ _ hb hM (lv_sub hl [0, 1, 2, 3] rfl)
      replace h := if_f h c9
      by_cases c10 : a5 = 4
      · have h := if_t h c10
        refine m_tab (pc := 32) (tgt := 284) C ra5 c10 dL_law_32 (by decide) (by decide) rfl (by decide) ?_
        exact k_L_law_b284 C hX hbl hE hLn N _ ih _ _ _ _ _ _ h rx3 _ _ _ _ _ hb hM (lv_sub hl [0, 1, 2, 3] rfl)
      replace h := if_f h c10
      by_cases c11 : a5 = 5
      · have h := if_t h c11
        refine m_tab (pc := 32) (tgt := 317) C ra5 c11 dL_law_32 (by decide) (by decide) rfl (by decide) ?_
        exact k_L_law_b317 C hX hbl hE hLn N _ ih _ _ _ _ _ _ h rx3 _ _ _ _ _ hb hM (lv_sub hl [0, 1, 2, 3] rfl)
      replace h := if_f h c11
      by_cases c12 : a5 = 6
      · have h := if_t h c12
        refine m_tab (pc := 32) (tgt := 360) C ra5 c12 dL_law_32 (by decide) (by decide) rfl (by decide) ?_
        exact k_L_law_b360 C hX hbl hE hLn N _ ih _ _ _ _ _ _ h rx3 _ _ _ _ _ hb hM (lv_sub hl [0, 1, 2, 3] rfl)
      replace h := if_f h c12
      by_cases c13 : a5 = 7
      · have h := if_t h c13
        refine m_tab (pc := 32) (tgt := 413) C ra5 c13 dL_law_32 (by decide) (by decide) rfl (by decide) ?_
        exact k_L_law_b413 C hX hbl hE hLn N _ ih _ _ _ _ _ _ h rx3 _ _ _ _ _ hb hM (lv_sub hl [0, 1, 2, 3] rfl)
      replace h := if_f h c13
      by_cases c14 : a5 = 8
      · have h := if_t h c14
        refine m_tab (pc := 32) (tgt := 446) C ra5 c14 dL_law_32 (by decide) (by decide) rfl (by decide) ?_
        exact k_L_law_b446 C hX hbl hE hLn N _ ih _ _ _ _ _ _ h rx3 _ _ _ _ _ hb hM (lv_sub hl [0, 1, 2, 3] rfl)
      replace h := if_f h c14
      by_cases c15 : a5 = 9
      · have h := if_t h c15
        refine m_tab (pc := 32) (tgt := 479) C ra5 c15 dL_law_32 (by decide) (by decide) rfl (by decide) ?_
        exact k_L_law_b479 C hX hbl hE hLn N _ ih _ _ _ _ _ _ h rx3 _ _ _ _ _ hb hM (lv_sub hl [0, 1, 2, 3] rfl)
      replace h := if_f h c15
      by_cases c16 : a5 = 10
      · have h := if_t h c16
        refine m_tab (pc := 32) (tgt := 512) C ra5 c16 dL_law_32 (by decide) (by decide) rfl (by decide) ?_
        exact k_L_law_b512 C hX hbl hE hLn N _ ih _ _ _ _ _ _ h rx3 _ _ _ _ _ hb hM (lv_sub hl [0, 1, 2, 3] rfl)
      replace h := if_f h c16
      by_cases c17 : a5 = 11
      · have h := if_t h c17
        refine m_tab (pc := 32) (tgt := 535) C ra5 c17 dL_law_32 (by decide) (by decide) rfl (by decide) ?_
        exact k_L_law_b535 C hX hbl hE hLn N _ ih _ _ _ _ _ _ h rx3 _ _ _ _ _ hb hM (lv_sub hl [0, 1, 2, 3] rfl)
      replace h := if_f h c17
      by_cases c18 : a5 = 12
      · have h := if_t h c18
        refine m_tab (pc := 32) (tgt := 568) C ra5 c18 dL_law_32 (by decide) (by decide) rfl (by decide) ?_
        exact k_L_law_b568 C hX hbl hE hLn N _ ih _ _ _ _ _ _ h rx3 _ _ _ _ _ hb hM (lv_sub hl [0, 1, 2, 3] rfl)
      replace h := if_f h c18
      by_cases c19 : a5 = 13
      · have h := if_t h c19
        refine m_tab (pc := 32) (tgt := 601) C ra5 c19 dL_law_32 (by decide) (by decide) rfl (by decide) ?_
        exact k_L_law_b601 C hX hbl hE hLn N _ ih _ _ _ _ _ _ h rx3 _ _ _ _ _ hb hM (lv_sub hl [0, 1, 2, 3] rfl)
      replace h := if_f h c19
      by_cases c20 : a5 = 14
      · have h := if_t h c20
        refine m_tab (pc := 32) (tgt := 624) C ra5 c20 dL_law_32 (by decide) (by decide) rfl (by decide) ?_
        exact k_L_law_b624 C hX hbl hE hLn N _ ih _ _ _ _ _ _ h rx3 _ _ _ _ _ hb hM (lv_sub hl [0, 1, 2, 3] rfl)
      replace h := if_f h c20
      by_cases c21 : a5 = 15
      · have h := if_t h c21
        refine m_tab (pc := 32) (tgt := 649) C ra5 c21 dL_law_32 (by decide) (by decide) rfl (by decide) ?_
        exact k_L_law_b649 C hX hbl hE hLn N _ ih _ _ _ _ _ _ h rx3 _ _ _ _ _ hb hM (lv_sub hl [0, 1, 2, 3] rfl)
      replace h := if_f h c21
      by_cases c22 : a5 = 16
      · have h := if_t h c22
        refine m_tab (pc := 32) (tgt := 662) C ra5 c22 dL_law_32 (by decide) (by decide) rfl (by decide) ?_
        exact k_L_law_b662 C hX hbl hE hLn N _ ih _ _ _ _ _ _ h rx3 _ _ _ _ _ hb hM (lv_sub hl [0, 1, 2, 3] rfl)
      replace h := if_f h c22
      by_cases c23 : a5 = 17
      · have h := if_t h c23
        refine m_tab (pc := 32) (tgt := 675) C ra5 c23 dL_law_32 (by decide) (by decide) rfl (by decide) ?_
        exact k_L_law_b675 C hX hbl hE hLn N _ ih _ _ _ _ _ _ h rx3 _ _ _ _ _ hb hM (lv_sub hl [0, 1, 2, 3] rfl)
      replace h := if_f h c23
      by_cases c24 : a5 = 18
      · have h := if_t h c24
        refine m_tab (pc := 32) (tgt := 688) C ra5 c24 dL_law_32 (by decide) (by decide) rfl (by decide) ?_
        exact k_L_law_b688 C hX hbl hE hLn N _ ih _ _ _ _ _ _ h rx3 _ _ _ _ _ hb hM (lv_sub hl [0, 1, 2, 3] rfl)
      replace h := if_f h c24
      by_cases c25 : a5 = 19
      · have h := if_t h c25
        refine m_tab (pc := 32) (tgt := 711) C ra5 c25 dL_law_32 (by decide) (by decide) rfl (by decide) ?_
        exact k_L_law_b711 C hX hbl hE hLn N _ ih _ _ _ _ _ _ h rx3 _ _ _ _ _ hb hM (lv_sub hl [0, 1, 2, 3] rfl)
      replace h := if_f h c25
      by_cases c26 : a5 = 20
      · have h := if_t h c26
        refine m_tab (pc := 32) (tgt := 734) C ra5 c26 dL_law_32 (by decide) (by decide) rfl (by decide) ?_
        exact k_L_law_b734 C hX hbl hE hLn N _ ih _ _ _ _ _ _ h rx3 _ _ _ _ _ hb hM (lv_sub hl [0, 1, 2, 3] rfl)
      replace h := if_f h c26
      by_cases c27 : a5 = 21
      · have h := if_t h c27
        refine m_tab (pc := 32) (tgt := 768) C ra5 c27 dL_law_32 (by decide) (by decide) rfl (by decide) ?_
        exact k_L_law_b768 C hX hbl hE hLn N _ ih _ _ _ _ _ _ h rx3 _ _ _ _ _ hb hM (lv_sub hl [0, 1, 2, 3] rfl)
      replace h := if_f h c27
      by_cases c28 : a5 = 22
      · have h := if_t h c28
        refine m_tab (pc := 32) (tgt := 801) C ra5 c28 dL_law_32 (by decide) (by decide) rfl (by decide) ?_
        exact k_L_law_b801 C hX hbl hE hLn N _ ih _ _ _ _ _ _ h rx3 _ _ _ _ _ hb hM (lv_sub hl [0, 1, 2, 3] rfl)
      replace h := if_f h c28
      by_cases c29 : a5 = 23
      · have h := if_t h c29
        refine m_tab (pc := 32) (tgt := 834) C ra5 c29 dL_law_32 (by decide) (by decide) rfl (by decide) ?_
        exact k_L_law_b834 C hX hbl hE hLn N _ ih _ _ _ _ _ _ h rx3 _ _ _ _ _ hb hM (lv_sub hl [0, 1, 2, 3] rfl)
      replace h := if_f h c29
      by_cases c30 : a5 = 24
      · have h := if_t h c30
        refine m_tab (pc := 32) (tgt := 857) C ra5 c30 dL_law_32 (by decide) (by decide) rfl (by decide) ?_
        exact k_L_law_b857 C hX hbl hE hLn N _ ih _ _ _ _ _ _ h rx3 _ _ _ _ _ hb hM (lv_sub hl [0, 1, 2, 3] rfl)
      replace h := if_f h c30
      by_cases c31 : a5 = 25
      · have h := if_t h c31
        refine m_tab (pc := 32) (tgt := 890) C ra5 c31 dL_law_32 (by decide) (by decide) rfl (by decide) ?_
        exact k_L_law_b890 C hX hbl hE hLn N _ ih _ _ _ _ _ _ h rx3 _ _ _ _ _ hb hM (lv_sub hl [0, 1, 2, 3] rfl)
      replace h := if_f h c31
      by_cases c32 : a5 = 26
      · have h := if_t h c32
        refine m_tab (pc := 32) (tgt := 903) C ra5 c32 dL_law_32 (by decide) (by decide) rfl (by decide) ?_
        exact k_L_law_b903 C hX hbl hE hLn N _ ih _ _ _ _ _ _ h rx3 _ _ _ _ _ hb hM (lv_sub hl [0, 1, 2, 3] rfl)
      replace h := if_f h c32
      by_cases c33 : a5 = 27
      · have h := if_t h c33
        refine m_tab (pc := 32) (tgt := 926) C ra5 c33 dL_law_32 (by decide) (by decide) rfl (by decide) ?_
        exact k_L_law_b926 C hX hbl hE hLn N _ ih _ _ _ _ _ _ h rx3 _ _ _ _ _ hb hM (lv_sub hl [0, 1, 2, 3] rfl)
      replace h := if_f h c33
      by_cases c34 : a5 = 28
      · have h := if_t h c34
        refine m_tab (pc := 32) (tgt := 959) C ra5 c34 dL_law_32 (by decide) (by decide) rfl (by decide) ?_
        exact k_L_law_b959 C hX hbl hE hLn N _ ih _ _ _ _ _ _ h rx3 _ _ _ _ _ hb hM (lv_sub hl [0, 1, 2, 3] rfl)
      replace h := if_f h c34
      by_cases c35 : a5 = 29
      · have h := if_t h c35
        refine m_tab (pc := 32) (tgt := 983) C ra5 c35 dL_law_32 (by decide) (by decide) rfl (by decide) ?_
        exact k_L_law_b983 C hX hbl hE hLn N _ ih _ _ _ _ _ _ h rx3 _ _ _ _ _ hb hM (lv_sub hl [0, 1, 2, 3] rfl)
      replace h := if_f h c35
      by_cases c36 : a5 = 30
      · have h := if_t h c36
        refine m_tab (pc := 32) (tgt := 1006) C ra5 c36 dL_law_32 (by decide) (by decide) rfl (by decide) ?_
        exact k_L_law_b1006 C hX hbl hE hLn N _ ih _ _ _ _ _ _ h rx3 _ _ _ _ _ hb hM (lv_sub hl [0, 1, 2, 3] rfl)
      replace h := if_f h c36
      refine m_tabD (pc := 32) (tgt := 1029) C ra5 dL_law_32 (by omega) (by decide) ?_
      exact k_L_law_b1029 C hX hbl hE hLn N _ ih _ _ _ _ _ _ h rx3 _ _ _ _ _ hb hM (lv_sub hl [0, 1, 2, 3] rfl)
set_option maxHeartbeats 4000000 in
set_option maxRecDepth 100000 in
theorem k_L_law (C : gCx p s m #[Value.ref b] meth c code 4 ret nmm R_law) (hX : va_X b L xs s s.heap) (hbl : b < s.heap.size) (hE : E.2.2.1 = s.heap.size) (hLn : L ≤ 2147483647) (N : Nat) {μ' : Mm} (μ : Mm) (h : f_L_law (fun i => (xs i.toNat).toInt) (L : Int) N μ = some (1, μ')) (ls : Array Slot) (hM : MS E μ s s.heap []) (hl : lv_has ls 4 [(0, .ref b)]) : W p l e room_1 s m #[Value.ref b] below meth c s.heap [] 0 0 (lw_Z below #[Value.ref b] s) (F0 m 0 ls []) := by
  have hsc : ∀ i : Int, R32 ((fun i : Int => (xs i.toNat).toInt) i) := fun i => R32_of _
  have hsl : R32 (L : Int) := ⟨by omega, by omega⟩
  unfold f_L_law at h
  have hb : ((0 : Nat) : Int) + 600000 ≤ 600000 ∧ (0 : Int) ≤ 600000 ∧ ((0 : Nat) : Int) + 7302250 ≤ 7302250 ∧ (0 : Int) ≤ 7302250 := by decide
  obtain ⟨q1, h⟩ := ck_some h
  obtain ⟨o3, eo3, h⟩ := nm_some h
  obtain ⟨μ2, eμ2, h⟩ := nm_some h
  have po3 : 1 ≤ o3 := by have := hM.wf.1; omega
  refine m_new (pc := 0) C KF_X7 hM bw_1_21 bw_1_22 bw_1_1 fl_X7 (by show _ + 1 ≤ 600000; omega) (by show _ + 7 ≤ 7302250; omega) eμ2 dL_law_0 (fun H hM => ?_)
  rw [← eo3]
  replace hb : ((0 + 1 : Nat) : Int) + (600000 - 1) ≤ 600000 ∧ (0 : Int) ≤ 600000 - 1 ∧ ((0 + 7 : Nat) : Int) + (7302250 - 7) ≤ 7302250 ∧ (0 : Int) ≤ 7302250 - 7 := by omega
  refine m_dup (pc := 3) C (vr_cat _ _) dL_law_3 ?_
  obtain ⟨q4, h⟩ := ck_some h
  obtain ⟨q5, h⟩ := ck_some h
  obtain ⟨a6, μ7, ca6, h⟩ := bd_some h
  refine V_X7_init (pc := 4) C hM ca6 q4 bw_1_23 ⟨Nat.le_of_ble_eq_true rfl, Nat.le_of_ble_eq_true rfl⟩ hl.1 (rcR rc0) ⟨by show _ + 719 ≤ 600000; omega, by show _ + 6003 ≤ 7302250; omega⟩ dL_law_4 (fun _ H locs hM => ?_)
  replace hb : ((0 + 1 + 719 : Nat) : Int) + (600000 - 1 - 719) ≤ 600000 ∧ (0 : Int) ≤ 600000 - 1 - 719 ∧ ((0 + 7 + 6003 : Nat) : Int) + (7302250 - 7 - 6003) ≤ 7302250 ∧ (0 : Int) ≤ 7302250 - 7 - 6003 := by omega
  refine m_astore_n (pc := 7) C dL_law_7 rfl hl (by decide) (lvK2 0 rfl (Nat.ne_of_beq_eq_false rfl) rfl lvK0) (fun ls hl => ?_)
  obtain ⟨q8, h⟩ := ck_some h
  obtain ⟨o10, eo10, h⟩ := nm_some h
  obtain ⟨μ9, eμ9, h⟩ := nm_some h
  have po10 : 1 ≤ o10 := by have := hM.wf.1; omega
  refine m_new (pc := 8) C KF_X8 hM bw_4_217 bw_4_218 bw_1_13 fl_X8 (by show _ + 1 ≤ 600000; omega) (by show _ + 15 ≤ 7302250; omega) eμ9 dL_law_8 (fun H hM => ?_)
  rw [← eo10]
  replace hb : ((0 + 1 + 719 + 1 : Nat) : Int) + (600000 - 1 - 719 - 1) ≤ 600000 ∧ (0 : Int) ≤ 600000 - 1 - 719 - 1 ∧ ((0 + 7 + 6003 + 15 : Nat) : Int) + (7302250 - 7 - 6003 - 15) ≤ 7302250 ∧ (0 : Int) ≤ 7302250 - 7 - 6003 - 15 := by omega
  refine m_dup (pc := 11) C (vr_cat _ _) dL_law_11 ?_
  obtain ⟨q11, h⟩ := ck_some h
  obtain ⟨q12, h⟩ := ck_some h
  obtain ⟨a13, μ14, ca13, h⟩ := bd_some h
  refine V_X8_init (pc := 12) C hM ca13 q11 bw_4_219 ⟨Nat.le_of_ble_eq_true rfl, Nat.le_of_ble_eq_true rfl⟩ hl.1 (rcR rc0) ⟨by show _ + 7 ≤ 600000; omega, by show _ + 5022 ≤ 7302250; omega⟩ dL_law_12 (fun _ H locs hM => ?_)
  replace hb : ((0 + 1 + 719 + 1 + 7 : Nat) : Int) + (600000 - 1 - 719 - 1 - 7) ≤ 600000 ∧ (0 : Int) ≤ 600000 - 1 - 719 - 1 - 7 ∧ ((0 + 7 + 6003 + 15 + 5022 : Nat) : Int) + (7302250 - 7 - 6003 - 15 - 5022) ≤ 7302250 ∧ (0 : Int) ≤ 7302250 - 7 - 6003 - 15 - 5022 := by omega
  refine m_astore_n (pc := 15) C dL_law_15 rfl hl (by decide) (lvK2 0 rfl (Nat.ne_of_beq_eq_false rfl) (vr_cat _ _) (lvK1 1 rfl (Nat.ne_of_beq_eq_false rfl) (Nat.ne_of_beq_eq_false rfl) lvK0)) (fun ls hl => ?_)
  refine m_iconst (pc := 16) C dL_law_16 ?_
  refine m_istore_n (pc := 17) C dL_law_17 rfl hl (by decide) (lvK2 0 rfl (Nat.ne_of_beq_eq_false rfl) (vr_cat _ _) (lvK1 1 rfl (Nat.ne_of_beq_eq_false rfl) (Nat.ne_of_beq_eq_false rfl) (lvK1 2 rfl (Nat.ne_of_beq_eq_false rfl) (Nat.ne_of_beq_eq_false rfl) lvK0))) (fun ls hl => ?_)
  exact k_L_law_b18 C hX hbl hE hLn N N _ _ _ _ _ _ h rk_0 _ _ _ _ _ hb hM (lv_sub hl [3, 2, 1, 0] rfl)
end LAWW
