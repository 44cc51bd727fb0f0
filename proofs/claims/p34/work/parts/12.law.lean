theorem rk_14 : R32 14 := ⟨by decide, by decide⟩
theorem rk_15 : R32 15 := ⟨by decide, by decide⟩
theorem rk_18 : R32 18 := ⟨by decide, by decide⟩
theorem rk_40 : R32 40 := ⟨by decide, by decide⟩
theorem rk_50 : R32 50 := ⟨by decide, by decide⟩
theorem rk_120 : R32 120 := ⟨by decide, by decide⟩
theorem rk_947 : R32 947 := ⟨by decide, by decide⟩
theorem rk_1001 : R32 1001 := ⟨by decide, by decide⟩
theorem rk_2150003 : R32 2150003 := ⟨by decide, by decide⟩
/-! THE CLAIM OUT OF ONE WALK OF THE LAW'S BODY. Your part is whole_start (and what it stands on); all else here is the same for every law, but numbers. -/
def R_law : String := "BondedStoreLaw"
def lw_P (b : Addr) (xs : List Int32) (args : Array Value) (s : State) : Prop := args = #[.ref b] ∧ s.IntsAt b xs ∧ xs.length ≤ 260 ∧ (Jvm.Cond.and given_1 narrow_1).before args s = true
def lw_Q (_ : Array Value) (s : State) (o : Outcome) (t : State) : Prop := o = .returned (some (.int 1)) ∧ Framed s o t [] 606929 7281462
def lw_Z (below : List Frame) (a : Array Value) (s : State) : State → Prop := fun t => ∃ o, t.status = .running ∧ Ended t below o ∧ lw_Q a s o t
/-- the law's own end, with 1 on the stack, nothing written that was there before, its room as the claim has it -/
theorem lw_ret {p : Program} {l : Launch} {e : Env} {s : State} {m : MethodId} {below : List Frame} {meth : Method} {c : Code} {b : Nat} (hx : p.tables.exec = Jvm.exec) (hb : c.code = code) (hr : meth.sig.returnType = ret) (hlocks : meth.locks = false) {pc : Nat} {H : Heap} {ls : Array Slot} (hdg : decode code pc = .ok (.ireturn, 1)) : W p l e room_1 s m #[Value.ref b] below meth c H [] 606929 7281462 (lw_Z below #[Value.ref b] s) (F0 m pc ls [.int 1]) := by
  intro T hT X
  obtain ⟨fs, hret, hrun, hended, hW, hframe⟩ := X.leave (v := some (.int 1)) (hlocks := hlocks) (fun h => by rw [hr] at h; cases h)
  have hmeth' : T.vm.method? m = some meth := X.method'
  refine ⟨T.setFrames fs, ?_, .returned (some (.int 1)), hrun, hended, rfl, ⟨_, rfl⟩, hW, hframe⟩
  jvm_step X.here [X.here.top, hx, hb, hdg, hmeth', hr, ret, narrow_b1]
  (try refine ⟨rfl, ?_⟩); (try refine ⟨rfl, ?_⟩)
  first | (intro acts; rw [hret _ acts rfl rfl rfl]) | rw [hret _ _ rfl rfl rfl]
  exact Steps.refl _
/-- what holds at the law's entry: the machine, the code, the tables' words (any of lw_tbl by 'hts w (by decide +kernel)'), the script of L ints xs at the cell b, what the Statement gives of the start (any of its parts by flat_of_before) -/
def lw_At (p : Program) (s : State) (m : MethodId) (meth : Method) (c : Code) (b L : Nat) (xs : Nat → Int32) : Prop :=
  p.tables.exec = Jvm.exec ∧ c.code = code ∧ meth.sig.returnType = ret ∧ c.maxLocals = 13 ∧ s.vm.findClass R_law = some m.cls ∧ (∀ w ∈ lw_tbl, w.before #[Value.ref b] s = true) ∧ va_X b L xs s s.heap ∧ b < s.heap.size ∧ meth.locks = false ∧ (Jvm.Cond.and given_1 narrow_1).before #[Value.ref b] s = true
section SCRIPT
variable {p : Program} {l : Launch} {e : Env} {R : Room} {s : State} {m : MethodId} {args : Array Value} {below : List Frame} {meth : Method} {c : Code} {H : Heap} {locs : List Loc} {cells slots : Nat} {Q : State → Prop} {cc : ByteArray} {pc nL : Nat} {ls : Array Slot} {rest : List Value} {ret : Option FieldType} {nmm own : String} {E : gE} {μ μ1 : Mm} {b L : Nat} {xs : Nat → Int32}
theorem m_sload (C : gCx p s m args meth c cc nL ret nmm own) {k : Fin 4} {i : Nat} (hdg : decode cc pc = .ok (.aload_n k, 1)) (hi : (k : Nat) = i) (hl : ls[i]? = some (.val (.ref b))) (kk : W p l e R s m args below meth c H locs cells slots Q (F0 m (pc + 1) ls (.ref b :: rest))) : W p l e R s m args below meth c H locs cells slots Q (F0 m pc ls rest) := lv_aload_n C.1.1 C.1.2.1 hdg hi hl kk
theorem m_sald (C : gCx p s m args meth c cc nL ret nmm own) (hM : MS E μ s H locs) (hX : va_X b L xs s s.heap) (hbl : b < s.heap.size) (hE : b < E.2.2.1) (hL : L ≤ 2147483647) {i : Int} (h0 : 0 ≤ i) (h1 : i < (L : Int)) (hdg : decode cc pc = .ok (.iaload, 1)) (kk : W p l e R s m args below meth c H locs cells slots Q (F0 m (pc + 1) ls (vi ((fun i : Int => (xs i.toNat).toInt) i) :: rest))) : W p l e R s m args below meth c H locs cells slots Q (F0 m pc ls (vi i :: .ref b :: rest)) := by
  have ri : R32 i := ⟨by omega, by omega⟩
  refine va_sld C.1.1 C.1.2.1 hX hbl (A := gA E) (by unfold gA; omega) hM.2.1 (i_in ri h0 h1) hdg ?_
  rw [i_clamp ri h0]
  have e9 : Int32.ofInt ((fun i : Int => (xs i.toNat).toInt) i) = xs i.toNat := Int32.ofInt_toInt _
  rw [← e9]
  exact kk
theorem m_slen (C : gCx p s m args meth c cc nL ret nmm own) (hM : MS E μ s H locs) (hX : va_X b L xs s s.heap) (hbl : b < s.heap.size) (hE : b < E.2.2.1) (hdg : decode cc pc = .ok (.arraylength, 1)) (kk : W p l e R s m args below meth c H locs cells slots Q (F0 m (pc + 1) ls (vi (L : Int) :: rest))) : W p l e R s m args below meth c H locs cells slots Q (F0 m pc ls (.ref b :: rest)) := by
  refine va_slen C.1.1 C.1.2.1 hX hbl (A := gA E) (by unfold gA; omega) hM.2.1 hdg ?_
  rw [← Int32.ofInt_eq_ofNat]
  exact kk
/-- a method that gets the script -/
def gMetX (l : Launch) (E : gE) (y : MethodName) (cc : ByteArray) (n : Nat) (ret : Option FieldType) (fr lo : Nat) (As : List Value) (rv : Option Value) (P : Prop) (μ μ' : Mm) (mc ms : Nat) (b L : Nat) (xs : Nat → Int32) : Prop := Met l y (wsB y cc n ret) ({ frames := fr, cells := mc, slots := ms, locals := lo }) (va_Pc As (fun U => MEM E μ U U.heap ∧ va_X b L xs U U.heap)) (gQ E rv P μ') mc ms (gA E)
theorem gPcX_blind {As : List Value} : FrameBlind (va_Pc As (fun U => MEM E μ U U.heap ∧ va_X b L xs U U.heap)) := fun a U g mk q => ⟨q.1, MEM.same (s := U) (U := U.calling g mk a) rfl q.2.1, va_X.moved (u := U) (U := U.calling g mk a) (Vm.Alike.refl U.vm) q.2.2⟩
theorem g_preX {As : List Value} (hM : MS E μ s H locs) (hX : va_X b L xs s s.heap) (hbl : b < s.heap.size) (hE : b < E.2.2.1) : ∀ U : State, U.heap = H → s.WarmedH U.vm → va_Pc As (fun U => MEM E μ U U.heap ∧ va_X b L xs U U.heap) As.toArray U := fun U hU hW => ⟨rfl, by
  show MEM E μ U U.heap ∧ va_X b L xs U U.heap
  rw [hU]
  exact ⟨hM.1.warm hW, (hX.moved hW.alike).kept (hM.2.1.2.1 b hbl (by unfold gA; omega))⟩⟩
theorem g_callSX (C : gCx p s m args meth c cc nL ret nmm own) (hM : MS E μ s H locs) (hX : va_X b L xs s s.heap) (hbl : b < s.heap.size) (hE : b < E.2.2.1) {y : MethodName} {bytes : ByteArray} {maxL fr lo mc ms index n : Nat} {rt : Option FieldType} {As st0 : List Value} {rv : Option Value} {P : Prop} (hMet : gMetX l E y bytes maxL rt fr lo As rv P μ μ1 mc ms b L xs) (hG : GoodIn bigL (va_wsS own index y (wsB y bytes maxL rt)))
    (hd : y.cls ≠ "java/lang/invoke/MethodHandle" ∧ y.cls ≠ "java/lang/invoke/VarHandle" ∧ (parseMethodDescriptor y.desc).map (fun d => d.parameters.length) = some n) (hR : fr + 1 ≤ R.frames ∧ 8 + (maxL + 11) + lo ≤ R.locals) (hn : As.length = n) (hl : ls.size = nL) (hst : st0 = As.reverse ++ rest) (hcat : RC rest 8) (hf : cells + mc ≤ R.cells ∧ slots + ms ≤ R.slots) (hdg : decode cc pc = .ok (.invokestatic index, 3))
    (kk : P → ∀ (H1 : Heap) (locs1 : List Loc), MS E μ1 s H1 locs1 → W p l e R s m args below meth c H1 locs1 (cells + mc) (slots + ms) Q (F0 m (pc + 3) ls (rv.toList ++ rest))) : W p l e R s m args below meth c H locs cells slots Q (F0 m pc ls st0) := by
  unfold gMetX at hMet
  refine g_back (va_runS C.1 hMet (va_cwS n C.1.2.2.2.2 hG rfl rfl rfl hd hR) ⟨gPcX_blind, g_preX hM hX hbl hE⟩ rfl hn hl hst (lv_room hcat) hdg hf) hM kk
theorem g_ofWX {y : MethodName} {cc : ByteArray} {n : Nat} {ret : Option FieldType} {fr lo : Nat} {As : List Value} {rv : Option Value} {P : Prop} {μ' : Mm} {mc ms : Nat} (cs : List Nat) (hcs : As.map Value.category = cs) (hn : cs.sum ≤ n) (hy : plainName y.cls = true)
    (body : ∀ (p : Program) (e : Env) (s : State) (m : MethodId) (below : List Frame) (meth : Method) (c : Code) (ls : Array Slot), gCx p s m As.toArray meth c cc n ret y.name y.cls → MS E μ s s.heap [] → va_X b L xs s s.heap → lv_has ls n (gpos 0 cs As) → W p l e ({ frames := fr, cells := mc, slots := ms, locals := lo }) s m As.toArray below meth c s.heap [] 0 0 (MQ below (gQ E rv P μ') As.toArray s mc ms (gA E)) (F0 m 0 ls [])) :
    gMetX l E y cc n ret fr lo As rv P μ μ' mc ms b L xs := by
  refine Met.ofW (cc := cc) (maxL := n) (ret := ret) hy rfl ?_
  intro p e s m args below meth c s₁ B hml hv
  obtain ⟨rfl, hM, hX⟩ := hv
  obtain ⟨ls, e1, hl⟩ := g_entry m As cs hcs hn
  rw [e1]
  have hts := atoms_spec (ws := wsB y cc n ret) B.pre
  refine body p e s m below meth c ls ⟨⟨B.exec, B.bytes, hml, findClass_of_methodNamed B.named, fun w hw => hts w (List.mem_cons_of_mem _ hw)⟩, B.returns, B.notSynchronized, (name_of_methodNamed B.named B.method).1⟩ ⟨hM, va_S.rf, ?_⟩ hX hl
  have := hM.2.2.2.1
  omega
end SCRIPT
def f_L_cell (sc : Int → Int) (sl : Int) (N : Nat) (x1 : Int) (μ : Mm) : Rs :=
  if sl ≤ x1 then
    (nm (w32 (2150003 * x1)) fun a3 =>
     nm (w32 (a3 + 947)) fun a4 =>
     some (a4, μ))
  else
  ck ((0 : Int) ≤ x1 ∧ x1 < sl) <|
  some (sc x1, μ)
set_option maxHeartbeats 4000000 in
set_option maxRecDepth 100000 in
theorem c_L_cell (l : Launch) (E : gE) (N : Nat) {b L : Nat} {xs : Nat → Int32} (x1 : Int) (μ μ' : Mm) (r : Int) (hE : b < E.2.2.1) (hLn : L ≤ 2147483647) (h : f_L_cell (fun i => (xs i.toNat).toInt) (L : Int) N x1 μ = some (r, μ')) (rx1 : R32 x1) : gMetX l E yL_cell cL_cell 2 (some .int) 0 0 [.ref b, vi x1] (some (vi r)) (R32 r) μ μ' 0 0 b L xs := by
  refine g_ofWX [1, 1] rfl (by decide) (by decide) (fun p e s m below meth c ls C hM hX hl => ?_)
  have hbl : b < s.heap.size := Nat.lt_of_lt_of_le hE hM.2.2
  have hsc : ∀ i : Int, R32 ((fun i : Int => (xs i.toNat).toInt) i) := fun i => R32_of _
  have hsl : R32 (L : Int) := ⟨by omega, by omega⟩
  replace C : gCx p s m _ meth c cL_cell 2 (some .int) "cell" RL := C
  replace hl : lv_has ls 2 [(0, .ref b), (1, vi x1)] := hl
  unfold f_L_cell at h
  refine m_iload_n (pc := 0) C dL_cell_0 rfl (lv_at hl 1 rfl) ?_
  refine m_sload (pc := 1) C dL_cell_1 rfl (lv_at hl 0 rfl) ?_
  refine m_slen (pc := 2) C hM hX hbl hE dL_cell_2 ?_
  refine m_icmp_ge (tgt := 12) (pc := 3) C rx1 hsl dL_cell_3 (by decide) (fun c2 => ?_) (fun c2 => ?_)
  · have h := if_t h c2
    refine m_ldc (n := 2150003) (pc := 12) C bw_3_16 rfl dL_cell_12 ?_
    refine m_iload_n (pc := 14) C dL_cell_14 rfl (lv_at hl 1 rfl) ?_
    obtain ⟨a3, ea3, h⟩ := nm_some h
    have ra3 : R32 a3 := by rw [ea3]; exact w32_R _
    refine m_imul (pc := 15) C dL_cell_15 ea3 ?_
    refine m_sipush (pc := 16) C dL_cell_16 rfl ?_
    obtain ⟨a4, ea4, h⟩ := nm_some h
    have ra4 : R32 a4 := by rw [ea4]; exact w32_R _
    refine m_iadd (pc := 19) C dL_cell_19 ea4 ?_
    cases h
    exact m_iret (pc := 20) C hM ra4 dL_cell_20
  · have h := if_f h c2
    refine m_sload (pc := 6) C dL_cell_6 rfl (lv_at hl 0 rfl) ?_
    refine m_iload_n (pc := 7) C dL_cell_7 rfl (lv_at hl 1 rfl) ?_
    obtain ⟨q5, h⟩ := ck_some h
    refine m_sald (pc := 8) C hM hX hbl hE hLn q5.1 q5.2 dL_cell_8 ?_
    refine m_goto (tgt := 20) (pc := 9) C dL_cell_9 (by decide) ?_
    cases h
    exact m_iret (pc := 20) C hM (hsc _) dL_cell_20
theorem hd_L_cell : yL_cell.cls ≠ "java/lang/invoke/MethodHandle" ∧ yL_cell.cls ≠ "java/lang/invoke/VarHandle" ∧ (parseMethodDescriptor yL_cell.desc).map (fun d => d.parameters.length) = some 2 := by decide +kernel
theorem V_L_cell {p : Program} {l : Launch} {e : Env} {R : Room} {s : State} {m : MethodId} {args : Array Value} {below : List Frame} {meth : Method} {c : Code} {H : Heap} {locs : List Loc} {cells slots : Nat} {Q : State → Prop} {cc : ByteArray} {pc nL : Nat} {ls : Array Slot} {rest : List Value} {ret : Option FieldType} {nmm own : String} {E : gE} {μ μ1 : Mm} {index : Nat} {b L : Nat} {xs : Nat → Int32} (C : gCx p s m args meth c cc nL ret nmm own) (hM : MS E μ s H locs) (hX : va_X b L xs s s.heap) (hbl : b < s.heap.size) (hE : b < E.2.2.1) (hLn : L ≤ 2147483647) {N : Nat} {x1 v : Int} (hc : f_L_cell (fun i => (xs i.toNat).toInt) (L : Int) N x1 μ = some (v, μ1)) (rx1 : R32 x1) (h1 : Cond.methodLink own index yL_cell ∈ bigL) (hR : 1 ≤ R.frames ∧ 21 ≤ R.locals) (hl : ls.size = nL) (hcat : RC rest 8) (hf : cells + 0 ≤ R.cells ∧ slots + 0 ≤ R.slots) (hdg : decode cc pc = .ok (.invokestatic index, 3)) (kk : R32 v → ∀ (H1 : Heap) (locs1 : List Loc), MS E μ1 s H1 locs1 → W p l e R s m args below meth c H1 locs1 (cells + 0) (slots + 0) Q (F0 m (pc + 3) ls (vi v :: rest))) : W p l e R s m args below meth c H locs cells slots Q (F0 m pc ls (vi x1 :: .ref b :: rest)) := g_callSX C hM hX hbl hE (c_L_cell l E N x1 μ μ1 v hE hLn hc rx1) (gS h1 bw_3_14 bw_1_0 bw_3_15) hd_L_cell hR rfl hl rfl hcat hf hdg kk
section LAWW
variable {p : Program} {l : Launch} {e : Env} {s : State} {m : MethodId} {below : List Frame} {meth : Method} {c : Code} {E : gE} {b L : Nat} {xs : Nat → Int32} {nmm : String}
def f_L_law_b579 (sc : Int → Int) (sl : Int) (N : Nat) (k102 : Int → Int → Int → Int → Int → Int → Mm → Rs) (x1 x2 x4 x5 x7 x9 bc bs : Int) (μ : Mm) : Rs :=
  if x9 = 0 then
    (some (0, μ))
  else
  bd (f_L_lots N x1 μ) fun a2 μ3 =>
  if a2 = 0 then
    (some (0, μ3))
  else
  bd (f_L_owners N x1 x7 μ3) fun a5 μ6 =>
  if a5 = 0 then
    (some (0, μ6))
  else
  bd (f_L_deadlines N x1 x7 μ6) fun a8 μ9 =>
  if a8 = 0 then
    (some (0, μ9))
  else
  ck (μ9 x1 (-2) = 9) <|
  bd (f_X7_count N x1 2 μ9) fun a12 μ13 =>
  if a12 ≤ 0 then
    (nm (w32 (x5 + 1)) fun a15 =>
     k102 x1 x2 x4 a15 bc bs μ13)
  else
  ck (μ13 x1 (-2) = 9) <|
  bd (f_X7_count N x1 2 μ13) fun a17 μ18 =>
  bd (f_L_low N x7 a17 μ18) fun a19 μ20 =>
  ck ((300 : Int) ≤ bc ∧ (60000 : Int) ≤ bs) <|
  bd (f_L_document N x1 a19 μ20) fun a22 μ23 =>
  if ¬ a22 = 0 then
    (nm (w32 (x5 + 1)) fun a25 =>
     k102 x1 x2 x4 a25 (bc - 300) (bs - 60000) μ23)
  else
  some (0, μ23)
def f_L_law_b158 (sc : Int → Int) (sl : Int) (N : Nat) (k102 : Int → Int → Int → Int → Int → Int → Mm → Rs) (x1 x2 x4 x5 x6 x7 bc bs : Int) (μ : Mm) : Rs :=
  bd (f_L_money N x1 x6 x7 μ) fun a1 μ2 =>
  f_L_law_b579 sc sl N k102 x1 x2 x4 x5 x7 a1 bc bs μ2
def f_L_law_b577 (sc : Int → Int) (sl : Int) (N : Nat) (k102 : Int → Int → Int → Int → Int → Int → Mm → Rs) (x1 x2 x4 x5 x7 y0 bc bs : Int) (μ : Mm) : Rs :=
  f_L_law_b579 sc sl N k102 x1 x2 x4 x5 x7 y0 bc bs μ
def f_L_law_b576 (sc : Int → Int) (sl : Int) (N : Nat) (k102 : Int → Int → Int → Int → Int → Int → Mm → Rs) (x1 x2 x4 x5 x7 bc bs : Int) (μ : Mm) : Rs :=
  f_L_law_b577 sc sl N k102 x1 x2 x4 x5 x7 0 bc bs μ
def f_L_law_b525 (sc : Int → Int) (sl : Int) (N : Nat) (k102 : Int → Int → Int → Int → Int → Int → Mm → Rs) (x1 x5 x7 y0 bc bs : Int) (μ : Mm) : Rs :=
  bd (f_L_digest N x1 μ) fun a1 μ2 =>
  f_L_law_b579 sc sl N k102 x1 a1 1 x5 x7 y0 bc bs μ2
def f_L_law_b495 (sc : Int → Int) (sl : Int) (N : Nat) (k102 : Int → Int → Int → Int → Int → Int → Mm → Rs) (x1 x2 x4 x5 x7 y0 bc bs : Int) (μ : Mm) : Rs :=
  f_L_law_b579 sc sl N k102 x1 x2 x4 x5 x7 y0 bc bs μ
def f_L_law_b494 (sc : Int → Int) (sl : Int) (N : Nat) (k102 : Int → Int → Int → Int → Int → Int → Mm → Rs) (x1 x2 x4 x5 x7 bc bs : Int) (μ : Mm) : Rs :=
  f_L_law_b495 sc sl N k102 x1 x2 x4 x5 x7 0 bc bs μ
def f_L_law_b384 (sc : Int → Int) (sl : Int) (N : Nat) (k102 : Int → Int → Int → Int → Int → Int → Mm → Rs) (x1 x2 x4 x5 x7 y0 bc bs : Int) (μ : Mm) : Rs :=
  f_L_law_b579 sc sl N k102 x1 x2 x4 x5 x7 y0 bc bs μ
def f_L_law_b383 (sc : Int → Int) (sl : Int) (N : Nat) (k102 : Int → Int → Int → Int → Int → Int → Mm → Rs) (x1 x2 x4 x5 x7 bc bs : Int) (μ : Mm) : Rs :=
  f_L_law_b384 sc sl N k102 x1 x2 x4 x5 x7 0 bc bs μ
def f_L_law_b317 (sc : Int → Int) (sl : Int) (N : Nat) (k102 : Int → Int → Int → Int → Int → Int → Mm → Rs) (x1 x2 x4 x5 x7 y0 bc bs : Int) (μ : Mm) : Rs :=
  f_L_law_b579 sc sl N k102 x1 x2 x4 x5 x7 y0 bc bs μ
def f_L_law_b299 (sc : Int → Int) (sl : Int) (N : Nat) (k102 : Int → Int → Int → Int → Int → Int → Mm → Rs) (x1 x2 x4 x5 x7 x10 y0 bc bs : Int) (μ : Mm) : Rs :=
  ck (μ x1 (-2) = 9) <|
  bd (f_X7_prove N x1 x10 μ) fun a2 μ3 =>
  if ¬ a2 = y0 then
    (f_L_law_b317 sc sl N k102 x1 x2 x4 x5 x7 0 bc bs μ3)
  else
  f_L_law_b317 sc sl N k102 x1 x2 x4 x5 x7 1 bc bs μ3
def f_L_law_b265 (sc : Int → Int) (sl : Int) (N : Nat) (k102 : Int → Int → Int → Int → Int → Int → Mm → Rs) (x1 x2 x4 x5 x7 y0 bc bs : Int) (μ : Mm) : Rs :=
  if 0 ≤ y0 then
    (ck (μ x1 (-2) = 9) <|
     bd (f_X7_exported N x1 y0 4 μ) fun a3 μ4 =>
     if a3 = 0 then
       (ck (μ4 x1 (-2) = 9) <|
        bd (f_X7_exported N x1 y0 2 μ4) fun a7 μ8 =>
        f_L_law_b299 sc sl N k102 x1 x2 x4 x5 x7 y0 a7 bc bs μ8)
     else
     f_L_law_b299 sc sl N k102 x1 x2 x4 x5 x7 y0 ((-100000003)) bc bs μ4)
  else
  f_L_law_b299 sc sl N k102 x1 x2 x4 x5 x7 y0 ((-100000001)) bc bs μ
def f_L_law_b102 (sc : Int → Int) (sl : Int) (N : Nat) : Nat → Int → Int → Int → Int → Int → Int → Mm → Rs
  | 0, _, _, _, _, _, _, _ => none
  | n + 1, x1, x2, x4, x5, bc, bs, μ =>
    if 40 ≤ x5 then
      (some (1, μ))
    else
    nm (w32 (2 * x5)) fun a2 =>
    bd (f_L_cell sc sl N a2 μ) fun a3 μ4 =>
    nm (w32 (2 * x5)) fun a5 =>
    nm (w32 (a5 + 1)) fun a6 =>
    bd (f_L_cell sc sl N a6 μ4) fun a7 μ8 =>
    nm (o_shr a3 16) fun a9 =>
    bd (f_L_low N a9 18 μ8) fun a10 μ11 =>
    if x5 < 4 then
      (f_L_law_b158 sc sl N (f_L_law_b102 sc sl N n) x1 x2 x4 x5 a3 a7 bc bs μ11)
    else
    if 3 ≤ a10 then
      (if 6 ≤ a10 then
         (if 11 ≤ a10 then
            (if ¬ a10 = 11 then
               (if ¬ a10 = 12 then
                  (if ¬ a10 = 13 then
                     (if ¬ a10 = 14 then
                        (if ¬ a10 = 15 then
                           (if ¬ a10 = 16 then
                              (f_L_law_b579 sc sl N (f_L_law_b102 sc sl N n) x1 x2 x4 x5 a7 1 bc bs μ11)
                            else
                            if x4 = 0 then
                              (f_L_law_b579 sc sl N (f_L_law_b102 sc sl N n) x1 x2 x4 x5 a7 1 bc bs μ11)
                            else
                            ck (μ11 x1 (-2) = 9) <|
                            bd (f_X7_restore N x1 1 μ11) fun a24 μ25 =>
                            ck (μ25 x1 (-2) = 9) <|
                            bd (f_X7_count N x1 2 μ25) fun a27 μ28 =>
                            if ¬ a24 = a27 then
                              (f_L_law_b576 sc sl N (f_L_law_b102 sc sl N n) x1 x2 x4 x5 a7 bc bs μ28)
                            else
                            bd (f_L_digest N x1 μ28) fun a30 μ31 =>
                            if ¬ a30 = x2 then
                              (f_L_law_b576 sc sl N (f_L_law_b102 sc sl N n) x1 x2 x4 x5 a7 bc bs μ31)
                            else
                            f_L_law_b577 sc sl N (f_L_law_b102 sc sl N n) x1 x2 x4 x5 a7 1 bc bs μ31)
                         else
                         ck (μ11 x1 (-2) = 9) <|
                         bd (f_X7_keep N x1 1 μ11) fun a34 μ35 =>
                         ck (μ35 x1 (-2) = 9) <|
                         bd (f_X7_count N x1 2 μ35) fun a37 μ38 =>
                         if ¬ a34 = a37 then
                           (f_L_law_b525 sc sl N (f_L_law_b102 sc sl N n) x1 x5 a7 0 bc bs μ38)
                         else
                         f_L_law_b525 sc sl N (f_L_law_b102 sc sl N n) x1 x5 a7 1 bc bs μ38)
                      else
                      ck (μ11 x1 (-2) = 9) <|
                      bd (f_X7_count N x1 8 μ11) fun a41 μ42 =>
                      bd (f_L_low N a7 101 μ42) fun a43 μ44 =>
                      nm (o_shr a7 7) fun a45 =>
                      bd (f_L_low N a45 200 μ44) fun a46 μ47 =>
                      nm (o_shr a7 11) fun a48 =>
                      bd (f_L_low N a48 50 μ47) fun a49 μ50 =>
                      ck (μ50 x1 (-2) = 9) <|
                      bd (f_X7_setRules N x1 a43 a46 a49 μ50) fun a52 μ53 =>
                      if ¬ a52 = a41 then
                        (f_L_law_b494 sc sl N (f_L_law_b102 sc sl N n) x1 x2 x4 x5 a7 bc bs μ53)
                      else
                      bd (f_L_low N a3 120 μ53) fun a55 μ56 =>
                      nm (w32 (1 + a55)) fun a57 =>
                      nm (o_shr a3 3) fun a58 =>
                      bd (f_L_low N a58 60 μ56) fun a59 μ60 =>
                      nm (w32 (1 + a59)) fun a61 =>
                      ck (μ60 x1 (-2) = 9) <|
                      bd (f_X7_setTerms N x1 a57 a61 μ60) fun a63 μ64 =>
                      if a63 ≤ 0 then
                        (f_L_law_b494 sc sl N (f_L_law_b102 sc sl N n) x1 x2 x4 x5 a7 bc bs μ64)
                      else
                      bd (f_L_low N a3 6 μ64) fun a66 μ67 =>
                      bd (f_L_low N a7 1001 μ67) fun a68 μ69 =>
                      ck (μ69 x1 (-2) = 9) <|
                      bd (f_X7_setRate N x1 a66 a68 μ69) fun a71 μ72 =>
                      if a71 < 0 then
                        (f_L_law_b494 sc sl N (f_L_law_b102 sc sl N n) x1 x2 x4 x5 a7 bc bs μ72)
                      else
                      f_L_law_b495 sc sl N (f_L_law_b102 sc sl N n) x1 x2 x4 x5 a7 1 bc bs μ72)
                   else
                   bd (f_L_low N a7 50 μ11) fun a74 μ75 =>
                   nm (w32 (1 + a74)) fun a76 =>
                   ck (μ75 x1 (-2) = 9) <|
                   bd (f_X7_calledIn N x1 a76 μ75) fun a78 μ79 =>
                   ck (μ79 x1 (-2) = 9) <|
                   bd (f_X7_count N x1 0 μ79) fun a81 μ82 =>
                   ck (μ82 x1 (-2) = 9) <|
                   bd (f_X7_pass N x1 a76 μ82) fun a84 μ85 =>
                   if ¬ a84 = a78 then
                     (f_L_law_b383 sc sl N (f_L_law_b102 sc sl N n) x1 x2 x4 x5 a7 bc bs μ85)
                   else
                   ck (μ85 x1 (-2) = 9) <|
                   bd (f_X7_count N x1 0 μ85) fun a88 μ89 =>
                   nm (w32 (a81 + a76)) fun a90 =>
                   if ¬ a88 = a90 then
                     (f_L_law_b383 sc sl N (f_L_law_b102 sc sl N n) x1 x2 x4 x5 a7 bc bs μ89)
                   else
                   f_L_law_b384 sc sl N (f_L_law_b102 sc sl N n) x1 x2 x4 x5 a7 1 bc bs μ89)
                else
                ck (μ11 x1 (-2) = 9) <|
                bd (f_X7_count N x1 3 μ11) fun a93 μ94 =>
                if ¬ a93 = 0 then
                  (ck (μ94 x1 (-2) = 9) <|
                   bd (f_X7_count N x1 3 μ94) fun a97 μ98 =>
                   bd (f_L_low N a3 a97 μ98) fun a99 μ100 =>
                   f_L_law_b265 sc sl N (f_L_law_b102 sc sl N n) x1 x2 x4 x5 a7 a99 bc bs μ100)
                else
                f_L_law_b265 sc sl N (f_L_law_b102 sc sl N n) x1 x2 x4 x5 a7 ((-1)) bc bs μ94)
             else
             bd (f_L_orders N x1 a3 a7 μ11) fun a101 μ102 =>
             f_L_law_b579 sc sl N (f_L_law_b102 sc sl N n) x1 x2 x4 x5 a7 a101 bc bs μ102)
          else
          nm (w32 (a10 - 6)) fun a103 =>
          ck ((10 : Int) ≤ bc ∧ (2000 : Int) ≤ bs) <|
          bd (f_L_moves N x1 a103 a3 a7 μ11) fun a105 μ106 =>
          f_L_law_b579 sc sl N (f_L_law_b102 sc sl N n) x1 x2 x4 x5 a7 a105 (bc - 10) (bs - 2000) μ106)
       else
       bd (f_L_enters N x1 a3 a7 μ11) fun a107 μ108 =>
       f_L_law_b579 sc sl N (f_L_law_b102 sc sl N n) x1 x2 x4 x5 a7 a107 bc bs μ108)
    else
    f_L_law_b158 sc sl N (f_L_law_b102 sc sl N n) x1 x2 x4 x5 a3 a7 bc bs μ11
def f_L_law (sc : Int → Int) (sl : Int) (N : Nat) (μ : Mm) : Rs :=
  ck ((1 : Int) ≤ 606929 ∧ (7 : Int) ≤ 7281462) <|
  nm (μ 0 0 + 1) fun o3 =>
  nm (mnew μ 9 0 7) fun μ2 =>
  ck ((1 : Int) ≤ o3) <|
  ck ((719 : Int) ≤ (606929 - 1) ∧ (6003 : Int) ≤ (7281462 - 7)) <|
  bd (f_X7_init N o3 μ2) fun a6 μ7 =>
  ck (μ7 o3 (-2) = 9) <|
  bd (f_X7_undo N o3 μ7) fun a9 μ10 =>
  if ¬ a9 = ((-100000005)) then
    (some (0, μ10))
  else
  ck (μ10 o3 (-2) = 9) <|
  bd (f_X7_restore N o3 0 μ10) fun a13 μ14 =>
  if ¬ a13 = ((-100000005)) then
    (some (0, μ14))
  else
  ck (μ14 o3 (-2) = 9) <|
  bd (f_X7_restore N o3 2 μ14) fun a17 μ18 =>
  if ¬ a17 = ((-100000001)) then
    (some (0, μ18))
  else
  ck (μ18 o3 (-2) = 9) <|
  bd (f_X7_keep N o3 ((-1)) μ18) fun a21 μ22 =>
  if ¬ a21 = ((-100000001)) then
    (some (0, μ22))
  else
  ck (μ22 o3 (-2) = 9) <|
  bd (f_X7_nextDeadline N o3 μ22) fun a25 μ26 =>
  if ¬ a25 = ((-100000005)) then
    (some (0, μ26))
  else
  ck (μ26 o3 (-2) = 9) <|
  bd (f_X7_setTerms N o3 0 1 μ26) fun a29 μ30 =>
  if ¬ a29 = ((-100000002)) then
    (some (0, μ30))
  else
  ck (μ30 o3 (-2) = 9) <|
  bd (f_X7_setRules N o3 101 0 0 μ30) fun a33 μ34 =>
  if ¬ a33 = ((-100000002)) then
    (some (0, μ34))
  else
  ck (μ34 o3 (-2) = 9) <|
  bd (f_X7_setRate N o3 6 0 μ34) fun a37 μ38 =>
  if a37 = ((-100000001)) then
    (f_L_law_b102 sc sl N N o3 0 0 0 (606929 - 1 - 719) (7281462 - 7 - 6003) μ38)
  else
  some (0, μ38)
set_option maxHeartbeats 4000000 in
set_option maxRecDepth 100000 in
theorem k_L_law_b579 (C : gCx p s m #[Value.ref b] meth c code 13 ret nmm R_law) (hX : va_X b L xs s s.heap) (hbl : b < s.heap.size) (hE : E.2.2.1 = s.heap.size) (hLn : L ≤ 2147483647) (N : Nat) {μ' : Mm} (k102 : Int → Int → Int → Int → Int → Int → Mm → Rs) (hk102 : ∀ (x1 x2 x4 x5 bc bs : Int) (μ : Mm), k102 x1 x2 x4 x5 bc bs μ = some (1, μ') → R64 x2 → R32 x4 → R32 x5 → ∀ (H : Heap) (locs : List Loc) (ls : Array Slot) (cells slots : Nat), (cells : Int) + bc ≤ 606929 ∧ 0 ≤ bc ∧ (slots : Int) + bs ≤ 7281462 ∧ 0 ≤ bs → MS E μ s H locs → lv_has ls 13 [(0, .ref b), (1, vr E x1), (2, vl x2), (4, vi x4), (5, vi x5)] → W p l e room_1 s m #[Value.ref b] below meth c H locs cells slots (lw_Z below #[Value.ref b] s) (F0 m 102 ls [])) : ∀ (x1 x2 x4 x5 x7 x9 bc bs : Int) (μ : Mm), f_L_law_b579 (fun i => (xs i.toNat).toInt) (L : Int) N k102 x1 x2 x4 x5 x7 x9 bc bs μ = some (1, μ') → R64 x2 → R32 x4 → R32 x5 → R32 x7 → R32 x9 → ∀ (H : Heap) (locs : List Loc) (ls : Array Slot) (cells slots : Nat), (cells : Int) + bc ≤ 606929 ∧ 0 ≤ bc ∧ (slots : Int) + bs ≤ 7281462 ∧ 0 ≤ bs → MS E μ s H locs → lv_has ls 13 [(0, .ref b), (1, vr E x1), (2, vl x2), (4, vi x4), (5, vi x5), (7, vi x7), (9, vi x9)] → W p l e room_1 s m #[Value.ref b] below meth c H locs cells slots (lw_Z below #[Value.ref b] s) (F0 m 579 ls []) := by
  have hsc : ∀ i : Int, R32 ((fun i : Int => (xs i.toNat).toInt) i) := fun i => R32_of _
  have hsl : R32 (L : Int) := ⟨by omega, by omega⟩
  intro x1 x2 x4 x5 x7 x9 bc bs μ h rx2 rx4 rx5 rx7 rx9 H locs ls cells slots hb hM hl
  unfold f_L_law_b579 at h
  refine m_iload (pc := 579) C dL_law_579 (lv_at hl 6 rfl) ?_
  refine m_if_eq (tgt := 634) (pc := 581) C rx9 dL_law_581 (by decide) (fun c1 => ?_) (fun c1 => ?_)
  · have h := if_t h c1
    refine m_iconst (pc := 634) C dL_law_634 ?_
    simp at h
  · have h := if_f h c1
    refine m_aload_n (pc := 584) C dL_law_584 rfl (lv_at hl 1 rfl) ?_
    obtain ⟨a2, μ3, ca2, h⟩ := bd_some h
    refine V_L_lots (pc := 585) C hM ca2 bw_3_80 ⟨Nat.le_of_ble_eq_true rfl, Nat.le_of_ble_eq_true rfl⟩ hl.1 rc0 ⟨by show _ + 0 ≤ 606929; omega, by show _ + 0 ≤ 7281462; omega⟩ dL_law_585 (fun ra2 H locs hM => ?_)
    refine m_if_eq (tgt := 634) (pc := 588) C ra2 dL_law_588 (by decide) (fun c4 => ?_) (fun c4 => ?_)
    · have h := if_t h c4
      refine m_iconst (pc := 634) C dL_law_634 ?_
      simp at h
    · have h := if_f h c4
      refine m_aload_n (pc := 591) C dL_law_591 rfl (lv_at hl 1 rfl) ?_
      refine m_iload (pc := 592) C dL_law_592 (lv_at hl 5 rfl) ?_
      obtain ⟨a5, μ6, ca5, h⟩ := bd_some h
      refine V_L_owners (pc := 594) C hM ca5 rx7 bw_3_86 ⟨Nat.le_of_ble_eq_true rfl, Nat.le_of_ble_eq_true rfl⟩ hl.1 rc0 ⟨by show _ + 0 ≤ 606929; omega, by show _ + 0 ≤ 7281462; omega⟩ dL_law_594 (fun ra5 H locs hM => ?_)
      refine m_if_eq (tgt := 634) (pc := 597) C ra5 dL_law_597 (by decide) (fun c7 => ?_) (fun c7 => ?_)
      · have h := if_t h c7
        refine m_iconst (pc := 634) C dL_law_634 ?_
        simp at h
      · have h := if_f h c7
        refine m_aload_n (pc := 600) C dL_law_600 rfl (lv_at hl 1 rfl) ?_
        refine m_iload (pc := 601) C dL_law_601 (lv_at hl 5 rfl) ?_
        obtain ⟨a8, μ9, ca8, h⟩ := bd_some h
        refine V_L_deadlines (pc := 603) C hM ca8 rx7 bw_3_105 ⟨Nat.le_of_ble_eq_true rfl, Nat.le_of_ble_eq_true rfl⟩ hl.1 rc0 ⟨by show _ + 0 ≤ 606929; omega, by show _ + 0 ≤ 7281462; omega⟩ dL_law_603 (fun ra8 H locs hM => ?_)
        refine m_if_eq (tgt := 634) (pc := 606) C ra8 dL_law_606 (by decide) (fun c10 => ?_) (fun c10 => ?_)
        · have h := if_t h c10
          refine m_iconst (pc := 634) C dL_law_634 ?_
          simp at h
        · have h := if_f h c10
          refine m_aload_n (pc := 609) C dL_law_609 rfl (lv_at hl 1 rfl) ?_
          refine m_iconst (pc := 610) C dL_law_610 ?_
          obtain ⟨q11, h⟩ := ck_some h
          obtain ⟨a12, μ13, ca12, h⟩ := bd_some h
          refine V_X7_count (pc := 611) C hM ca12 rk_2 q11 bw_3_4 ⟨Nat.le_of_ble_eq_true rfl, Nat.le_of_ble_eq_true rfl⟩ hl.1 rc0 ⟨by show _ + 0 ≤ 606929; omega, by show _ + 0 ≤ 7281462; omega⟩ dL_law_611 (fun ra12 H locs hM => ?_)
          refine m_if_le (tgt := 636) (pc := 614) C ra12 dL_law_614 (by decide) (fun c14 => ?_) (fun c14 => ?_)
          · have h := if_t h c14
            obtain ⟨a15, ea15, h⟩ := nm_some h
            have ra15 : R32 a15 := by rw [ea15]; exact w32_R _
            refine m_iinc (k := 4) (pc := 636) C dL_law_636 hl rfl (by decide) ea15 (lvK1 0 rfl (Nat.ne_of_beq_eq_false rfl) (Nat.ne_of_beq_eq_false rfl) (lvK1 1 rfl (Nat.ne_of_beq_eq_false rfl) (Nat.ne_of_beq_eq_false rfl) (lvK1 2 rfl (Nat.ne_of_beq_eq_false rfl) (Nat.ne_of_beq_eq_false rfl) (lvK2 3 rfl (Nat.ne_of_beq_eq_false rfl) rfl lvK0)))) (fun ls hl => ?_)
            refine m_goto (tgt := 102) (pc := 639) C dL_law_639 (by decide) ?_
            exact hk102 _ _ _ _ _ _ _ h rx2 rx4 ra15 _ _ _ _ _ hb hM (lv_sub hl [1, 2, 3, 4, 0] rfl)
          · have h := if_f h c14
            refine m_aload_n (pc := 617) C dL_law_617 rfl (lv_at hl 1 rfl) ?_
            refine m_iload (pc := 618) C dL_law_618 (lv_at hl 5 rfl) ?_
            refine m_aload_n (pc := 620) C dL_law_620 rfl (lv_at hl 1 rfl) ?_
            refine m_iconst (pc := 621) C dL_law_621 ?_
            obtain ⟨q16, h⟩ := ck_some h
            obtain ⟨a17, μ18, ca17, h⟩ := bd_some h
            refine V_X7_count (pc := 622) C hM ca17 rk_2 q16 bw_3_4 ⟨Nat.le_of_ble_eq_true rfl, Nat.le_of_ble_eq_true rfl⟩ hl.1 (rcI (rcR rc0)) ⟨by show _ + 0 ≤ 606929; omega, by show _ + 0 ≤ 7281462; omega⟩ dL_law_622 (fun ra17 H locs hM => ?_)
            obtain ⟨a19, μ20, ca19, h⟩ := bd_some h
            refine V_L_low (pc := 625) C hM ca19 rx7 ra17 bw_3_17 ⟨Nat.le_of_ble_eq_true rfl, Nat.le_of_ble_eq_true rfl⟩ hl.1 (rcR rc0) ⟨by show _ + 0 ≤ 606929; omega, by show _ + 0 ≤ 7281462; omega⟩ dL_law_625 (fun ra19 H locs hM => ?_)
            obtain ⟨q21, h⟩ := ck_some h
            obtain ⟨a22, μ23, ca22, h⟩ := bd_some h
            refine V_L_document (pc := 628) C hM ca22 ra19 bw_3_109 ⟨Nat.le_of_ble_eq_true rfl, Nat.le_of_ble_eq_true rfl⟩ hl.1 rc0 ⟨by show _ + 300 ≤ 606929; omega, by show _ + 60000 ≤ 7281462; omega⟩ dL_law_628 (fun ra22 H locs hM => ?_)
            replace hb : ((cells + 300 : Nat) : Int) + (bc - 300) ≤ 606929 ∧ (0 : Int) ≤ bc - 300 ∧ ((slots + 60000 : Nat) : Int) + (bs - 60000) ≤ 7281462 ∧ (0 : Int) ≤ bs - 60000 := by omega
            refine m_if_ne (tgt := 636) (pc := 631) C ra22 dL_law_631 (by decide) (fun c24 => ?_) (fun c24 => ?_)
            · have h := if_t h c24
              obtain ⟨a25, ea25, h⟩ := nm_some h
              have ra25 : R32 a25 := by rw [ea25]; exact w32_R _
              refine m_iinc (k := 4) (pc := 636) C dL_law_636 hl rfl (by decide) ea25 (lvK1 0 rfl (Nat.ne_of_beq_eq_false rfl) (Nat.ne_of_beq_eq_false rfl) (lvK1 1 rfl (Nat.ne_of_beq_eq_false rfl) (Nat.ne_of_beq_eq_false rfl) (lvK1 2 rfl (Nat.ne_of_beq_eq_false rfl) (Nat.ne_of_beq_eq_false rfl) (lvK2 3 rfl (Nat.ne_of_beq_eq_false rfl) rfl lvK0)))) (fun ls hl => ?_)
              refine m_goto (tgt := 102) (pc := 639) C dL_law_639 (by decide) ?_
              exact hk102 _ _ _ _ _ _ _ h rx2 rx4 ra25 _ _ _ _ _ hb hM (lv_sub hl [1, 2, 3, 4, 0] rfl)
            · have h := if_f h c24
              refine m_iconst (pc := 634) C dL_law_634 ?_
              simp at h
set_option maxHeartbeats 4000000 in
set_option maxRecDepth 100000 in
theorem k_L_law_b158 (C : gCx p s m #[Value.ref b] meth c code 13 ret nmm R_law) (hX : va_X b L xs s s.heap) (hbl : b < s.heap.size) (hE : E.2.2.1 = s.heap.size) (hLn : L ≤ 2147483647) (N : Nat) {μ' : Mm} (k102 : Int → Int → Int → Int → Int → Int → Mm → Rs) (hk102 : ∀ (x1 x2 x4 x5 bc bs : Int) (μ : Mm), k102 x1 x2 x4 x5 bc bs μ = some (1, μ') → R64 x2 → R32 x4 → R32 x5 → ∀ (H : Heap) (locs : List Loc) (ls : Array Slot) (cells slots : Nat), (cells : Int) + bc ≤ 606929 ∧ 0 ≤ bc ∧ (slots : Int) + bs ≤ 7281462 ∧ 0 ≤ bs → MS E μ s H locs → lv_has ls 13 [(0, .ref b), (1, vr E x1), (2, vl x2), (4, vi x4), (5, vi x5)] → W p l e room_1 s m #[Value.ref b] below meth c H locs cells slots (lw_Z below #[Value.ref b] s) (F0 m 102 ls [])) : ∀ (x1 x2 x4 x5 x6 x7 bc bs : Int) (μ : Mm), f_L_law_b158 (fun i => (xs i.toNat).toInt) (L : Int) N k102 x1 x2 x4 x5 x6 x7 bc bs μ = some (1, μ') → R64 x2 → R32 x4 → R32 x5 → R32 x6 → R32 x7 → ∀ (H : Heap) (locs : List Loc) (ls : Array Slot) (cells slots : Nat), (cells : Int) + bc ≤ 606929 ∧ 0 ≤ bc ∧ (slots : Int) + bs ≤ 7281462 ∧ 0 ≤ bs → MS E μ s H locs → lv_has ls 13 [(0, .ref b), (1, vr E x1), (2, vl x2), (4, vi x4), (5, vi x5), (6, vi x6), (7, vi x7)] → W p l e room_1 s m #[Value.ref b] below meth c H locs cells slots (lw_Z below #[Value.ref b] s) (F0 m 158 ls []) := by
  have hsc : ∀ i : Int, R32 ((fun i : Int => (xs i.toNat).toInt) i) := fun i => R32_of _
  have hsl : R32 (L : Int) := ⟨by omega, by omega⟩
  intro x1 x2 x4 x5 x6 x7 bc bs μ h rx2 rx4 rx5 rx6 rx7 H locs ls cells slots hb hM hl
  unfold f_L_law_b158 at h
  refine m_aload_n (pc := 158) C dL_law_158 rfl (lv_at hl 1 rfl) ?_
  refine m_iload (pc := 159) C dL_law_159 (lv_at hl 5 rfl) ?_
  refine m_iload (pc := 161) C dL_law_161 (lv_at hl 6 rfl) ?_
  obtain ⟨a1, μ2, ca1, h⟩ := bd_some h
  refine V_L_money (pc := 163) C hM ca1 rx6 rx7 bw_4_132 ⟨Nat.le_of_ble_eq_true rfl, Nat.le_of_ble_eq_true rfl⟩ hl.1 rc0 ⟨by show _ + 0 ≤ 606929; omega, by show _ + 0 ≤ 7281462; omega⟩ dL_law_163 (fun ra1 H locs hM => ?_)
  refine m_istore (pc := 166) C dL_law_166 hl (by decide) (lvK1 0 rfl (Nat.ne_of_beq_eq_false rfl) (Nat.ne_of_beq_eq_false rfl) (lvK1 1 rfl (Nat.ne_of_beq_eq_false rfl) (Nat.ne_of_beq_eq_false rfl) (lvK1 2 rfl (Nat.ne_of_beq_eq_false rfl) (Nat.ne_of_beq_eq_false rfl) (lvK1 3 rfl (Nat.ne_of_beq_eq_false rfl) (Nat.ne_of_beq_eq_false rfl) (lvK1 4 rfl (Nat.ne_of_beq_eq_false rfl) (Nat.ne_of_beq_eq_false rfl) (lvK1 6 rfl (Nat.ne_of_beq_eq_false rfl) (Nat.ne_of_beq_eq_false rfl) lvK0)))))) (fun ls hl => ?_)
  refine m_goto (tgt := 579) (pc := 168) C dL_law_168 (by decide) ?_
  exact k_L_law_b579 C hX hbl hE hLn N _ hk102 _ _ _ _ _ _ _ _ _ h rx2 rx4 rx5 rx7 ra1 _ _ _ _ _ hb hM (lv_sub hl [1, 2, 3, 4, 5, 6, 0] rfl)
set_option maxHeartbeats 4000000 in
set_option maxRecDepth 100000 in
theorem k_L_law_b577 (C : gCx p s m #[Value.ref b] meth c code 13 ret nmm R_law) (hX : va_X b L xs s s.heap) (hbl : b < s.heap.size) (hE : E.2.2.1 = s.heap.size) (hLn : L ≤ 2147483647) (N : Nat) {μ' : Mm} (k102 : Int → Int → Int → Int → Int → Int → Mm → Rs) (hk102 : ∀ (x1 x2 x4 x5 bc bs : Int) (μ : Mm), k102 x1 x2 x4 x5 bc bs μ = some (1, μ') → R64 x2 → R32 x4 → R32 x5 → ∀ (H : Heap) (locs : List Loc) (ls : Array Slot) (cells slots : Nat), (cells : Int) + bc ≤ 606929 ∧ 0 ≤ bc ∧ (slots : Int) + bs ≤ 7281462 ∧ 0 ≤ bs → MS E μ s H locs → lv_has ls 13 [(0, .ref b), (1, vr E x1), (2, vl x2), (4, vi x4), (5, vi x5)] → W p l e room_1 s m #[Value.ref b] below meth c H locs cells slots (lw_Z below #[Value.ref b] s) (F0 m 102 ls [])) : ∀ (x1 x2 x4 x5 x7 y0 bc bs : Int) (μ : Mm), f_L_law_b577 (fun i => (xs i.toNat).toInt) (L : Int) N k102 x1 x2 x4 x5 x7 y0 bc bs μ = some (1, μ') → R64 x2 → R32 x4 → R32 x5 → R32 x7 → R32 y0 → ∀ (H : Heap) (locs : List Loc) (ls : Array Slot) (cells slots : Nat), (cells : Int) + bc ≤ 606929 ∧ 0 ≤ bc ∧ (slots : Int) + bs ≤ 7281462 ∧ 0 ≤ bs → MS E μ s H locs → lv_has ls 13 [(0, .ref b), (1, vr E x1), (2, vl x2), (4, vi x4), (5, vi x5), (7, vi x7)] → W p l e room_1 s m #[Value.ref b] below meth c H locs cells slots (lw_Z below #[Value.ref b] s) (F0 m 577 ls [vi y0]) := by
  have hsc : ∀ i : Int, R32 ((fun i : Int => (xs i.toNat).toInt) i) := fun i => R32_of _
  have hsl : R32 (L : Int) := ⟨by omega, by omega⟩
  intro x1 x2 x4 x5 x7 y0 bc bs μ h rx2 rx4 rx5 rx7 ry0 H locs ls cells slots hb hM hl
  unfold f_L_law_b577 at h
  refine m_istore (pc := 577) C dL_law_577 hl (by decide) (lvK1 0 rfl (Nat.ne_of_beq_eq_false rfl) (Nat.ne_of_beq_eq_false rfl) (lvK1 1 rfl (Nat.ne_of_beq_eq_false rfl) (Nat.ne_of_beq_eq_false rfl) (lvK1 2 rfl (Nat.ne_of_beq_eq_false rfl) (Nat.ne_of_beq_eq_false rfl) (lvK1 3 rfl (Nat.ne_of_beq_eq_false rfl) (Nat.ne_of_beq_eq_false rfl) (lvK1 4 rfl (Nat.ne_of_beq_eq_false rfl) (Nat.ne_of_beq_eq_false rfl) (lvK1 5 rfl (Nat.ne_of_beq_eq_false rfl) (Nat.ne_of_beq_eq_false rfl) lvK0)))))) (fun ls hl => ?_)
  exact k_L_law_b579 C hX hbl hE hLn N _ hk102 _ _ _ _ _ _ _ _ _ h rx2 rx4 rx5 rx7 ry0 _ _ _ _ _ hb hM (lv_sub hl [1, 2, 3, 4, 5, 6, 0] rfl)
set_option maxHeartbeats 4000000 in
set_option maxRecDepth 100000 in
theorem k_L_law_b576 (C : gCx p s m #[Value.ref b] meth c code 13 ret nmm R_law) (hX : va_X b L xs s s.heap) (hbl : b < s.heap.size) (hE : E.2.2.1 = s.heap.size) (hLn : L ≤ 2147483647) (N : Nat) {μ' : Mm} (k102 : Int → Int → Int → Int → Int → Int → Mm → Rs) (hk102 : ∀ (x1 x2 x4 x5 bc bs : Int) (μ : Mm), k102 x1 x2 x4 x5 bc bs μ = some (1, μ') → R64 x2 → R32 x4 → R32 x5 → ∀ (H : Heap) (locs : List Loc) (ls : Array Slot) (cells slots : Nat), (cells : Int) + bc ≤ 606929 ∧ 0 ≤ bc ∧ (slots : Int) + bs ≤ 7281462 ∧ 0 ≤ bs → MS E μ s H locs → lv_has ls 13 [(0, .ref b), (1, vr E x1), (2, vl x2), (4, vi x4), (5, vi x5)] → W p l e room_1 s m #[Value.ref b] below meth c H locs cells slots (lw_Z below #[Value.ref b] s) (F0 m 102 ls [])) : ∀ (x1 x2 x4 x5 x7 bc bs : Int) (μ : Mm), f_L_law_b576 (fun i => (xs i.toNat).toInt) (L : Int) N k102 x1 x2 x4 x5 x7 bc bs μ = some (1, μ') → R64 x2 → R32 x4 → R32 x5 → R32 x7 → ∀ (H : Heap) (locs : List Loc) (ls : Array Slot) (cells slots : Nat), (cells : Int) + bc ≤ 606929 ∧ 0 ≤ bc ∧ (slots : Int) + bs ≤ 7281462 ∧ 0 ≤ bs → MS E μ s H locs → lv_has ls 13 [(0, .ref b), (1, vr E x1), (2, vl x2), (4, vi x4), (5, vi x5), (7, vi x7)] → W p l e room_1 s m #[Value.ref b] below meth c H locs cells slots (lw_Z below #[Value.ref b] s) (F0 m 576 ls []) := by
  have hsc : ∀ i : Int, R32 ((fun i : Int => (xs i.toNat).toInt) i) := fun i => R32_of _
  have hsl : R32 (L : Int) := ⟨by omega, by omega⟩
  intro x1 x2 x4 x5 x7 bc bs μ h rx2 rx4 rx5 rx7 H locs ls cells slots hb hM hl
  unfold f_L_law_b576 at h
  refine m_iconst (pc := 576) C dL_law_576 ?_
  exact k_L_law_b577 C hX hbl hE hLn N _ hk102 _ _ _ _ _ _ _ _ _ h rx2 rx4 rx5 rx7 rk_0 _ _ _ _ _ hb hM (lv_sub hl [0, 1, 2, 3, 4, 5] rfl)
set_option maxHeartbeats 4000000 in
set_option maxRecDepth 100000 in
theorem k_L_law_b525 (C : gCx p s m #[Value.ref b] meth c code 13 ret nmm R_law) (hX : va_X b L xs s s.heap) (hbl : b < s.heap.size) (hE : E.2.2.1 = s.heap.size) (hLn : L ≤ 2147483647) (N : Nat) {μ' : Mm} (k102 : Int → Int → Int → Int → Int → Int → Mm → Rs) (hk102 : ∀ (x1 x2 x4 x5 bc bs : Int) (μ : Mm), k102 x1 x2 x4 x5 bc bs μ = some (1, μ') → R64 x2 → R32 x4 → R32 x5 → ∀ (H : Heap) (locs : List Loc) (ls : Array Slot) (cells slots : Nat), (cells : Int) + bc ≤ 606929 ∧ 0 ≤ bc ∧ (slots : Int) + bs ≤ 7281462 ∧ 0 ≤ bs → MS E μ s H locs → lv_has ls 13 [(0, .ref b), (1, vr E x1), (2, vl x2), (4, vi x4), (5, vi x5)] → W p l e room_1 s m #[Value.ref b] below meth c H locs cells slots (lw_Z below #[Value.ref b] s) (F0 m 102 ls [])) : ∀ (x1 x5 x7 y0 bc bs : Int) (μ : Mm), f_L_law_b525 (fun i => (xs i.toNat).toInt) (L : Int) N k102 x1 x5 x7 y0 bc bs μ = some (1, μ') → R32 x5 → R32 x7 → R32 y0 → ∀ (H : Heap) (locs : List Loc) (ls : Array Slot) (cells slots : Nat), (cells : Int) + bc ≤ 606929 ∧ 0 ≤ bc ∧ (slots : Int) + bs ≤ 7281462 ∧ 0 ≤ bs → MS E μ s H locs → lv_has ls 13 [(0, .ref b), (1, vr E x1), (5, vi x5), (7, vi x7)] → W p l e room_1 s m #[Value.ref b] below meth c H locs cells slots (lw_Z below #[Value.ref b] s) (F0 m 525 ls [vi y0]) := by
  have hsc : ∀ i : Int, R32 ((fun i : Int => (xs i.toNat).toInt) i) := fun i => R32_of _
  have hsl : R32 (L : Int) := ⟨by omega, by omega⟩
  intro x1 x5 x7 y0 bc bs μ h rx5 rx7 ry0 H locs ls cells slots hb hM hl
  unfold f_L_law_b525 at h
  refine m_istore (pc := 525) C dL_law_525 hl (by decide) (lvK1 0 rfl (Nat.ne_of_beq_eq_false rfl) (Nat.ne_of_beq_eq_false rfl) (lvK1 1 rfl (Nat.ne_of_beq_eq_false rfl) (Nat.ne_of_beq_eq_false rfl) (lvK1 2 rfl (Nat.ne_of_beq_eq_false rfl) (Nat.ne_of_beq_eq_false rfl) (lvK1 3 rfl (Nat.ne_of_beq_eq_false rfl) (Nat.ne_of_beq_eq_false rfl) lvK0)))) (fun ls hl => ?_)
  refine m_aload_n (pc := 527) C dL_law_527 rfl (lv_at hl 2 rfl) ?_
  obtain ⟨a1, μ2, ca1, h⟩ := bd_some h
  refine V_L_digest (pc := 528) C hM ca1 bw_3_21 ⟨Nat.le_of_ble_eq_true rfl, Nat.le_of_ble_eq_true rfl⟩ hl.1 rc0 ⟨by show _ + 0 ≤ 606929; omega, by show _ + 0 ≤ 7281462; omega⟩ dL_law_528 (fun ra1 H locs hM => ?_)
  refine m_lstore_n (pc := 531) C dL_law_531 rfl hl (by decide) (lvK1 0 rfl (Nat.ne_of_beq_eq_false rfl) (Nat.ne_of_beq_eq_false rfl) (lvK1 1 rfl (Nat.ne_of_beq_eq_false rfl) (Nat.ne_of_beq_eq_false rfl) (lvK2 2 rfl (Nat.ne_of_beq_eq_false rfl) (vr_cat _ _) (lvK1 3 rfl (Nat.ne_of_beq_eq_false rfl) (Nat.ne_of_beq_eq_false rfl) (lvK1 4 rfl (Nat.ne_of_beq_eq_false rfl) (Nat.ne_of_beq_eq_false rfl) lvK0))))) (lvN1 (Nat.ne_of_beq_eq_false rfl) (lvN1 (Nat.ne_of_beq_eq_false rfl) (lvN1 (Nat.ne_of_beq_eq_false rfl) (lvN1 (Nat.ne_of_beq_eq_false rfl) (lvN1 (Nat.ne_of_beq_eq_false rfl) lvN0))))) (fun ls hl => ?_)
  refine m_iconst (pc := 532) C dL_law_532 ?_
  refine m_istore (pc := 533) C dL_law_533 hl (by decide) (lvK1 0 rfl (Nat.ne_of_beq_eq_false rfl) (Nat.ne_of_beq_eq_false rfl) (lvK1 1 rfl (Nat.ne_of_beq_eq_false rfl) (Nat.ne_of_beq_eq_false rfl) (lvK1 2 rfl (Nat.ne_of_beq_eq_false rfl) (Nat.ne_of_beq_eq_false rfl) (lvK1 3 rfl (Nat.ne_of_beq_eq_false rfl) (Nat.ne_of_beq_eq_false rfl) (lvK1 4 rfl (Nat.ne_of_beq_eq_false rfl) (Nat.ne_of_beq_eq_false rfl) (lvK1 5 rfl (Nat.ne_of_beq_eq_false rfl) (Nat.ne_of_beq_eq_false rfl) lvK0)))))) (fun ls hl => ?_)
  refine m_goto (tgt := 579) (pc := 535) C dL_law_535 (by decide) ?_
  exact k_L_law_b579 C hX hbl hE hLn N _ hk102 _ _ _ _ _ _ _ _ _ h ra1 rk_1 rx5 rx7 ry0 _ _ _ _ _ hb hM (lv_sub hl [3, 4, 1, 0, 5, 6, 2] rfl)
set_option maxHeartbeats 4000000 in
set_option maxRecDepth 100000 in
theorem k_L_law_b495 (C : gCx p s m #[Value.ref b] meth c code 13 ret nmm R_law) (hX : va_X b L xs s s.heap) (hbl : b < s.heap.size) (hE : E.2.2.1 = s.heap.size) (hLn : L ≤ 2147483647) (N : Nat) {μ' : Mm} (k102 : Int → Int → Int → Int → Int → Int → Mm → Rs) (hk102 : ∀ (x1 x2 x4 x5 bc bs : Int) (μ : Mm), k102 x1 x2 x4 x5 bc bs μ = some (1, μ') → R64 x2 → R32 x4 → R32 x5 → ∀ (H : Heap) (locs : List Loc) (ls : Array Slot) (cells slots : Nat), (cells : Int) + bc ≤ 606929 ∧ 0 ≤ bc ∧ (slots : Int) + bs ≤ 7281462 ∧ 0 ≤ bs → MS E μ s H locs → lv_has ls 13 [(0, .ref b), (1, vr E x1), (2, vl x2), (4, vi x4), (5, vi x5)] → W p l e room_1 s m #[Value.ref b] below meth c H locs cells slots (lw_Z below #[Value.ref b] s) (F0 m 102 ls [])) : ∀ (x1 x2 x4 x5 x7 y0 bc bs : Int) (μ : Mm), f_L_law_b495 (fun i => (xs i.toNat).toInt) (L : Int) N k102 x1 x2 x4 x5 x7 y0 bc bs μ = some (1, μ') → R64 x2 → R32 x4 → R32 x5 → R32 x7 → R32 y0 → ∀ (H : Heap) (locs : List Loc) (ls : Array Slot) (cells slots : Nat), (cells : Int) + bc ≤ 606929 ∧ 0 ≤ bc ∧ (slots : Int) + bs ≤ 7281462 ∧ 0 ≤ bs → MS E μ s H locs → lv_has ls 13 [(0, .ref b), (1, vr E x1), (2, vl x2), (4, vi x4), (5, vi x5), (7, vi x7)] → W p l e room_1 s m #[Value.ref b] below meth c H locs cells slots (lw_Z below #[Value.ref b] s) (F0 m 495 ls [vi y0]) := by
  have hsc : ∀ i : Int, R32 ((fun i : Int => (xs i.toNat).toInt) i) := fun i => R32_of _
  have hsl : R32 (L : Int) := ⟨by omega, by omega⟩
  intro x1 x2 x4 x5 x7 y0 bc bs μ h rx2 rx4 rx5 rx7 ry0 H locs ls cells slots hb hM hl
  unfold f_L_law_b495 at h
  refine m_istore (pc := 495) C dL_law_495 hl (by decide) (lvK1 0 rfl (Nat.ne_of_beq_eq_false rfl) (Nat.ne_of_beq_eq_false rfl) (lvK1 1 rfl (Nat.ne_of_beq_eq_false rfl) (Nat.ne_of_beq_eq_false rfl) (lvK1 2 rfl (Nat.ne_of_beq_eq_false rfl) (Nat.ne_of_beq_eq_false rfl) (lvK1 3 rfl (Nat.ne_of_beq_eq_false rfl) (Nat.ne_of_beq_eq_false rfl) (lvK1 4 rfl (Nat.ne_of_beq_eq_false rfl) (Nat.ne_of_beq_eq_false rfl) (lvK1 5 rfl (Nat.ne_of_beq_eq_false rfl) (Nat.ne_of_beq_eq_false rfl) lvK0)))))) (fun ls hl => ?_)
  refine m_goto (tgt := 579) (pc := 497) C dL_law_497 (by decide) ?_
  exact k_L_law_b579 C hX hbl hE hLn N _ hk102 _ _ _ _ _ _ _ _ _ h rx2 rx4 rx5 rx7 ry0 _ _ _ _ _ hb hM (lv_sub hl [1, 2, 3, 4, 5, 6, 0] rfl)
set_option maxHeartbeats 4000000 in
set_option maxRecDepth 100000 in
theorem k_L_law_b494 (C : gCx p s m #[Value.ref b] meth c code 13 ret nmm R_law) (hX : va_X b L xs s s.heap) (hbl : b < s.heap.size) (hE : E.2.2.1 = s.heap.size) (hLn : L ≤ 2147483647) (N : Nat) {μ' : Mm} (k102 : Int → Int → Int → Int → Int → Int → Mm → Rs) (hk102 : ∀ (x1 x2 x4 x5 bc bs : Int) (μ : Mm), k102 x1 x2 x4 x5 bc bs μ = some (1, μ') → R64 x2 → R32 x4 → R32 x5 → ∀ (H : Heap) (locs : List Loc) (ls : Array Slot) (cells slots : Nat), (cells : Int) + bc ≤ 606929 ∧ 0 ≤ bc ∧ (slots : Int) + bs ≤ 7281462 ∧ 0 ≤ bs → MS E μ s H locs → lv_has ls 13 [(0, .ref b), (1, vr E x1), (2, vl x2), (4, vi x4), (5, vi x5)] → W p l e room_1 s m #[Value.ref b] below meth c H locs cells slots (lw_Z below #[Value.ref b] s) (F0 m 102 ls [])) : ∀ (x1 x2 x4 x5 x7 bc bs : Int) (μ : Mm), f_L_law_b494 (fun i => (xs i.toNat).toInt) (L : Int) N k102 x1 x2 x4 x5 x7 bc bs μ = some (1, μ') → R64 x2 → R32 x4 → R32 x5 → R32 x7 → ∀ (H : Heap) (locs : List Loc) (ls : Array Slot) (cells slots : Nat), (cells : Int) + bc ≤ 606929 ∧ 0 ≤ bc ∧ (slots : Int) + bs ≤ 7281462 ∧ 0 ≤ bs → MS E μ s H locs → lv_has ls 13 [(0, .ref b), (1, vr E x1), (2, vl x2), (4, vi x4), (5, vi x5), (7, vi x7)] → W p l e room_1 s m #[Value.ref b] below meth c H locs cells slots (lw_Z below #[Value.ref b] s) (F0 m 494 ls []) := by
  have hsc : ∀ i : Int, R32 ((fun i : Int => (xs i.toNat).toInt) i) := fun i => R32_of _
  have hsl : R32 (L : Int) := ⟨by omega, by omega⟩
  intro x1 x2 x4 x5 x7 bc bs μ h rx2 rx4 rx5 rx7 H locs ls cells slots hb hM hl
  unfold f_L_law_b494 at h
  refine m_iconst (pc := 494) C dL_law_494 ?_
  exact k_L_law_b495 C hX hbl hE hLn N _ hk102 _ _ _ _ _ _ _ _ _ h rx2 rx4 rx5 rx7 rk_0 _ _ _ _ _ hb hM (lv_sub hl [0, 1, 2, 3, 4, 5] rfl)
set_option maxHeartbeats 4000000 in
set_option maxRecDepth 100000 in
theorem k_L_law_b384 (C : gCx p s m #[Value.ref b] meth c code 13 ret nmm R_law) (hX : va_X b L xs s s.heap) (hbl : b < s.heap.size) (hE : E.2.2.1 = s.heap.size) (hLn : L ≤ 2147483647) (N : Nat) {μ' : Mm} (k102 : Int → Int → Int → Int → Int → Int → Mm → Rs) (hk102 : ∀ (x1 x2 x4 x5 bc bs : Int) (μ : Mm), k102 x1 x2 x4 x5 bc bs μ = some (1, μ') → R64 x2 → R32 x4 → R32 x5 → ∀ (H : Heap) (locs : List Loc) (ls : Array Slot) (cells slots : Nat), (cells : Int) + bc ≤ 606929 ∧ 0 ≤ bc ∧ (slots : Int) + bs ≤ 7281462 ∧ 0 ≤ bs → MS E μ s H locs → lv_has ls 13 [(0, .ref b), (1, vr E x1), (2, vl x2), (4, vi x4), (5, vi x5)] → W p l e room_1 s m #[Value.ref b] below meth c H locs cells slots (lw_Z below #[Value.ref b] s) (F0 m 102 ls [])) : ∀ (x1 x2 x4 x5 x7 y0 bc bs : Int) (μ : Mm), f_L_law_b384 (fun i => (xs i.toNat).toInt) (L : Int) N k102 x1 x2 x4 x5 x7 y0 bc bs μ = some (1, μ') → R64 x2 → R32 x4 → R32 x5 → R32 x7 → R32 y0 → ∀ (H : Heap) (locs : List Loc) (ls : Array Slot) (cells slots : Nat), (cells : Int) + bc ≤ 606929 ∧ 0 ≤ bc ∧ (slots : Int) + bs ≤ 7281462 ∧ 0 ≤ bs → MS E μ s H locs → lv_has ls 13 [(0, .ref b), (1, vr E x1), (2, vl x2), (4, vi x4), (5, vi x5), (7, vi x7)] → W p l e room_1 s m #[Value.ref b] below meth c H locs cells slots (lw_Z below #[Value.ref b] s) (F0 m 384 ls [vi y0]) := by
  have hsc : ∀ i : Int, R32 ((fun i : Int => (xs i.toNat).toInt) i) := fun i => R32_of _
  have hsl : R32 (L : Int) := ⟨by omega, by omega⟩
  intro x1 x2 x4 x5 x7 y0 bc bs μ h rx2 rx4 rx5 rx7 ry0 H locs ls cells slots hb hM hl
  unfold f_L_law_b384 at h
  refine m_istore (pc := 384) C dL_law_384 hl (by decide) (lvK1 0 rfl (Nat.ne_of_beq_eq_false rfl) (Nat.ne_of_beq_eq_false rfl) (lvK1 1 rfl (Nat.ne_of_beq_eq_false rfl) (Nat.ne_of_beq_eq_false rfl) (lvK1 2 rfl (Nat.ne_of_beq_eq_false rfl) (Nat.ne_of_beq_eq_false rfl) (lvK1 3 rfl (Nat.ne_of_beq_eq_false rfl) (Nat.ne_of_beq_eq_false rfl) (lvK1 4 rfl (Nat.ne_of_beq_eq_false rfl) (Nat.ne_of_beq_eq_false rfl) (lvK1 5 rfl (Nat.ne_of_beq_eq_false rfl) (Nat.ne_of_beq_eq_false rfl) lvK0)))))) (fun ls hl => ?_)
  refine m_goto (tgt := 579) (pc := 386) C dL_law_386 (by decide) ?_
  exact k_L_law_b579 C hX hbl hE hLn N _ hk102 _ _ _ _ _ _ _ _ _ h rx2 rx4 rx5 rx7 ry0 _ _ _ _ _ hb hM (lv_sub hl [1, 2, 3, 4, 5, 6, 0] rfl)
set_option maxHeartbeats 4000000 in
set_option maxRecDepth 100000 in
theorem k_L_law_b383 (C : gCx p s m #[Value.ref b] meth c code 13 ret nmm R_law) (hX : va_X b L xs s s.heap) (hbl : b < s.heap.size) (hE : E.2.2.1 = s.heap.size) (hLn : L ≤ 2147483647) (N : Nat) {μ' : Mm} (k102 : Int → Int → Int → Int → Int → Int → Mm → Rs) (hk102 : ∀ (x1 x2 x4 x5 bc bs : Int) (μ : Mm), k102 x1 x2 x4 x5 bc bs μ = some (1, μ') → R64 x2 → R32 x4 → R32 x5 → ∀ (H : Heap) (locs : List Loc) (ls : Array Slot) (cells slots : Nat), (cells : Int) + bc ≤ 606929 ∧ 0 ≤ bc ∧ (slots : Int) + bs ≤ 7281462 ∧ 0 ≤ bs → MS E μ s H locs → lv_has ls 13 [(0, .ref b), (1, vr E x1), (2, vl x2), (4, vi x4), (5, vi x5)] → W p l e room_1 s m #[Value.ref b] below meth c H locs cells slots (lw_Z below #[Value.ref b] s) (F0 m 102 ls [])) : ∀ (x1 x2 x4 x5 x7 bc bs : Int) (μ : Mm), f_L_law_b383 (fun i => (xs i.toNat).toInt) (L : Int) N k102 x1 x2 x4 x5 x7 bc bs μ = some (1, μ') → R64 x2 → R32 x4 → R32 x5 → R32 x7 → ∀ (H : Heap) (locs : List Loc) (ls : Array Slot) (cells slots : Nat), (cells : Int) + bc ≤ 606929 ∧ 0 ≤ bc ∧ (slots : Int) + bs ≤ 7281462 ∧ 0 ≤ bs → MS E μ s H locs → lv_has ls 13 [(0, .ref b), (1, vr E x1), (2, vl x2), (4, vi x4), (5, vi x5), (7, vi x7)] → W p l e room_1 s m #[Value.ref b] below meth c H locs cells slots (lw_Z below #[Value.ref b] s) (F0 m 383 ls []) := by
  have hsc : ∀ i : Int, R32 ((fun i : Int => (xs i.toNat).toInt) i) := fun i => R32_of _
  have hsl : R32 (L : Int) := ⟨by omega, by omega⟩
  intro x1 x2 x4 x5 x7 bc bs μ h rx2 rx4 rx5 rx7 H locs ls cells slots hb hM hl
  unfold f_L_law_b383 at h
  refine m_iconst (pc := 383) C dL_law_383 ?_
  exact k_L_law_b384 C hX hbl hE hLn N _ hk102 _ _ _ _ _ _ _ _ _ h rx2 rx4 rx5 rx7 rk_0 _ _ _ _ _ hb hM (lv_sub hl [0, 1, 2, 3, 4, 5] rfl)
set_option maxHeartbeats 4000000 in
set_option maxRecDepth 100000 in
theorem k_L_law_b317 (C : gCx p s m #[Value.ref b] meth c code 13 ret nmm R_law) (hX : va_X b L xs s s.heap) (hbl : b < s.heap.size) (hE : E.2.2.1 = s.heap.size) (hLn : L ≤ 2147483647) (N : Nat) {μ' : Mm} (k102 : Int → Int → Int → Int → Int → Int → Mm → Rs) (hk102 : ∀ (x1 x2 x4 x5 bc bs : Int) (μ : Mm), k102 x1 x2 x4 x5 bc bs μ = some (1, μ') → R64 x2 → R32 x4 → R32 x5 → ∀ (H : Heap) (locs : List Loc) (ls : Array Slot) (cells slots : Nat), (cells : Int) + bc ≤ 606929 ∧ 0 ≤ bc ∧ (slots : Int) + bs ≤ 7281462 ∧ 0 ≤ bs → MS E μ s H locs → lv_has ls 13 [(0, .ref b), (1, vr E x1), (2, vl x2), (4, vi x4), (5, vi x5)] → W p l e room_1 s m #[Value.ref b] below meth c H locs cells slots (lw_Z below #[Value.ref b] s) (F0 m 102 ls [])) : ∀ (x1 x2 x4 x5 x7 y0 bc bs : Int) (μ : Mm), f_L_law_b317 (fun i => (xs i.toNat).toInt) (L : Int) N k102 x1 x2 x4 x5 x7 y0 bc bs μ = some (1, μ') → R64 x2 → R32 x4 → R32 x5 → R32 x7 → R32 y0 → ∀ (H : Heap) (locs : List Loc) (ls : Array Slot) (cells slots : Nat), (cells : Int) + bc ≤ 606929 ∧ 0 ≤ bc ∧ (slots : Int) + bs ≤ 7281462 ∧ 0 ≤ bs → MS E μ s H locs → lv_has ls 13 [(0, .ref b), (1, vr E x1), (2, vl x2), (4, vi x4), (5, vi x5), (7, vi x7)] → W p l e room_1 s m #[Value.ref b] below meth c H locs cells slots (lw_Z below #[Value.ref b] s) (F0 m 317 ls [vi y0]) := by
  have hsc : ∀ i : Int, R32 ((fun i : Int => (xs i.toNat).toInt) i) := fun i => R32_of _
  have hsl : R32 (L : Int) := ⟨by omega, by omega⟩
  intro x1 x2 x4 x5 x7 y0 bc bs μ h rx2 rx4 rx5 rx7 ry0 H locs ls cells slots hb hM hl
  unfold f_L_law_b317 at h
  refine m_istore (pc := 317) C dL_law_317 hl (by decide) (lvK1 0 rfl (Nat.ne_of_beq_eq_false rfl) (Nat.ne_of_beq_eq_false rfl) (lvK1 1 rfl (Nat.ne_of_beq_eq_false rfl) (Nat.ne_of_beq_eq_false rfl) (lvK1 2 rfl (Nat.ne_of_beq_eq_false rfl) (Nat.ne_of_beq_eq_false rfl) (lvK1 3 rfl (Nat.ne_of_beq_eq_false rfl) (Nat.ne_of_beq_eq_false rfl) (lvK1 4 rfl (Nat.ne_of_beq_eq_false rfl) (Nat.ne_of_beq_eq_false rfl) (lvK1 5 rfl (Nat.ne_of_beq_eq_false rfl) (Nat.ne_of_beq_eq_false rfl) lvK0)))))) (fun ls hl => ?_)
  refine m_goto (tgt := 579) (pc := 319) C dL_law_319 (by decide) ?_
  exact k_L_law_b579 C hX hbl hE hLn N _ hk102 _ _ _ _ _ _ _ _ _ h rx2 rx4 rx5 rx7 ry0 _ _ _ _ _ hb hM (lv_sub hl [1, 2, 3, 4, 5, 6, 0] rfl)
set_option maxHeartbeats 4000000 in
set_option maxRecDepth 100000 in
theorem k_L_law_b299 (C : gCx p s m #[Value.ref b] meth c code 13 ret nmm R_law) (hX : va_X b L xs s s.heap) (hbl : b < s.heap.size) (hE : E.2.2.1 = s.heap.size) (hLn : L ≤ 2147483647) (N : Nat) {μ' : Mm} (k102 : Int → Int → Int → Int → Int → Int → Mm → Rs) (hk102 : ∀ (x1 x2 x4 x5 bc bs : Int) (μ : Mm), k102 x1 x2 x4 x5 bc bs μ = some (1, μ') → R64 x2 → R32 x4 → R32 x5 → ∀ (H : Heap) (locs : List Loc) (ls : Array Slot) (cells slots : Nat), (cells : Int) + bc ≤ 606929 ∧ 0 ≤ bc ∧ (slots : Int) + bs ≤ 7281462 ∧ 0 ≤ bs → MS E μ s H locs → lv_has ls 13 [(0, .ref b), (1, vr E x1), (2, vl x2), (4, vi x4), (5, vi x5)] → W p l e room_1 s m #[Value.ref b] below meth c H locs cells slots (lw_Z below #[Value.ref b] s) (F0 m 102 ls [])) : ∀ (x1 x2 x4 x5 x7 x10 y0 bc bs : Int) (μ : Mm), f_L_law_b299 (fun i => (xs i.toNat).toInt) (L : Int) N k102 x1 x2 x4 x5 x7 x10 y0 bc bs μ = some (1, μ') → R64 x2 → R32 x4 → R32 x5 → R32 x7 → R32 x10 → R32 y0 → ∀ (H : Heap) (locs : List Loc) (ls : Array Slot) (cells slots : Nat), (cells : Int) + bc ≤ 606929 ∧ 0 ≤ bc ∧ (slots : Int) + bs ≤ 7281462 ∧ 0 ≤ bs → MS E μ s H locs → lv_has ls 13 [(0, .ref b), (1, vr E x1), (2, vl x2), (4, vi x4), (5, vi x5), (7, vi x7), (10, vi x10)] → W p l e room_1 s m #[Value.ref b] below meth c H locs cells slots (lw_Z below #[Value.ref b] s) (F0 m 299 ls [vi y0]) := by
  have hsc : ∀ i : Int, R32 ((fun i : Int => (xs i.toNat).toInt) i) := fun i => R32_of _
  have hsl : R32 (L : Int) := ⟨by omega, by omega⟩
  intro x1 x2 x4 x5 x7 x10 y0 bc bs μ h rx2 rx4 rx5 rx7 rx10 ry0 H locs ls cells slots hb hM hl
  unfold f_L_law_b299 at h
  refine m_istore (pc := 299) C dL_law_299 hl (by decide) (lvK1 0 rfl (Nat.ne_of_beq_eq_false rfl) (Nat.ne_of_beq_eq_false rfl) (lvK1 1 rfl (Nat.ne_of_beq_eq_false rfl) (Nat.ne_of_beq_eq_false rfl) (lvK1 2 rfl (Nat.ne_of_beq_eq_false rfl) (Nat.ne_of_beq_eq_false rfl) (lvK1 3 rfl (Nat.ne_of_beq_eq_false rfl) (Nat.ne_of_beq_eq_false rfl) (lvK1 4 rfl (Nat.ne_of_beq_eq_false rfl) (Nat.ne_of_beq_eq_false rfl) (lvK1 5 rfl (Nat.ne_of_beq_eq_false rfl) (Nat.ne_of_beq_eq_false rfl) (lvK2 6 rfl (Nat.ne_of_beq_eq_false rfl) rfl lvK0))))))) (fun ls hl => ?_)
  refine m_aload_n (pc := 301) C dL_law_301 rfl (lv_at hl 2 rfl) ?_
  refine m_iload (pc := 302) C dL_law_302 (lv_at hl 7 rfl) ?_
  obtain ⟨q1, h⟩ := ck_some h
  obtain ⟨a2, μ3, ca2, h⟩ := bd_some h
  refine V_X7_prove (pc := 304) C hM ca2 rx10 q1 bw_2_137 ⟨Nat.le_of_ble_eq_true rfl, Nat.le_of_ble_eq_true rfl⟩ hl.1 rc0 ⟨by show _ + 0 ≤ 606929; omega, by show _ + 0 ≤ 7281462; omega⟩ dL_law_304 (fun ra2 H locs hM => ?_)
  refine m_iload (pc := 307) C dL_law_307 (lv_at hl 0 rfl) ?_
  refine m_icmp_ne (tgt := 316) (pc := 309) C ra2 ry0 dL_law_309 (by decide) (fun c4 => ?_) (fun c4 => ?_)
  · have h := if_t h c4
    refine m_iconst (pc := 316) C dL_law_316 ?_
    exact k_L_law_b317 C hX hbl hE hLn N _ hk102 _ _ _ _ _ _ _ _ _ h rx2 rx4 rx5 rx7 rk_0 _ _ _ _ _ hb hM (lv_sub hl [1, 2, 3, 4, 5, 6] rfl)
  · have h := if_f h c4
    refine m_iconst (pc := 312) C dL_law_312 ?_
    refine m_goto (tgt := 317) (pc := 313) C dL_law_313 (by decide) ?_
    exact k_L_law_b317 C hX hbl hE hLn N _ hk102 _ _ _ _ _ _ _ _ _ h rx2 rx4 rx5 rx7 rk_1 _ _ _ _ _ hb hM (lv_sub hl [1, 2, 3, 4, 5, 6] rfl)
set_option maxHeartbeats 4000000 in
set_option maxRecDepth 100000 in
theorem k_L_law_b265 (C : gCx p s m #[Value.ref b] meth c code 13 ret nmm R_law) (hX : va_X b L xs s s.heap) (hbl : b < s.heap.size) (hE : E.2.2.1 = s.heap.size) (hLn : L ≤ 2147483647) (N : Nat) {μ' : Mm} (k102 : Int → Int → Int → Int → Int → Int → Mm → Rs) (hk102 : ∀ (x1 x2 x4 x5 bc bs : Int) (μ : Mm), k102 x1 x2 x4 x5 bc bs μ = some (1, μ') → R64 x2 → R32 x4 → R32 x5 → ∀ (H : Heap) (locs : List Loc) (ls : Array Slot) (cells slots : Nat), (cells : Int) + bc ≤ 606929 ∧ 0 ≤ bc ∧ (slots : Int) + bs ≤ 7281462 ∧ 0 ≤ bs → MS E μ s H locs → lv_has ls 13 [(0, .ref b), (1, vr E x1), (2, vl x2), (4, vi x4), (5, vi x5)] → W p l e room_1 s m #[Value.ref b] below meth c H locs cells slots (lw_Z below #[Value.ref b] s) (F0 m 102 ls [])) : ∀ (x1 x2 x4 x5 x7 y0 bc bs : Int) (μ : Mm), f_L_law_b265 (fun i => (xs i.toNat).toInt) (L : Int) N k102 x1 x2 x4 x5 x7 y0 bc bs μ = some (1, μ') → R64 x2 → R32 x4 → R32 x5 → R32 x7 → R32 y0 → ∀ (H : Heap) (locs : List Loc) (ls : Array Slot) (cells slots : Nat), (cells : Int) + bc ≤ 606929 ∧ 0 ≤ bc ∧ (slots : Int) + bs ≤ 7281462 ∧ 0 ≤ bs → MS E μ s H locs → lv_has ls 13 [(0, .ref b), (1, vr E x1), (2, vl x2), (4, vi x4), (5, vi x5), (7, vi x7)] → W p l e room_1 s m #[Value.ref b] below meth c H locs cells slots (lw_Z below #[Value.ref b] s) (F0 m 265 ls [vi y0]) := by
  have hsc : ∀ i : Int, R32 ((fun i : Int => (xs i.toNat).toInt) i) := fun i => R32_of _
  have hsl : R32 (L : Int) := ⟨by omega, by omega⟩
  intro x1 x2 x4 x5 x7 y0 bc bs μ h rx2 rx4 rx5 rx7 ry0 H locs ls cells slots hb hM hl
  unfold f_L_law_b265 at h
  refine m_istore (pc := 265) C dL_law_265 hl (by decide) (lvK1 0 rfl (Nat.ne_of_beq_eq_false rfl) (Nat.ne_of_beq_eq_false rfl) (lvK1 1 rfl (Nat.ne_of_beq_eq_false rfl) (Nat.ne_of_beq_eq_false rfl) (lvK1 2 rfl (Nat.ne_of_beq_eq_false rfl) (Nat.ne_of_beq_eq_false rfl) (lvK1 3 rfl (Nat.ne_of_beq_eq_false rfl) (Nat.ne_of_beq_eq_false rfl) (lvK1 4 rfl (Nat.ne_of_beq_eq_false rfl) (Nat.ne_of_beq_eq_false rfl) (lvK1 5 rfl (Nat.ne_of_beq_eq_false rfl) (Nat.ne_of_beq_eq_false rfl) lvK0)))))) (fun ls hl => ?_)
  refine m_iload (pc := 267) C dL_law_267 (lv_at hl 0 rfl) ?_
  refine m_if_ge (tgt := 277) (pc := 269) C ry0 dL_law_269 (by decide) (fun c1 => ?_) (fun c1 => ?_)
  · have h := if_t h c1
    refine m_aload_n (pc := 277) C dL_law_277 rfl (lv_at hl 2 rfl) ?_
    refine m_iload (pc := 278) C dL_law_278 (lv_at hl 0 rfl) ?_
    refine m_iconst (pc := 280) C dL_law_280 ?_
    obtain ⟨q2, h⟩ := ck_some h
    obtain ⟨a3, μ4, ca3, h⟩ := bd_some h
    refine V_X7_exported (pc := 281) C hM ca3 ry0 rk_4 q2 bw_2_226 ⟨Nat.le_of_ble_eq_true rfl, Nat.le_of_ble_eq_true rfl⟩ hl.1 rc0 ⟨by show _ + 0 ≤ 606929; omega, by show _ + 0 ≤ 7281462; omega⟩ dL_law_281 (fun ra3 H locs hM => ?_)
    refine m_if_eq (tgt := 292) (pc := 284) C ra3 dL_law_284 (by decide) (fun c5 => ?_) (fun c5 => ?_)
    · have h := if_t h c5
      refine m_aload_n (pc := 292) C dL_law_292 rfl (lv_at hl 2 rfl) ?_
      refine m_iload (pc := 293) C dL_law_293 (lv_at hl 0 rfl) ?_
      refine m_iconst (pc := 295) C dL_law_295 ?_
      obtain ⟨q6, h⟩ := ck_some h
      obtain ⟨a7, μ8, ca7, h⟩ := bd_some h
      refine V_X7_exported (pc := 296) C hM ca7 ry0 rk_2 q6 bw_2_226 ⟨Nat.le_of_ble_eq_true rfl, Nat.le_of_ble_eq_true rfl⟩ hl.1 rc0 ⟨by show _ + 0 ≤ 606929; omega, by show _ + 0 ≤ 7281462; omega⟩ dL_law_296 (fun ra7 H locs hM => ?_)
      exact k_L_law_b299 C hX hbl hE hLn N _ hk102 _ _ _ _ _ _ _ _ _ _ h rx2 rx4 rx5 rx7 ry0 ra7 _ _ _ _ _ hb hM (lv_sub hl [1, 2, 3, 4, 5, 6, 0] rfl)
    · have h := if_f h c5
      refine m_ldc (n := -100000003) (pc := 287) C bw_4_109 rfl dL_law_287 ?_
      refine m_goto (tgt := 299) (pc := 289) C dL_law_289 (by decide) ?_
      exact k_L_law_b299 C hX hbl hE hLn N _ hk102 _ _ _ _ _ _ _ _ _ _ h rx2 rx4 rx5 rx7 ry0 rk_m100000003 _ _ _ _ _ hb hM (lv_sub hl [1, 2, 3, 4, 5, 6, 0] rfl)
  · have h := if_f h c1
    refine m_ldc (n := -100000001) (pc := 272) C bw_3_85 rfl dL_law_272 ?_
    refine m_goto (tgt := 299) (pc := 274) C dL_law_274 (by decide) ?_
    exact k_L_law_b299 C hX hbl hE hLn N _ hk102 _ _ _ _ _ _ _ _ _ _ h rx2 rx4 rx5 rx7 ry0 rk_m100000001 _ _ _ _ _ hb hM (lv_sub hl [1, 2, 3, 4, 5, 6, 0] rfl)
set_option maxHeartbeats 4000000 in
set_option maxRecDepth 100000 in
theorem k_L_law_b102 (C : gCx p s m #[Value.ref b] meth c code 13 ret nmm R_law) (hX : va_X b L xs s s.heap) (hbl : b < s.heap.size) (hE : E.2.2.1 = s.heap.size) (hLn : L ≤ 2147483647) (N : Nat) {μ' : Mm} : ∀ (n : Nat), ∀ (x1 x2 x4 x5 bc bs : Int) (μ : Mm), f_L_law_b102 (fun i => (xs i.toNat).toInt) (L : Int) N n x1 x2 x4 x5 bc bs μ = some (1, μ') → R64 x2 → R32 x4 → R32 x5 → ∀ (H : Heap) (locs : List Loc) (ls : Array Slot) (cells slots : Nat), (cells : Int) + bc ≤ 606929 ∧ 0 ≤ bc ∧ (slots : Int) + bs ≤ 7281462 ∧ 0 ≤ bs → MS E μ s H locs → lv_has ls 13 [(0, .ref b), (1, vr E x1), (2, vl x2), (4, vi x4), (5, vi x5)] → W p l e room_1 s m #[Value.ref b] below meth c H locs cells slots (lw_Z below #[Value.ref b] s) (F0 m 102 ls []) := by
  have hsc : ∀ i : Int, R32 ((fun i : Int => (xs i.toNat).toInt) i) := fun i => R32_of _
  have hsl : R32 (L : Int) := ⟨by omega, by omega⟩
  intro n
  induction n with
  | zero => intro x1 x2 x4 x5 bc bs μ h; simp [f_L_law_b102] at h
  | succ n ih =>
    intro x1 x2 x4 x5 bc bs μ h rx2 rx4 rx5 H locs ls cells slots hb hM hl
    rw [f_L_law_b102] at h
    refine m_iload (pc := 102) C dL_law_102 (lv_at hl 4 rfl) ?_
    refine m_bipush (pc := 104) C dL_law_104 rfl ?_
    refine m_icmp_ge (tgt := 642) (pc := 106) C rx5 rk_40 dL_law_106 (by decide) (fun c1 => ?_) (fun c1 => ?_)
    · have h := if_t h c1
      refine m_iconst (pc := 642) C dL_law_642 ?_
      refine va_forget (fun q hq => by have h9 := hM.2.1.2.2 q hq; unfold gA at h9; rw [hE] at h9; exact h9) ?_
      refine W.widen (k := 606929) (n := 7281462) (by omega) (by omega) ?_
      exact lw_ret C.1.1 C.1.2.1 C.2.1 C.2.2.1 dL_law_643
    · have h := if_f h c1
      refine m_sload (pc := 109) C dL_law_109 rfl (lv_at hl 0 rfl) ?_
      refine m_iconst (pc := 110) C dL_law_110 ?_
      refine m_iload (pc := 111) C dL_law_111 (lv_at hl 4 rfl) ?_
      obtain ⟨a2, ea2, h⟩ := nm_some h
      have ra2 : R32 a2 := by rw [ea2]; exact w32_R _
      refine m_imul (pc := 113) C dL_law_113 ea2 ?_
      obtain ⟨a3, μ4, ca3, h⟩ := bd_some h
      refine V_L_cell (pc := 114) C hM hX hbl (hE ▸ hbl) hLn ca3 ra2 bw_3_13 ⟨Nat.le_of_ble_eq_true rfl, Nat.le_of_ble_eq_true rfl⟩ hl.1 rc0 ⟨by show _ + 0 ≤ 606929; omega, by show _ + 0 ≤ 7281462; omega⟩ dL_law_114 (fun ra3 H locs hM => ?_)
      refine m_istore (pc := 117) C dL_law_117 hl (by decide) (lvK1 0 rfl (Nat.ne_of_beq_eq_false rfl) (Nat.ne_of_beq_eq_false rfl) (lvK1 1 rfl (Nat.ne_of_beq_eq_false rfl) (Nat.ne_of_beq_eq_false rfl) (lvK1 2 rfl (Nat.ne_of_beq_eq_false rfl) (Nat.ne_of_beq_eq_false rfl) (lvK1 3 rfl (Nat.ne_of_beq_eq_false rfl) (Nat.ne_of_beq_eq_false rfl) (lvK2 4 rfl (Nat.ne_of_beq_eq_false rfl) rfl lvK0))))) (fun ls hl => ?_)
      refine m_sload (pc := 119) C dL_law_119 rfl (lv_at hl 1 rfl) ?_
      refine m_iconst (pc := 120) C dL_law_120 ?_
      refine m_iload (pc := 121) C dL_law_121 (lv_at hl 5 rfl) ?_
      obtain ⟨a5, ea5, h⟩ := nm_some h
      have ra5 : R32 a5 := by rw [ea5]; exact w32_R _
      refine m_imul (pc := 123) C dL_law_123 ea5 ?_
      refine m_iconst (pc := 124) C dL_law_124 ?_
      obtain ⟨a6, ea6, h⟩ := nm_some h
      have ra6 : R32 a6 := by rw [ea6]; exact w32_R _
      refine m_iadd (pc := 125) C dL_law_125 ea6 ?_
      obtain ⟨a7, μ8, ca7, h⟩ := bd_some h
      refine V_L_cell (pc := 126) C hM hX hbl (hE ▸ hbl) hLn ca7 ra6 bw_3_13 ⟨Nat.le_of_ble_eq_true rfl, Nat.le_of_ble_eq_true rfl⟩ hl.1 rc0 ⟨by show _ + 0 ≤ 606929; omega, by show _ + 0 ≤ 7281462; omega⟩ dL_law_126 (fun ra7 H locs hM => ?_)
      refine m_istore (pc := 129) C dL_law_129 hl (by decide) (lvK2 0 rfl (Nat.ne_of_beq_eq_false rfl) rfl (lvK1 1 rfl (Nat.ne_of_beq_eq_false rfl) (Nat.ne_of_beq_eq_false rfl) (lvK1 2 rfl (Nat.ne_of_beq_eq_false rfl) (Nat.ne_of_beq_eq_false rfl) (lvK1 3 rfl (Nat.ne_of_beq_eq_false rfl) (Nat.ne_of_beq_eq_false rfl) (lvK1 4 rfl (Nat.ne_of_beq_eq_false rfl) (Nat.ne_of_beq_eq_false rfl) (lvK1 5 rfl (Nat.ne_of_beq_eq_false rfl) (Nat.ne_of_beq_eq_false rfl) lvK0)))))) (fun ls hl => ?_)
      refine m_iload (pc := 131) C dL_law_131 (lv_at hl 1 rfl) ?_
      refine m_bipush (pc := 133) C dL_law_133 rfl ?_
      obtain ⟨a9, ea9, h⟩ := nm_some h
      have ra9 : R32 a9 := by rw [ea9]; exact R32_of _
      refine m_ishr (pc := 135) C dL_law_135 ea9 ?_
      refine m_bipush (pc := 136) C dL_law_136 rfl ?_
      obtain ⟨a10, μ11, ca10, h⟩ := bd_some h
      refine V_L_low (pc := 138) C hM ca10 ra9 rk_18 bw_3_17 ⟨Nat.le_of_ble_eq_true rfl, Nat.le_of_ble_eq_true rfl⟩ hl.1 rc0 ⟨by show _ + 0 ≤ 606929; omega, by show _ + 0 ≤ 7281462; omega⟩ dL_law_138 (fun ra10 H locs hM => ?_)
      refine m_istore (pc := 141) C dL_law_141 hl (by decide) (lvK2 0 rfl (Nat.ne_of_beq_eq_false rfl) rfl (lvK1 1 rfl (Nat.ne_of_beq_eq_false rfl) (Nat.ne_of_beq_eq_false rfl) (lvK1 2 rfl (Nat.ne_of_beq_eq_false rfl) (Nat.ne_of_beq_eq_false rfl) (lvK1 3 rfl (Nat.ne_of_beq_eq_false rfl) (Nat.ne_of_beq_eq_false rfl) (lvK1 4 rfl (Nat.ne_of_beq_eq_false rfl) (Nat.ne_of_beq_eq_false rfl) (lvK1 5 rfl (Nat.ne_of_beq_eq_false rfl) (Nat.ne_of_beq_eq_false rfl) (lvK1 6 rfl (Nat.ne_of_beq_eq_false rfl) (Nat.ne_of_beq_eq_false rfl) lvK0))))))) (fun ls hl => ?_)
      refine m_iconst (pc := 143) C dL_law_143 ?_
      refine m_istore (pc := 144) C dL_law_144 hl (by decide) (lvK2 0 rfl (Nat.ne_of_beq_eq_false rfl) rfl (lvK1 1 rfl (Nat.ne_of_beq_eq_false rfl) (Nat.ne_of_beq_eq_false rfl) (lvK1 2 rfl (Nat.ne_of_beq_eq_false rfl) (Nat.ne_of_beq_eq_false rfl) (lvK1 3 rfl (Nat.ne_of_beq_eq_false rfl) (Nat.ne_of_beq_eq_false rfl) (lvK1 4 rfl (Nat.ne_of_beq_eq_false rfl) (Nat.ne_of_beq_eq_false rfl) (lvK1 5 rfl (Nat.ne_of_beq_eq_false rfl) (Nat.ne_of_beq_eq_false rfl) (lvK1 6 rfl (Nat.ne_of_beq_eq_false rfl) (Nat.ne_of_beq_eq_false rfl) (lvK1 7 rfl (Nat.ne_of_beq_eq_false rfl) (Nat.ne_of_beq_eq_false rfl) lvK0)))))))) (fun ls hl => ?_)
      refine m_iload (pc := 146) C dL_law_146 (lv_at hl 8 rfl) ?_
      refine m_iconst (pc := 148) C dL_law_148 ?_
      refine m_icmp_lt (tgt := 158) (pc := 149) C rx5 rk_4 dL_law_149 (by decide) (fun c12 => ?_) (fun c12 => ?_)
      · have h := if_t h c12
        exact k_L_law_b158 C hX hbl hE hLn N _ ih _ _ _ _ _ _ _ _ _ h rx2 rx4 rx5 ra3 ra7 _ _ _ _ _ hb hM (lv_sub hl [4, 5, 6, 7, 8, 3, 2] rfl)
      · have h := if_f h c12
        refine m_iload (pc := 152) C dL_law_152 (lv_at hl 1 rfl) ?_
        refine m_iconst (pc := 154) C dL_law_154 ?_
        refine m_icmp_ge (tgt := 171) (pc := 155) C ra10 rk_3 dL_law_155 (by decide) (fun c13 => ?_) (fun c13 => ?_)
        · have h := if_t h c13
          refine m_iload (pc := 171) C dL_law_171 (lv_at hl 1 rfl) ?_
          refine m_bipush (pc := 173) C dL_law_173 rfl ?_
          refine m_icmp_ge (tgt := 191) (pc := 175) C ra10 rk_6 dL_law_175 (by decide) (fun c14 => ?_) (fun c14 => ?_)
          · have h := if_t h c14
            refine m_iload (pc := 191) C dL_law_191 (lv_at hl 1 rfl) ?_
            refine m_bipush (pc := 193) C dL_law_193 rfl ?_
            refine m_icmp_ge (tgt := 216) (pc := 195) C ra10 rk_11 dL_law_195 (by decide) (fun c15 => ?_) (fun c15 => ?_)
            · have h := if_t h c15
              refine m_iload (pc := 216) C dL_law_216 (lv_at hl 1 rfl) ?_
              refine m_bipush (pc := 218) C dL_law_218 rfl ?_
              refine m_icmp_ne (tgt := 236) (pc := 220) C ra10 rk_11 dL_law_220 (by decide) (fun c16 => ?_) (fun c16 => ?_)
              · have h := if_t h c16
                refine m_iload (pc := 236) C dL_law_236 (lv_at hl 1 rfl) ?_
                refine m_bipush (pc := 238) C dL_law_238 rfl ?_
                refine m_icmp_ne (tgt := 322) (pc := 240) C ra10 rk_12 dL_law_240 (by decide) (fun c17 => ?_) (fun c17 => ?_)
                · have h := if_t h c17
                  refine m_iload (pc := 322) C dL_law_322 (lv_at hl 1 rfl) ?_
                  refine m_bipush (pc := 324) C dL_law_324 rfl ?_
                  refine m_icmp_ne (tgt := 389) (pc := 326) C ra10 rk_13 dL_law_326 (by decide) (fun c18 => ?_) (fun c18 => ?_)
                  · have h := if_t h c18
                    refine m_iload (pc := 389) C dL_law_389 (lv_at hl 1 rfl) ?_
                    refine m_bipush (pc := 391) C dL_law_391 rfl ?_
                    refine m_icmp_ne (tgt := 500) (pc := 393) C ra10 rk_14 dL_law_393 (by decide) (fun c19 => ?_) (fun c19 => ?_)
                    · have h := if_t h c19
                      refine m_iload (pc := 500) C dL_law_500 (lv_at hl 1 rfl) ?_
                      refine m_bipush (pc := 502) C dL_law_502 rfl ?_
                      refine m_icmp_ne (tgt := 538) (pc := 504) C ra10 rk_15 dL_law_504 (by decide) (fun c20 => ?_) (fun c20 => ?_)
                      · have h := if_t h c20
                        refine m_iload (pc := 538) C dL_law_538 (lv_at hl 1 rfl) ?_
                        refine m_bipush (pc := 540) C dL_law_540 rfl ?_
                        refine m_icmp_ne (tgt := 579) (pc := 542) C ra10 rk_16 dL_law_542 (by decide) (fun c21 => ?_) (fun c21 => ?_)
                        · have h := if_t h c21
                          exact k_L_law_b579 C hX hbl hE hLn N _ ih _ _ _ _ _ _ _ _ _ h rx2 rx4 rx5 ra7 rk_1 _ _ _ _ _ hb hM (lv_sub hl [4, 5, 6, 7, 8, 2, 0] rfl)
                        · have h := if_f h c21
                          refine m_iload (pc := 545) C dL_law_545 (lv_at hl 7 rfl) ?_
                          refine m_if_eq (tgt := 579) (pc := 547) C rx4 dL_law_547 (by decide) (fun c22 => ?_) (fun c22 => ?_)
                          · have h := if_t h c22
                            exact k_L_law_b579 C hX hbl hE hLn N _ ih _ _ _ _ _ _ _ _ _ h rx2 rx4 rx5 ra7 rk_1 _ _ _ _ _ hb hM (lv_sub hl [4, 5, 6, 7, 8, 2, 0] rfl)
                          · have h := if_f h c22
                            refine m_aload_n (pc := 550) C dL_law_550 rfl (lv_at hl 5 rfl) ?_
                            refine m_iconst (pc := 551) C dL_law_551 ?_
                            obtain ⟨q23, h⟩ := ck_some h
                            obtain ⟨a24, μ25, ca24, h⟩ := bd_some h
                            refine V_X7_restore (pc := 552) C hM ca24 rk_1 q23 bw_2_222 ⟨Nat.le_of_ble_eq_true rfl, Nat.le_of_ble_eq_true rfl⟩ hl.1 rc0 ⟨by show _ + 0 ≤ 606929; omega, by show _ + 0 ≤ 7281462; omega⟩ dL_law_552 (fun ra24 H locs hM => ?_)
                            refine m_aload_n (pc := 555) C dL_law_555 rfl (lv_at hl 5 rfl) ?_
                            refine m_iconst (pc := 556) C dL_law_556 ?_
                            obtain ⟨q26, h⟩ := ck_some h
                            obtain ⟨a27, μ28, ca27, h⟩ := bd_some h
                            refine V_X7_count (pc := 557) C hM ca27 rk_2 q26 bw_3_4 ⟨Nat.le_of_ble_eq_true rfl, Nat.le_of_ble_eq_true rfl⟩ hl.1 (rcI rc0) ⟨by show _ + 0 ≤ 606929; omega, by show _ + 0 ≤ 7281462; omega⟩ dL_law_557 (fun ra27 H locs hM => ?_)
                            refine m_icmp_ne (tgt := 576) (pc := 560) C ra24 ra27 dL_law_560 (by decide) (fun c29 => ?_) (fun c29 => ?_)
                            · have h := if_t h c29
                              exact k_L_law_b576 C hX hbl hE hLn N _ ih _ _ _ _ _ _ _ _ h rx2 rx4 rx5 ra7 _ _ _ _ _ hb hM (lv_sub hl [4, 5, 6, 7, 8, 2] rfl)
                            · have h := if_f h c29
                              refine m_aload_n (pc := 563) C dL_law_563 rfl (lv_at hl 5 rfl) ?_
                              obtain ⟨a30, μ31, ca30, h⟩ := bd_some h
                              refine V_L_digest (pc := 564) C hM ca30 bw_3_21 ⟨Nat.le_of_ble_eq_true rfl, Nat.le_of_ble_eq_true rfl⟩ hl.1 rc0 ⟨by show _ + 0 ≤ 606929; omega, by show _ + 0 ≤ 7281462; omega⟩ dL_law_564 (fun ra30 H locs hM => ?_)
                              refine m_lload_n (pc := 567) C dL_law_567 rfl (lv_at hl 6 rfl) ?_
                              refine m_lcmp_ne (tgt := 576) (pc := 568) C ra30 rx2 dL_law_568 dL_law_569 (by decide) (fun c32 => ?_) (fun c32 => ?_)
                              · have h := if_t h c32
                                exact k_L_law_b576 C hX hbl hE hLn N _ ih _ _ _ _ _ _ _ _ h rx2 rx4 rx5 ra7 _ _ _ _ _ hb hM (lv_sub hl [4, 5, 6, 7, 8, 2] rfl)
                              · have h := if_f h c32
                                refine m_iconst (pc := 572) C dL_law_572 ?_
                                refine m_goto (tgt := 577) (pc := 573) C dL_law_573 (by decide) ?_
                                exact k_L_law_b577 C hX hbl hE hLn N _ ih _ _ _ _ _ _ _ _ _ h rx2 rx4 rx5 ra7 rk_1 _ _ _ _ _ hb hM (lv_sub hl [4, 5, 6, 7, 8, 2] rfl)
                      · have h := if_f h c20
                        refine m_aload_n (pc := 507) C dL_law_507 rfl (lv_at hl 5 rfl) ?_
                        refine m_iconst (pc := 508) C dL_law_508 ?_
                        obtain ⟨q33, h⟩ := ck_some h
                        obtain ⟨a34, μ35, ca34, h⟩ := bd_some h
                        refine V_X7_keep (pc := 509) C hM ca34 rk_1 q33 bw_2_217 ⟨Nat.le_of_ble_eq_true rfl, Nat.le_of_ble_eq_true rfl⟩ hl.1 rc0 ⟨by show _ + 0 ≤ 606929; omega, by show _ + 0 ≤ 7281462; omega⟩ dL_law_509 (fun ra34 H locs hM => ?_)
                        refine m_aload_n (pc := 512) C dL_law_512 rfl (lv_at hl 5 rfl) ?_
                        refine m_iconst (pc := 513) C dL_law_513 ?_
                        obtain ⟨q36, h⟩ := ck_some h
                        obtain ⟨a37, μ38, ca37, h⟩ := bd_some h
                        refine V_X7_count (pc := 514) C hM ca37 rk_2 q36 bw_3_4 ⟨Nat.le_of_ble_eq_true rfl, Nat.le_of_ble_eq_true rfl⟩ hl.1 (rcI rc0) ⟨by show _ + 0 ≤ 606929; omega, by show _ + 0 ≤ 7281462; omega⟩ dL_law_514 (fun ra37 H locs hM => ?_)
                        refine m_icmp_ne (tgt := 524) (pc := 517) C ra34 ra37 dL_law_517 (by decide) (fun c39 => ?_) (fun c39 => ?_)
                        · have h := if_t h c39
                          refine m_iconst (pc := 524) C dL_law_524 ?_
                          exact k_L_law_b525 C hX hbl hE hLn N _ ih _ _ _ _ _ _ _ h rx5 ra7 rk_0 _ _ _ _ _ hb hM (lv_sub hl [4, 5, 8, 2] rfl)
                        · have h := if_f h c39
                          refine m_iconst (pc := 520) C dL_law_520 ?_
                          refine m_goto (tgt := 525) (pc := 521) C dL_law_521 (by decide) ?_
                          exact k_L_law_b525 C hX hbl hE hLn N _ ih _ _ _ _ _ _ _ h rx5 ra7 rk_1 _ _ _ _ _ hb hM (lv_sub hl [4, 5, 8, 2] rfl)
                    · have h := if_f h c19
                      refine m_aload_n (pc := 396) C dL_law_396 rfl (lv_at hl 5 rfl) ?_
                      refine m_bipush (pc := 397) C dL_law_397 rfl ?_
                      obtain ⟨q40, h⟩ := ck_some h
                      obtain ⟨a41, μ42, ca41, h⟩ := bd_some h
                      refine V_X7_count (pc := 399) C hM ca41 rk_8 q40 bw_3_4 ⟨Nat.le_of_ble_eq_true rfl, Nat.le_of_ble_eq_true rfl⟩ hl.1 rc0 ⟨by show _ + 0 ≤ 606929; omega, by show _ + 0 ≤ 7281462; omega⟩ dL_law_399 (fun ra41 H locs hM => ?_)
                      refine m_istore (pc := 402) C dL_law_402 hl (by decide) (lvK1 2 rfl (Nat.ne_of_beq_eq_false rfl) (Nat.ne_of_beq_eq_false rfl) (lvK1 3 rfl (Nat.ne_of_beq_eq_false rfl) (Nat.ne_of_beq_eq_false rfl) (lvK1 4 rfl (Nat.ne_of_beq_eq_false rfl) (Nat.ne_of_beq_eq_false rfl) (lvK1 5 rfl (Nat.ne_of_beq_eq_false rfl) (Nat.ne_of_beq_eq_false rfl) (lvK1 6 rfl (Nat.ne_of_beq_eq_false rfl) (Nat.ne_of_beq_eq_false rfl) (lvK1 7 rfl (Nat.ne_of_beq_eq_false rfl) (Nat.ne_of_beq_eq_false rfl) (lvK1 8 rfl (Nat.ne_of_beq_eq_false rfl) (Nat.ne_of_beq_eq_false rfl) lvK0))))))) (fun ls hl => ?_)
                      refine m_aload_n (pc := 404) C dL_law_404 rfl (lv_at hl 4 rfl) ?_
                      refine m_iload (pc := 405) C dL_law_405 (lv_at hl 1 rfl) ?_
                      refine m_bipush (pc := 407) C dL_law_407 rfl ?_
                      obtain ⟨a43, μ44, ca43, h⟩ := bd_some h
                      refine V_L_low (pc := 409) C hM ca43 ra7 rk_101 bw_3_17 ⟨Nat.le_of_ble_eq_true rfl, Nat.le_of_ble_eq_true rfl⟩ hl.1 (rcR rc0) ⟨by show _ + 0 ≤ 606929; omega, by show _ + 0 ≤ 7281462; omega⟩ dL_law_409 (fun ra43 H locs hM => ?_)
                      refine m_iload (pc := 412) C dL_law_412 (lv_at hl 1 rfl) ?_
                      refine m_bipush (pc := 414) C dL_law_414 rfl ?_
                      obtain ⟨a45, ea45, h⟩ := nm_some h
                      have ra45 : R32 a45 := by rw [ea45]; exact R32_of _
                      refine m_ishr (pc := 416) C dL_law_416 ea45 ?_
                      refine m_sipush (pc := 417) C dL_law_417 rfl ?_
                      obtain ⟨a46, μ47, ca46, h⟩ := bd_some h
                      refine V_L_low (pc := 420) C hM ca46 ra45 rk_200 bw_3_17 ⟨Nat.le_of_ble_eq_true rfl, Nat.le_of_ble_eq_true rfl⟩ hl.1 (rcI (rcR rc0)) ⟨by show _ + 0 ≤ 606929; omega, by show _ + 0 ≤ 7281462; omega⟩ dL_law_420 (fun ra46 H locs hM => ?_)
                      refine m_iload (pc := 423) C dL_law_423 (lv_at hl 1 rfl) ?_
                      refine m_bipush (pc := 425) C dL_law_425 rfl ?_
                      obtain ⟨a48, ea48, h⟩ := nm_some h
                      have ra48 : R32 a48 := by rw [ea48]; exact R32_of _
                      refine m_ishr (pc := 427) C dL_law_427 ea48 ?_
                      refine m_bipush (pc := 428) C dL_law_428 rfl ?_
                      obtain ⟨a49, μ50, ca49, h⟩ := bd_some h
                      refine V_L_low (pc := 430) C hM ca49 ra48 rk_50 bw_3_17 ⟨Nat.le_of_ble_eq_true rfl, Nat.le_of_ble_eq_true rfl⟩ hl.1 (rcI (rcI (rcR rc0))) ⟨by show _ + 0 ≤ 606929; omega, by show _ + 0 ≤ 7281462; omega⟩ dL_law_430 (fun ra49 H locs hM => ?_)
                      obtain ⟨q51, h⟩ := ck_some h
                      obtain ⟨a52, μ53, ca52, h⟩ := bd_some h
                      refine V_X7_setRules (pc := 433) C hM ca52 ra43 ra46 ra49 q51 bw_2_133 ⟨Nat.le_of_ble_eq_true rfl, Nat.le_of_ble_eq_true rfl⟩ hl.1 rc0 ⟨by show _ + 0 ≤ 606929; omega, by show _ + 0 ≤ 7281462; omega⟩ dL_law_433 (fun ra52 H locs hM => ?_)
                      refine m_iload (pc := 436) C dL_law_436 (lv_at hl 0 rfl) ?_
                      refine m_icmp_ne (tgt := 494) (pc := 438) C ra52 ra41 dL_law_438 (by decide) (fun c54 => ?_) (fun c54 => ?_)
                      · have h := if_t h c54
                        exact k_L_law_b494 C hX hbl hE hLn N _ ih _ _ _ _ _ _ _ _ h rx2 rx4 rx5 ra7 _ _ _ _ _ hb hM (lv_sub hl [3, 4, 5, 6, 7, 1] rfl)
                      · have h := if_f h c54
                        refine m_aload_n (pc := 441) C dL_law_441 rfl (lv_at hl 4 rfl) ?_
                        refine m_iconst (pc := 442) C dL_law_442 ?_
                        refine m_iload (pc := 443) C dL_law_443 (lv_at hl 2 rfl) ?_
                        refine m_bipush (pc := 445) C dL_law_445 rfl ?_
                        obtain ⟨a55, μ56, ca55, h⟩ := bd_some h
                        refine V_L_low (pc := 447) C hM ca55 ra3 rk_120 bw_3_17 ⟨Nat.le_of_ble_eq_true rfl, Nat.le_of_ble_eq_true rfl⟩ hl.1 (rcI (rcR rc0)) ⟨by show _ + 0 ≤ 606929; omega, by show _ + 0 ≤ 7281462; omega⟩ dL_law_447 (fun ra55 H locs hM => ?_)
                        obtain ⟨a57, ea57, h⟩ := nm_some h
                        have ra57 : R32 a57 := by rw [ea57]; exact w32_R _
                        refine m_iadd (pc := 450) C dL_law_450 ea57 ?_
                        refine m_iconst (pc := 451) C dL_law_451 ?_
                        refine m_iload (pc := 452) C dL_law_452 (lv_at hl 2 rfl) ?_
                        refine m_iconst (pc := 454) C dL_law_454 ?_
                        obtain ⟨a58, ea58, h⟩ := nm_some h
                        have ra58 : R32 a58 := by rw [ea58]; exact R32_of _
                        refine m_ishr (pc := 455) C dL_law_455 ea58 ?_
                        refine m_bipush (pc := 456) C dL_law_456 rfl ?_
                        obtain ⟨a59, μ60, ca59, h⟩ := bd_some h
                        refine V_L_low (pc := 458) C hM ca59 ra58 rk_60 bw_3_17 ⟨Nat.le_of_ble_eq_true rfl, Nat.le_of_ble_eq_true rfl⟩ hl.1 (rcI (rcI (rcR rc0))) ⟨by show _ + 0 ≤ 606929; omega, by show _ + 0 ≤ 7281462; omega⟩ dL_law_458 (fun ra59 H locs hM => ?_)
                        obtain ⟨a61, ea61, h⟩ := nm_some h
                        have ra61 : R32 a61 := by rw [ea61]; exact w32_R _
                        refine m_iadd (pc := 461) C dL_law_461 ea61 ?_
                        obtain ⟨q62, h⟩ := ck_some h
                        obtain ⟨a63, μ64, ca63, h⟩ := bd_some h
                        refine V_X7_setTerms (pc := 462) C hM ca63 ra57 ra61 q62 bw_2_129 ⟨Nat.le_of_ble_eq_true rfl, Nat.le_of_ble_eq_true rfl⟩ hl.1 rc0 ⟨by show _ + 0 ≤ 606929; omega, by show _ + 0 ≤ 7281462; omega⟩ dL_law_462 (fun ra63 H locs hM => ?_)
                        refine m_if_le (tgt := 494) (pc := 465) C ra63 dL_law_465 (by decide) (fun c65 => ?_) (fun c65 => ?_)
                        · have h := if_t h c65
                          exact k_L_law_b494 C hX hbl hE hLn N _ ih _ _ _ _ _ _ _ _ h rx2 rx4 rx5 ra7 _ _ _ _ _ hb hM (lv_sub hl [3, 4, 5, 6, 7, 1] rfl)
                        · have h := if_f h c65
                          refine m_aload_n (pc := 468) C dL_law_468 rfl (lv_at hl 4 rfl) ?_
                          refine m_iload (pc := 469) C dL_law_469 (lv_at hl 2 rfl) ?_
                          refine m_bipush (pc := 471) C dL_law_471 rfl ?_
                          obtain ⟨a66, μ67, ca66, h⟩ := bd_some h
                          refine V_L_low (pc := 473) C hM ca66 ra3 rk_6 bw_3_17 ⟨Nat.le_of_ble_eq_true rfl, Nat.le_of_ble_eq_true rfl⟩ hl.1 (rcR rc0) ⟨by show _ + 0 ≤ 606929; omega, by show _ + 0 ≤ 7281462; omega⟩ dL_law_473 (fun ra66 H locs hM => ?_)
                          refine m_iload (pc := 476) C dL_law_476 (lv_at hl 1 rfl) ?_
                          refine m_sipush (pc := 478) C dL_law_478 rfl ?_
                          obtain ⟨a68, μ69, ca68, h⟩ := bd_some h
                          refine V_L_low (pc := 481) C hM ca68 ra7 rk_1001 bw_3_17 ⟨Nat.le_of_ble_eq_true rfl, Nat.le_of_ble_eq_true rfl⟩ hl.1 (rcI (rcR rc0)) ⟨by show _ + 0 ≤ 606929; omega, by show _ + 0 ≤ 7281462; omega⟩ dL_law_481 (fun ra68 H locs hM => ?_)
                          obtain ⟨q70, h⟩ := ck_some h
                          obtain ⟨a71, μ72, ca71, h⟩ := bd_some h
                          refine V_X7_setRate (pc := 484) C hM ca71 ra66 ra68 q70 bw_2_85 ⟨Nat.le_of_ble_eq_true rfl, Nat.le_of_ble_eq_true rfl⟩ hl.1 rc0 ⟨by show _ + 0 ≤ 606929; omega, by show _ + 0 ≤ 7281462; omega⟩ dL_law_484 (fun ra71 H locs hM => ?_)
                          refine m_if_lt (tgt := 494) (pc := 487) C ra71 dL_law_487 (by decide) (fun c73 => ?_) (fun c73 => ?_)
                          · have h := if_t h c73
                            exact k_L_law_b494 C hX hbl hE hLn N _ ih _ _ _ _ _ _ _ _ h rx2 rx4 rx5 ra7 _ _ _ _ _ hb hM (lv_sub hl [3, 4, 5, 6, 7, 1] rfl)
                          · have h := if_f h c73
                            refine m_iconst (pc := 490) C dL_law_490 ?_
                            refine m_goto (tgt := 495) (pc := 491) C dL_law_491 (by decide) ?_
                            exact k_L_law_b495 C hX hbl hE hLn N _ ih _ _ _ _ _ _ _ _ _ h rx2 rx4 rx5 ra7 rk_1 _ _ _ _ _ hb hM (lv_sub hl [3, 4, 5, 6, 7, 1] rfl)
                  · have h := if_f h c18
                    refine m_iconst (pc := 329) C dL_law_329 ?_
                    refine m_iload (pc := 330) C dL_law_330 (lv_at hl 2 rfl) ?_
                    refine m_bipush (pc := 332) C dL_law_332 rfl ?_
                    obtain ⟨a74, μ75, ca74, h⟩ := bd_some h
                    refine V_L_low (pc := 334) C hM ca74 ra7 rk_50 bw_3_17 ⟨Nat.le_of_ble_eq_true rfl, Nat.le_of_ble_eq_true rfl⟩ hl.1 (rcI rc0) ⟨by show _ + 0 ≤ 606929; omega, by show _ + 0 ≤ 7281462; omega⟩ dL_law_334 (fun ra74 H locs hM => ?_)
                    obtain ⟨a76, ea76, h⟩ := nm_some h
                    have ra76 : R32 a76 := by rw [ea76]; exact w32_R _
                    refine m_iadd (pc := 337) C dL_law_337 ea76 ?_
                    refine m_istore (pc := 338) C dL_law_338 hl (by decide) (lvK1 2 rfl (Nat.ne_of_beq_eq_false rfl) (Nat.ne_of_beq_eq_false rfl) (lvK1 4 rfl (Nat.ne_of_beq_eq_false rfl) (Nat.ne_of_beq_eq_false rfl) (lvK1 5 rfl (Nat.ne_of_beq_eq_false rfl) (Nat.ne_of_beq_eq_false rfl) (lvK1 6 rfl (Nat.ne_of_beq_eq_false rfl) (Nat.ne_of_beq_eq_false rfl) (lvK1 7 rfl (Nat.ne_of_beq_eq_false rfl) (Nat.ne_of_beq_eq_false rfl) (lvK1 8 rfl (Nat.ne_of_beq_eq_false rfl) (Nat.ne_of_beq_eq_false rfl) lvK0)))))) (fun ls hl => ?_)
                    refine m_aload_n (pc := 340) C dL_law_340 rfl (lv_at hl 3 rfl) ?_
                    refine m_iload (pc := 341) C dL_law_341 (lv_at hl 0 rfl) ?_
                    obtain ⟨q77, h⟩ := ck_some h
                    obtain ⟨a78, μ79, ca78, h⟩ := bd_some h
                    refine V_X7_calledIn (pc := 343) C hM ca78 ra76 q77 bw_2_236 ⟨Nat.le_of_ble_eq_true rfl, Nat.le_of_ble_eq_true rfl⟩ hl.1 rc0 ⟨by show _ + 0 ≤ 606929; omega, by show _ + 0 ≤ 7281462; omega⟩ dL_law_343 (fun ra78 H locs hM => ?_)
                    refine m_istore (pc := 346) C dL_law_346 hl (by decide) (lvK2 0 rfl (Nat.ne_of_beq_eq_false rfl) rfl (lvK1 1 rfl (Nat.ne_of_beq_eq_false rfl) (Nat.ne_of_beq_eq_false rfl) (lvK1 2 rfl (Nat.ne_of_beq_eq_false rfl) (Nat.ne_of_beq_eq_false rfl) (lvK1 3 rfl (Nat.ne_of_beq_eq_false rfl) (Nat.ne_of_beq_eq_false rfl) (lvK1 4 rfl (Nat.ne_of_beq_eq_false rfl) (Nat.ne_of_beq_eq_false rfl) (lvK1 5 rfl (Nat.ne_of_beq_eq_false rfl) (Nat.ne_of_beq_eq_false rfl) (lvK1 6 rfl (Nat.ne_of_beq_eq_false rfl) (Nat.ne_of_beq_eq_false rfl) lvK0))))))) (fun ls hl => ?_)
                    refine m_aload_n (pc := 348) C dL_law_348 rfl (lv_at hl 4 rfl) ?_
                    refine m_iconst (pc := 349) C dL_law_349 ?_
                    obtain ⟨q80, h⟩ := ck_some h
                    obtain ⟨a81, μ82, ca81, h⟩ := bd_some h
                    refine V_X7_count (pc := 350) C hM ca81 rk_0 q80 bw_3_4 ⟨Nat.le_of_ble_eq_true rfl, Nat.le_of_ble_eq_true rfl⟩ hl.1 rc0 ⟨by show _ + 0 ≤ 606929; omega, by show _ + 0 ≤ 7281462; omega⟩ dL_law_350 (fun ra81 H locs hM => ?_)
                    refine m_istore (pc := 353) C dL_law_353 hl (by decide) (lvK2 0 rfl (Nat.ne_of_beq_eq_false rfl) rfl (lvK1 1 rfl (Nat.ne_of_beq_eq_false rfl) (Nat.ne_of_beq_eq_false rfl) (lvK1 2 rfl (Nat.ne_of_beq_eq_false rfl) (Nat.ne_of_beq_eq_false rfl) (lvK1 3 rfl (Nat.ne_of_beq_eq_false rfl) (Nat.ne_of_beq_eq_false rfl) (lvK1 4 rfl (Nat.ne_of_beq_eq_false rfl) (Nat.ne_of_beq_eq_false rfl) (lvK1 5 rfl (Nat.ne_of_beq_eq_false rfl) (Nat.ne_of_beq_eq_false rfl) (lvK1 6 rfl (Nat.ne_of_beq_eq_false rfl) (Nat.ne_of_beq_eq_false rfl) (lvK1 7 rfl (Nat.ne_of_beq_eq_false rfl) (Nat.ne_of_beq_eq_false rfl) lvK0)))))))) (fun ls hl => ?_)
                    refine m_aload_n (pc := 355) C dL_law_355 rfl (lv_at hl 5 rfl) ?_
                    refine m_iload (pc := 356) C dL_law_356 (lv_at hl 2 rfl) ?_
                    obtain ⟨q83, h⟩ := ck_some h
                    obtain ⟨a84, μ85, ca84, h⟩ := bd_some h
                    refine V_X7_pass (pc := 358) C hM ca84 ra76 q83 bw_2_162 ⟨Nat.le_of_ble_eq_true rfl, Nat.le_of_ble_eq_true rfl⟩ hl.1 rc0 ⟨by show _ + 0 ≤ 606929; omega, by show _ + 0 ≤ 7281462; omega⟩ dL_law_358 (fun ra84 H locs hM => ?_)
                    refine m_iload (pc := 361) C dL_law_361 (lv_at hl 1 rfl) ?_
                    refine m_icmp_ne (tgt := 383) (pc := 363) C ra84 ra78 dL_law_363 (by decide) (fun c86 => ?_) (fun c86 => ?_)
                    · have h := if_t h c86
                      exact k_L_law_b383 C hX hbl hE hLn N _ ih _ _ _ _ _ _ _ _ h rx2 rx4 rx5 ra7 _ _ _ _ _ hb hM (lv_sub hl [4, 5, 6, 7, 8, 3] rfl)
                    · have h := if_f h c86
                      refine m_aload_n (pc := 366) C dL_law_366 rfl (lv_at hl 5 rfl) ?_
                      refine m_iconst (pc := 367) C dL_law_367 ?_
                      obtain ⟨q87, h⟩ := ck_some h
                      obtain ⟨a88, μ89, ca88, h⟩ := bd_some h
                      refine V_X7_count (pc := 368) C hM ca88 rk_0 q87 bw_3_4 ⟨Nat.le_of_ble_eq_true rfl, Nat.le_of_ble_eq_true rfl⟩ hl.1 rc0 ⟨by show _ + 0 ≤ 606929; omega, by show _ + 0 ≤ 7281462; omega⟩ dL_law_368 (fun ra88 H locs hM => ?_)
                      refine m_iload (pc := 371) C dL_law_371 (lv_at hl 0 rfl) ?_
                      refine m_iload (pc := 373) C dL_law_373 (lv_at hl 2 rfl) ?_
                      obtain ⟨a90, ea90, h⟩ := nm_some h
                      have ra90 : R32 a90 := by rw [ea90]; exact w32_R _
                      refine m_iadd (pc := 375) C dL_law_375 ea90 ?_
                      refine m_icmp_ne (tgt := 383) (pc := 376) C ra88 ra90 dL_law_376 (by decide) (fun c91 => ?_) (fun c91 => ?_)
                      · have h := if_t h c91
                        exact k_L_law_b383 C hX hbl hE hLn N _ ih _ _ _ _ _ _ _ _ h rx2 rx4 rx5 ra7 _ _ _ _ _ hb hM (lv_sub hl [4, 5, 6, 7, 8, 3] rfl)
                      · have h := if_f h c91
                        refine m_iconst (pc := 379) C dL_law_379 ?_
                        refine m_goto (tgt := 384) (pc := 380) C dL_law_380 (by decide) ?_
                        exact k_L_law_b384 C hX hbl hE hLn N _ ih _ _ _ _ _ _ _ _ _ h rx2 rx4 rx5 ra7 rk_1 _ _ _ _ _ hb hM (lv_sub hl [4, 5, 6, 7, 8, 3] rfl)
                · have h := if_f h c17
                  refine m_aload_n (pc := 243) C dL_law_243 rfl (lv_at hl 5 rfl) ?_
                  refine m_iconst (pc := 244) C dL_law_244 ?_
                  obtain ⟨q92, h⟩ := ck_some h
                  obtain ⟨a93, μ94, ca93, h⟩ := bd_some h
                  refine V_X7_count (pc := 245) C hM ca93 rk_3 q92 bw_3_4 ⟨Nat.le_of_ble_eq_true rfl, Nat.le_of_ble_eq_true rfl⟩ hl.1 rc0 ⟨by show _ + 0 ≤ 606929; omega, by show _ + 0 ≤ 7281462; omega⟩ dL_law_245 (fun ra93 H locs hM => ?_)
                  refine m_if_ne (tgt := 255) (pc := 248) C ra93 dL_law_248 (by decide) (fun c95 => ?_) (fun c95 => ?_)
                  · have h := if_t h c95
                    refine m_iload (pc := 255) C dL_law_255 (lv_at hl 3 rfl) ?_
                    refine m_aload_n (pc := 257) C dL_law_257 rfl (lv_at hl 5 rfl) ?_
                    refine m_iconst (pc := 258) C dL_law_258 ?_
                    obtain ⟨q96, h⟩ := ck_some h
                    obtain ⟨a97, μ98, ca97, h⟩ := bd_some h
                    refine V_X7_count (pc := 259) C hM ca97 rk_3 q96 bw_3_4 ⟨Nat.le_of_ble_eq_true rfl, Nat.le_of_ble_eq_true rfl⟩ hl.1 (rcI rc0) ⟨by show _ + 0 ≤ 606929; omega, by show _ + 0 ≤ 7281462; omega⟩ dL_law_259 (fun ra97 H locs hM => ?_)
                    obtain ⟨a99, μ100, ca99, h⟩ := bd_some h
                    refine V_L_low (pc := 262) C hM ca99 ra3 ra97 bw_3_17 ⟨Nat.le_of_ble_eq_true rfl, Nat.le_of_ble_eq_true rfl⟩ hl.1 rc0 ⟨by show _ + 0 ≤ 606929; omega, by show _ + 0 ≤ 7281462; omega⟩ dL_law_262 (fun ra99 H locs hM => ?_)
                    exact k_L_law_b265 C hX hbl hE hLn N _ ih _ _ _ _ _ _ _ _ _ h rx2 rx4 rx5 ra7 ra99 _ _ _ _ _ hb hM (lv_sub hl [4, 5, 6, 7, 8, 2] rfl)
                  · have h := if_f h c95
                    refine m_iconst (pc := 251) C dL_law_251 ?_
                    refine m_goto (tgt := 265) (pc := 252) C dL_law_252 (by decide) ?_
                    exact k_L_law_b265 C hX hbl hE hLn N _ ih _ _ _ _ _ _ _ _ _ h rx2 rx4 rx5 ra7 rk_m1 _ _ _ _ _ hb hM (lv_sub hl [4, 5, 6, 7, 8, 2] rfl)
              · have h := if_f h c16
                refine m_aload_n (pc := 223) C dL_law_223 rfl (lv_at hl 5 rfl) ?_
                refine m_iload (pc := 224) C dL_law_224 (lv_at hl 3 rfl) ?_
                refine m_iload (pc := 226) C dL_law_226 (lv_at hl 2 rfl) ?_
                obtain ⟨a101, μ102, ca101, h⟩ := bd_some h
                refine V_L_orders (pc := 228) C hM ca101 ra3 ra7 bw_4_147 ⟨Nat.le_of_ble_eq_true rfl, Nat.le_of_ble_eq_true rfl⟩ hl.1 rc0 ⟨by show _ + 0 ≤ 606929; omega, by show _ + 0 ≤ 7281462; omega⟩ dL_law_228 (fun ra101 H locs hM => ?_)
                refine m_istore (pc := 231) C dL_law_231 hl (by decide) (lvK1 2 rfl (Nat.ne_of_beq_eq_false rfl) (Nat.ne_of_beq_eq_false rfl) (lvK1 4 rfl (Nat.ne_of_beq_eq_false rfl) (Nat.ne_of_beq_eq_false rfl) (lvK1 5 rfl (Nat.ne_of_beq_eq_false rfl) (Nat.ne_of_beq_eq_false rfl) (lvK1 6 rfl (Nat.ne_of_beq_eq_false rfl) (Nat.ne_of_beq_eq_false rfl) (lvK1 7 rfl (Nat.ne_of_beq_eq_false rfl) (Nat.ne_of_beq_eq_false rfl) (lvK1 8 rfl (Nat.ne_of_beq_eq_false rfl) (Nat.ne_of_beq_eq_false rfl) lvK0)))))) (fun ls hl => ?_)
                refine m_goto (tgt := 579) (pc := 233) C dL_law_233 (by decide) ?_
                exact k_L_law_b579 C hX hbl hE hLn N _ ih _ _ _ _ _ _ _ _ _ h rx2 rx4 rx5 ra7 ra101 _ _ _ _ _ hb hM (lv_sub hl [2, 3, 4, 5, 6, 1, 0] rfl)
            · have h := if_f h c15
              refine m_aload_n (pc := 198) C dL_law_198 rfl (lv_at hl 5 rfl) ?_
              refine m_iload (pc := 199) C dL_law_199 (lv_at hl 1 rfl) ?_
              refine m_bipush (pc := 201) C dL_law_201 rfl ?_
              obtain ⟨a103, ea103, h⟩ := nm_some h
              have ra103 : R32 a103 := by rw [ea103]; exact w32_R _
              refine m_isub (pc := 203) C dL_law_203 ea103 ?_
              refine m_iload (pc := 204) C dL_law_204 (lv_at hl 3 rfl) ?_
              refine m_iload (pc := 206) C dL_law_206 (lv_at hl 2 rfl) ?_
              obtain ⟨q104, h⟩ := ck_some h
              obtain ⟨a105, μ106, ca105, h⟩ := bd_some h
              refine V_L_moves (pc := 208) C hM ca105 ra103 ra3 ra7 bw_4_54 ⟨Nat.le_of_ble_eq_true rfl, Nat.le_of_ble_eq_true rfl⟩ hl.1 rc0 ⟨by show _ + 10 ≤ 606929; omega, by show _ + 2000 ≤ 7281462; omega⟩ dL_law_208 (fun ra105 H locs hM => ?_)
              replace hb : ((cells + 10 : Nat) : Int) + (bc - 10) ≤ 606929 ∧ (0 : Int) ≤ bc - 10 ∧ ((slots + 2000 : Nat) : Int) + (bs - 2000) ≤ 7281462 ∧ (0 : Int) ≤ bs - 2000 := by omega
              refine m_istore (pc := 211) C dL_law_211 hl (by decide) (lvK1 2 rfl (Nat.ne_of_beq_eq_false rfl) (Nat.ne_of_beq_eq_false rfl) (lvK1 4 rfl (Nat.ne_of_beq_eq_false rfl) (Nat.ne_of_beq_eq_false rfl) (lvK1 5 rfl (Nat.ne_of_beq_eq_false rfl) (Nat.ne_of_beq_eq_false rfl) (lvK1 6 rfl (Nat.ne_of_beq_eq_false rfl) (Nat.ne_of_beq_eq_false rfl) (lvK1 7 rfl (Nat.ne_of_beq_eq_false rfl) (Nat.ne_of_beq_eq_false rfl) (lvK1 8 rfl (Nat.ne_of_beq_eq_false rfl) (Nat.ne_of_beq_eq_false rfl) lvK0)))))) (fun ls hl => ?_)
              refine m_goto (tgt := 579) (pc := 213) C dL_law_213 (by decide) ?_
              exact k_L_law_b579 C hX hbl hE hLn N _ ih _ _ _ _ _ _ _ _ _ h rx2 rx4 rx5 ra7 ra105 _ _ _ _ _ hb hM (lv_sub hl [2, 3, 4, 5, 6, 1, 0] rfl)
          · have h := if_f h c14
            refine m_aload_n (pc := 178) C dL_law_178 rfl (lv_at hl 5 rfl) ?_
            refine m_iload (pc := 179) C dL_law_179 (lv_at hl 3 rfl) ?_
            refine m_iload (pc := 181) C dL_law_181 (lv_at hl 2 rfl) ?_
            obtain ⟨a107, μ108, ca107, h⟩ := bd_some h
            refine V_L_enters (pc := 183) C hM ca107 ra3 ra7 bw_4_110 ⟨Nat.le_of_ble_eq_true rfl, Nat.le_of_ble_eq_true rfl⟩ hl.1 rc0 ⟨by show _ + 0 ≤ 606929; omega, by show _ + 0 ≤ 7281462; omega⟩ dL_law_183 (fun ra107 H locs hM => ?_)
            refine m_istore (pc := 186) C dL_law_186 hl (by decide) (lvK1 2 rfl (Nat.ne_of_beq_eq_false rfl) (Nat.ne_of_beq_eq_false rfl) (lvK1 4 rfl (Nat.ne_of_beq_eq_false rfl) (Nat.ne_of_beq_eq_false rfl) (lvK1 5 rfl (Nat.ne_of_beq_eq_false rfl) (Nat.ne_of_beq_eq_false rfl) (lvK1 6 rfl (Nat.ne_of_beq_eq_false rfl) (Nat.ne_of_beq_eq_false rfl) (lvK1 7 rfl (Nat.ne_of_beq_eq_false rfl) (Nat.ne_of_beq_eq_false rfl) (lvK1 8 rfl (Nat.ne_of_beq_eq_false rfl) (Nat.ne_of_beq_eq_false rfl) lvK0)))))) (fun ls hl => ?_)
            refine m_goto (tgt := 579) (pc := 188) C dL_law_188 (by decide) ?_
            exact k_L_law_b579 C hX hbl hE hLn N _ ih _ _ _ _ _ _ _ _ _ h rx2 rx4 rx5 ra7 ra107 _ _ _ _ _ hb hM (lv_sub hl [2, 3, 4, 5, 6, 1, 0] rfl)
        · have h := if_f h c13
          exact k_L_law_b158 C hX hbl hE hLn N _ ih _ _ _ _ _ _ _ _ _ h rx2 rx4 rx5 ra3 ra7 _ _ _ _ _ hb hM (lv_sub hl [4, 5, 6, 7, 8, 3, 2] rfl)
set_option maxHeartbeats 4000000 in
set_option maxRecDepth 100000 in
theorem k_L_law (C : gCx p s m #[Value.ref b] meth c code 13 ret nmm R_law) (hX : va_X b L xs s s.heap) (hbl : b < s.heap.size) (hE : E.2.2.1 = s.heap.size) (hLn : L ≤ 2147483647) (N : Nat) {μ' : Mm} (μ : Mm) (h : f_L_law (fun i => (xs i.toNat).toInt) (L : Int) N μ = some (1, μ')) (ls : Array Slot) (hM : MS E μ s s.heap []) (hl : lv_has ls 13 [(0, .ref b)]) : W p l e room_1 s m #[Value.ref b] below meth c s.heap [] 0 0 (lw_Z below #[Value.ref b] s) (F0 m 0 ls []) := by
  have hsc : ∀ i : Int, R32 ((fun i : Int => (xs i.toNat).toInt) i) := fun i => R32_of _
  have hsl : R32 (L : Int) := ⟨by omega, by omega⟩
  unfold f_L_law at h
  have hb : ((0 : Nat) : Int) + 606929 ≤ 606929 ∧ (0 : Int) ≤ 606929 ∧ ((0 : Nat) : Int) + 7281462 ≤ 7281462 ∧ (0 : Int) ≤ 7281462 := by decide
  obtain ⟨q1, h⟩ := ck_some h
  obtain ⟨o3, eo3, h⟩ := nm_some h
  obtain ⟨μ2, eμ2, h⟩ := nm_some h
  have po3 : 1 ≤ o3 := by have := hM.wf.1; omega
  refine m_new (pc := 0) C KF_X7 hM bw_1_20 bw_1_21 bw_1_1 fl_X7 (by show _ + 1 ≤ 606929; omega) (by show _ + 7 ≤ 7281462; omega) eμ2 dL_law_0 (fun H hM => ?_)
  rw [← eo3]
  replace hb : ((0 + 1 : Nat) : Int) + (606929 - 1) ≤ 606929 ∧ (0 : Int) ≤ 606929 - 1 ∧ ((0 + 7 : Nat) : Int) + (7281462 - 7) ≤ 7281462 ∧ (0 : Int) ≤ 7281462 - 7 := by omega
  refine m_dup (pc := 3) C (vr_cat _ _) dL_law_3 ?_
  obtain ⟨q4, h⟩ := ck_some h
  obtain ⟨q5, h⟩ := ck_some h
  obtain ⟨a6, μ7, ca6, h⟩ := bd_some h
  refine V_X7_init (pc := 4) C hM ca6 q4 bw_1_22 ⟨Nat.le_of_ble_eq_true rfl, Nat.le_of_ble_eq_true rfl⟩ hl.1 (rcR rc0) ⟨by show _ + 719 ≤ 606929; omega, by show _ + 6003 ≤ 7281462; omega⟩ dL_law_4 (fun _ H locs hM => ?_)
  replace hb : ((0 + 1 + 719 : Nat) : Int) + (606929 - 1 - 719) ≤ 606929 ∧ (0 : Int) ≤ 606929 - 1 - 719 ∧ ((0 + 7 + 6003 : Nat) : Int) + (7281462 - 7 - 6003) ≤ 7281462 ∧ (0 : Int) ≤ 7281462 - 7 - 6003 := by omega
  refine m_astore_n (pc := 7) C dL_law_7 rfl hl (by decide) (lvK2 0 rfl (Nat.ne_of_beq_eq_false rfl) rfl lvK0) (fun ls hl => ?_)
  refine m_lconst (v := 0) (pc := 8) C dL_law_8 rfl ?_
  refine m_lstore_n (pc := 9) C dL_law_9 rfl hl (by decide) (lvK2 0 rfl (Nat.ne_of_beq_eq_false rfl) (vr_cat _ _) (lvK1 1 rfl (Nat.ne_of_beq_eq_false rfl) (Nat.ne_of_beq_eq_false rfl) lvK0)) (lvN1 (Nat.ne_of_beq_eq_false rfl) (lvN1 (Nat.ne_of_beq_eq_false rfl) lvN0)) (fun ls hl => ?_)
  refine m_iconst (pc := 10) C dL_law_10 ?_
  refine m_istore (pc := 11) C dL_law_11 hl (by decide) (lvK1 0 rfl (Nat.ne_of_beq_eq_false rfl) (Nat.ne_of_beq_eq_false rfl) (lvK1 1 rfl (Nat.ne_of_beq_eq_false rfl) (Nat.ne_of_beq_eq_false rfl) (lvK1 2 rfl (Nat.ne_of_beq_eq_false rfl) (Nat.ne_of_beq_eq_false rfl) lvK0))) (fun ls hl => ?_)
  refine m_aload_n (pc := 13) C dL_law_13 rfl (lv_at hl 2 rfl) ?_
  obtain ⟨q8, h⟩ := ck_some h
  obtain ⟨a9, μ10, ca9, h⟩ := bd_some h
  refine V_X7_undo (pc := 14) C hM ca9 q8 bw_2_208 ⟨Nat.le_of_ble_eq_true rfl, Nat.le_of_ble_eq_true rfl⟩ hl.1 rc0 ⟨by show _ + 0 ≤ 606929; omega, by show _ + 0 ≤ 7281462; omega⟩ dL_law_14 (fun ra9 H locs hM => ?_)
  refine m_ldc (n := -100000005) (pc := 17) C bw_3_102 rfl dL_law_17 ?_
  refine m_icmp_ne (tgt := 97) (pc := 19) C ra9 rk_m100000005 dL_law_19 (by decide) (fun c11 => ?_) (fun c11 => ?_)
  · have h := if_t h c11
    refine m_iconst (pc := 97) C dL_law_97 ?_
    simp at h
  · have h := if_f h c11
    refine m_aload_n (pc := 22) C dL_law_22 rfl (lv_at hl 2 rfl) ?_
    refine m_iconst (pc := 23) C dL_law_23 ?_
    obtain ⟨q12, h⟩ := ck_some h
    obtain ⟨a13, μ14, ca13, h⟩ := bd_some h
    refine V_X7_restore (pc := 24) C hM ca13 rk_0 q12 bw_2_222 ⟨Nat.le_of_ble_eq_true rfl, Nat.le_of_ble_eq_true rfl⟩ hl.1 rc0 ⟨by show _ + 0 ≤ 606929; omega, by show _ + 0 ≤ 7281462; omega⟩ dL_law_24 (fun ra13 H locs hM => ?_)
    refine m_ldc (n := -100000005) (pc := 27) C bw_3_102 rfl dL_law_27 ?_
    refine m_icmp_ne (tgt := 97) (pc := 29) C ra13 rk_m100000005 dL_law_29 (by decide) (fun c15 => ?_) (fun c15 => ?_)
    · have h := if_t h c15
      refine m_iconst (pc := 97) C dL_law_97 ?_
      simp at h
    · have h := if_f h c15
      refine m_aload_n (pc := 32) C dL_law_32 rfl (lv_at hl 2 rfl) ?_
      refine m_iconst (pc := 33) C dL_law_33 ?_
      obtain ⟨q16, h⟩ := ck_some h
      obtain ⟨a17, μ18, ca17, h⟩ := bd_some h
      refine V_X7_restore (pc := 34) C hM ca17 rk_2 q16 bw_2_222 ⟨Nat.le_of_ble_eq_true rfl, Nat.le_of_ble_eq_true rfl⟩ hl.1 rc0 ⟨by show _ + 0 ≤ 606929; omega, by show _ + 0 ≤ 7281462; omega⟩ dL_law_34 (fun ra17 H locs hM => ?_)
      refine m_ldc (n := -100000001) (pc := 37) C bw_3_85 rfl dL_law_37 ?_
      refine m_icmp_ne (tgt := 97) (pc := 39) C ra17 rk_m100000001 dL_law_39 (by decide) (fun c19 => ?_) (fun c19 => ?_)
      · have h := if_t h c19
        refine m_iconst (pc := 97) C dL_law_97 ?_
        simp at h
      · have h := if_f h c19
        refine m_aload_n (pc := 42) C dL_law_42 rfl (lv_at hl 2 rfl) ?_
        refine m_iconst (pc := 43) C dL_law_43 ?_
        obtain ⟨q20, h⟩ := ck_some h
        obtain ⟨a21, μ22, ca21, h⟩ := bd_some h
        refine V_X7_keep (pc := 44) C hM ca21 rk_m1 q20 bw_2_217 ⟨Nat.le_of_ble_eq_true rfl, Nat.le_of_ble_eq_true rfl⟩ hl.1 rc0 ⟨by show _ + 0 ≤ 606929; omega, by show _ + 0 ≤ 7281462; omega⟩ dL_law_44 (fun ra21 H locs hM => ?_)
        refine m_ldc (n := -100000001) (pc := 47) C bw_3_85 rfl dL_law_47 ?_
        refine m_icmp_ne (tgt := 97) (pc := 49) C ra21 rk_m100000001 dL_law_49 (by decide) (fun c23 => ?_) (fun c23 => ?_)
        · have h := if_t h c23
          refine m_iconst (pc := 97) C dL_law_97 ?_
          simp at h
        · have h := if_f h c23
          refine m_aload_n (pc := 52) C dL_law_52 rfl (lv_at hl 2 rfl) ?_
          obtain ⟨q24, h⟩ := ck_some h
          obtain ⟨a25, μ26, ca25, h⟩ := bd_some h
          refine V_X7_nextDeadline (pc := 53) C hM ca25 q24 bw_2_230 ⟨Nat.le_of_ble_eq_true rfl, Nat.le_of_ble_eq_true rfl⟩ hl.1 rc0 ⟨by show _ + 0 ≤ 606929; omega, by show _ + 0 ≤ 7281462; omega⟩ dL_law_53 (fun ra25 H locs hM => ?_)
          refine m_ldc (n := -100000005) (pc := 56) C bw_3_102 rfl dL_law_56 ?_
          refine m_icmp_ne (tgt := 97) (pc := 58) C ra25 rk_m100000005 dL_law_58 (by decide) (fun c27 => ?_) (fun c27 => ?_)
          · have h := if_t h c27
            refine m_iconst (pc := 97) C dL_law_97 ?_
            simp at h
          · have h := if_f h c27
            refine m_aload_n (pc := 61) C dL_law_61 rfl (lv_at hl 2 rfl) ?_
            refine m_iconst (pc := 62) C dL_law_62 ?_
            refine m_iconst (pc := 63) C dL_law_63 ?_
            obtain ⟨q28, h⟩ := ck_some h
            obtain ⟨a29, μ30, ca29, h⟩ := bd_some h
            refine V_X7_setTerms (pc := 64) C hM ca29 rk_0 rk_1 q28 bw_2_129 ⟨Nat.le_of_ble_eq_true rfl, Nat.le_of_ble_eq_true rfl⟩ hl.1 rc0 ⟨by show _ + 0 ≤ 606929; omega, by show _ + 0 ≤ 7281462; omega⟩ dL_law_64 (fun ra29 H locs hM => ?_)
            refine m_ldc (n := -100000002) (pc := 67) C bw_3_83 rfl dL_law_67 ?_
            refine m_icmp_ne (tgt := 97) (pc := 69) C ra29 rk_m100000002 dL_law_69 (by decide) (fun c31 => ?_) (fun c31 => ?_)
            · have h := if_t h c31
              refine m_iconst (pc := 97) C dL_law_97 ?_
              simp at h
            · have h := if_f h c31
              refine m_aload_n (pc := 72) C dL_law_72 rfl (lv_at hl 2 rfl) ?_
              refine m_bipush (pc := 73) C dL_law_73 rfl ?_
              refine m_iconst (pc := 75) C dL_law_75 ?_
              refine m_iconst (pc := 76) C dL_law_76 ?_
              obtain ⟨q32, h⟩ := ck_some h
              obtain ⟨a33, μ34, ca33, h⟩ := bd_some h
              refine V_X7_setRules (pc := 77) C hM ca33 rk_101 rk_0 rk_0 q32 bw_2_133 ⟨Nat.le_of_ble_eq_true rfl, Nat.le_of_ble_eq_true rfl⟩ hl.1 rc0 ⟨by show _ + 0 ≤ 606929; omega, by show _ + 0 ≤ 7281462; omega⟩ dL_law_77 (fun ra33 H locs hM => ?_)
              refine m_ldc (n := -100000002) (pc := 80) C bw_3_83 rfl dL_law_80 ?_
              refine m_icmp_ne (tgt := 97) (pc := 82) C ra33 rk_m100000002 dL_law_82 (by decide) (fun c35 => ?_) (fun c35 => ?_)
              · have h := if_t h c35
                refine m_iconst (pc := 97) C dL_law_97 ?_
                simp at h
              · have h := if_f h c35
                refine m_aload_n (pc := 85) C dL_law_85 rfl (lv_at hl 2 rfl) ?_
                refine m_bipush (pc := 86) C dL_law_86 rfl ?_
                refine m_iconst (pc := 88) C dL_law_88 ?_
                obtain ⟨q36, h⟩ := ck_some h
                obtain ⟨a37, μ38, ca37, h⟩ := bd_some h
                refine V_X7_setRate (pc := 89) C hM ca37 rk_6 rk_0 q36 bw_2_85 ⟨Nat.le_of_ble_eq_true rfl, Nat.le_of_ble_eq_true rfl⟩ hl.1 rc0 ⟨by show _ + 0 ≤ 606929; omega, by show _ + 0 ≤ 7281462; omega⟩ dL_law_89 (fun ra37 H locs hM => ?_)
                refine m_ldc (n := -100000001) (pc := 92) C bw_3_85 rfl dL_law_92 ?_
                refine m_icmp_eq (tgt := 99) (pc := 94) C ra37 rk_m100000001 dL_law_94 (by decide) (fun c39 => ?_) (fun c39 => ?_)
                · have h := if_t h c39
                  refine m_iconst (pc := 99) C dL_law_99 ?_
                  refine m_istore (pc := 100) C dL_law_100 hl (by decide) (lvK2 0 rfl (Nat.ne_of_beq_eq_false rfl) rfl (lvK1 1 rfl (Nat.ne_of_beq_eq_false rfl) (Nat.ne_of_beq_eq_false rfl) (lvK1 2 rfl (Nat.ne_of_beq_eq_false rfl) (Nat.ne_of_beq_eq_false rfl) (lvK1 3 rfl (Nat.ne_of_beq_eq_false rfl) (Nat.ne_of_beq_eq_false rfl) lvK0)))) (fun ls hl => ?_)
                  exact k_L_law_b102 C hX hbl hE hLn N N _ _ _ _ _ _ _ h rl_0 rk_0 rk_0 _ _ _ _ _ hb hM (lv_sub hl [4, 3, 2, 1, 0] rfl)
                · have h := if_f h c39
                  refine m_iconst (pc := 97) C dL_law_97 ?_
                  simp at h
end LAWW
