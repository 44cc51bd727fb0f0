/-! ROWS FOR THE JDK'S OWN: texts that were there, bytes, statics, inherited methods -/
theorem sel_priv {C : String} {y : MethodName} {s : State} {args : Array Value} {n : Nat} (hsame : (Cond.sameMethod y.cls y.cls y.name y.desc).before args s = true) (hins : (Cond.instantiable C n).before args s = true) (hpriv : (Cond.privateMethod y).before args s = true) (hinst : (Cond.instanceMethod y).before args s = true) : (Cond.selects C y y).before args s = true := by
  obtain ⟨c, k, hc, hk, -, -, -, -⟩ := Cond.instantiable_spec hins
  obtain ⟨cn, ck, r1, hcn, hck, hni, hf, hn1⟩ := Cond.sameMethod_found hsame
  obtain ⟨mk, methM, hnamed, hmethM, -, -⟩ := Cond.instanceMethod_spec hinst
  have hn1' : s.methodNamed? y = some r1 := hn1
  have emk : mk = r1 := Option.some.inj (hnamed.symm.trans hn1')
  subst emk
  have hcls : mk.cls = cn := Option.some.inj ((findClass_of_methodNamed hnamed).symm.trans hcn)
  have hsel : selectMethod {} s.vm c mk = .method mk := selectMethod_private hmethM (Cond.privateMethod_at hpriv mk methM hnamed hmethM)
  simp only [Cond.before, Cond.holds, Cond.value, hc, hf, hnamed, hsel, hcls, hck]
  simp; exact hni
theorem oTx_R : ∀ n : Nat, ∀ x ∈ oTx n, -128 ≤ x ∧ x ≤ 127 := by
  intro n x hx
  unfold oTx at hx
  split at hx
  all_goals first
    | (simp only [List.mem_cons, List.not_mem_nil, or_false] at hx; omega)
    | (obtain ⟨i, hi, rfl⟩ := List.mem_map.mp hx; have := List.mem_range.mp hi; omega)
    | cases hx
section ROWS3
variable {p : Program} {l : Launch} {e : Env} {R : Room} {s : State} {m : MethodId} {args : Array Value} {below : List Frame} {meth : Method} {c : Code} {H : Heap} {locs : List Loc} {cells slots : Nat} {Q : State → Prop} {cc : ByteArray} {pc nL : Nat} {ls : Array Slot} {rest : List Value} {ret : Option FieldType} {nmm own : String} {E : gE} {μ μ1 : Mm}
theorem WFm.old {μ : Mm} (h : WFm μ) {r : Int} (hk : μ r (-2) = 11 ∨ (μ r (-2) = 21 ∧ ¬ 0 ≤ r)) : r < 0 := by
  obtain ⟨a, b, c, d, e⟩ := h
  rcases hk with hk | hk
  · rcases Int.lt_trichotomy r 0 with q | q | q
    · exact q
    · rw [q, b] at hk; omega
    · by_cases q2 : r ≤ μ 0 0
      · rcases e r (by omega) q2 with w | w
        · omega
        · omega
      · rw [c r (by omega)] at hk
        omega
  · omega
theorem str_at (hM : MS E μ s H locs) {r : Int} (hck : μ r (-2) = 11) : ∃ i : Nat, i < 13 ∧ r = -(1 + (i : Int)) ∧ μ r 0 = -(101 + (i : Int)) ∧ μ r 1 = 0 ∧ vr E r = .ref (oAt E (1 + i)) ∧ vr E (μ r 0) = .ref (oAt E (101 + i)) := by
  have hr := hM.wf.old (Or.inl hck)
  have hm := hM.wf.2.2.2.1 r
  have hd : ∀ k, μ r k = oM (-r).toNat k := fun k => by rw [hm k hr]; unfold m0; rw [if_pos hr]
  have h13 : 1 ≤ (-r).toNat ∧ (-r).toNat ≤ 13 := by
    have h1 := hd (-2)
    rw [hck] at h1
    unfold oM at h1
    split at h1
    · assumption
    · split at h1
      · omega
      · rw [if_pos rfl] at h1; omega
  have e0 : μ r 0 = -(100 + ((-r).toNat : Int)) := by rw [hd 0]; unfold oM; rw [if_pos h13, if_neg (by omega), if_pos rfl]
  have e1 : μ r 1 = 0 := by rw [hd 1]; unfold oM; rw [if_pos h13, if_neg (by omega), if_neg (by omega)]
  obtain ⟨a1, a2, -⟩ := hM.1.2.1.1 ((-r).toNat - 1) (by omega)
  have n1 : 1 + ((-r).toNat - 1) = (-r).toNat := by omega
  have n2 : 101 + ((-r).toNat - 1) = (-(μ r 0)).toNat := by omega
  rw [n1] at a1
  rw [n2] at a2
  refine ⟨(-r).toNat - 1, by omega, by omega, by omega, e1, ?_, ?_⟩
  · rw [n1]
    unfold vr adO
    rw [if_neg (by omega), if_pos hr, a1]
    rfl
  · rw [n2]
    unfold vr adO
    rw [if_neg (by omega), if_pos (by omega), a2]
    rfl
theorem GrS_coder (hM : MS E μ s H locs) {r : Int} (hck : μ r (-2) = 11) : R32 (μ r 1) := by
  obtain ⟨i, -, -, -, h, -⟩ := str_at hM hck
  rw [h]
  exact R32_0
theorem GS_value (C : gCx p s m args meth c cc nL ret nmm own) (hM : MS E μ s H locs) {r : Int} {index : Nat} (hl : Cond.fieldLink own index "java/lang/String" "value" "[B" ∈ bigL) (hck : μ r (-2) = 11) (hdg : decode cc pc = .ok (.getfield index, 3)) (kk : W p l e R s m args below meth c H locs cells slots Q (F0 m (pc + 3) ls (vr E (μ r 0) :: rest))) : W p l e R s m args below meth c H locs cells slots Q (F0 m pc ls (vr E r :: rest)) := by
  obtain ⟨i, hi, -, -, -, h5, h6⟩ := str_at hM hck
  rw [h5]
  rw [h6] at kk
  obtain ⟨-, -, -, -, cf, k, fi, f, cell, h1, h2, h3, h4, h7, -⟩ := hM.1.2.1.1 i hi
  exact W.getf C.1.1 C.1.2.1 C.1.2.2.2.1 (C.w hl) h1 h2 h3 h4 h7 rfl rfl hdg kk
theorem GS_coder (C : gCx p s m args meth c cc nL ret nmm own) (hM : MS E μ s H locs) {r : Int} {index : Nat} (hl : Cond.fieldLink own index "java/lang/String" "coder" "B" ∈ bigL) (hck : μ r (-2) = 11) (hdg : decode cc pc = .ok (.getfield index, 3)) (kk : W p l e R s m args below meth c H locs cells slots Q (F0 m (pc + 3) ls (vi (μ r 1) :: rest))) : W p l e R s m args below meth c H locs cells slots Q (F0 m pc ls (vr E r :: rest)) := by
  obtain ⟨i, hi, -, -, h4', h5, -⟩ := str_at hM hck
  rw [h5]
  rw [h4'] at kk
  obtain ⟨-, -, -, ⟨cf, k, fi, f, cell, h1, h2, h3, h4, h7, -⟩, -⟩ := hM.1.2.1.1 i hi
  exact W.getf C.1.1 C.1.2.1 C.1.2.2.2.1 (C.w hl) h1 h2 h3 h4 h7 rfl rfl hdg kk
/-- bytes that were there -/
theorem oldB (hM : MS E μ s H locs) {r : Int} (hck : μ r (-2) = 21) (hr : ¬ 0 ≤ r) : ∃ n : Nat, vr E r = .ref (oAt E n) ∧ μ r (-1) = (oTx n).length ∧ (∀ i : Int, 0 ≤ i → i < μ r (-1) → μ r i = (oTx n).getD i.toNat 0) ∧ va_T .byte (oAt E n) (oTx n).length (fun j => vi ((oTx n).getD j 0)) (gA E) s H := by
  have hr0 : r < 0 := by omega
  have hm := hM.wf.2.2.2.1 r
  have hd : ∀ k, μ r k = oM (-r).toNat k := fun k => by rw [hm k hr0]; unfold m0; rw [if_pos hr0]
  have hne : ¬ (1 ≤ (-r).toNat ∧ (-r).toNat ≤ 13) ∧ oTx (-r).toNat ≠ [] := by
    have h1 := hd (-2)
    rw [hck] at h1
    unfold oM at h1
    split at h1
    · rw [if_pos rfl] at h1; omega
    · rename_i h2
      split at h1
      · omega
      · rename_i h3
        exact ⟨h2, h3⟩
  have e1 : μ r (-1) = (oTx (-r).toNat).length := by rw [hd]; unfold oM; rw [if_neg hne.1, if_neg hne.2, if_neg (by omega), if_pos rfl]
  obtain ⟨a1, a2⟩ := hM.1.2.1.2.1 (-r).toNat hne.2
  refine ⟨(-r).toNat, ?_, e1, fun i h0 h1 => ?_, a2⟩
  · unfold vr adO
    rw [if_neg (by omega), if_pos hr0, a1]
    rfl
  · rw [hd]
    unfold oM
    rw [if_neg hne.1, if_neg hne.2, if_neg (by omega), if_neg (by omega), if_pos h0]
theorem m_bald (C : gCx p s m args meth c cc nL ret nmm own) (hM : MS E μ s H locs) {a i : Int} (hck : μ a (-2) = 21) (h0 : 0 ≤ i) (h1 : i < μ a (-1)) (hdg : decode cc pc = .ok (.baload, 1)) (kk : W p l e R s m args below meth c H locs cells slots Q (F0 m (pc + 1) ls (vi (μ a i) :: rest))) : W p l e R s m args below meth c H locs cells slots Q (F0 m pc ls (vi i :: vr E a :: rest)) := by
  by_cases hp : 0 ≤ a
  · obtain ⟨p1, p2, p3, p4, p5, p6, -⟩ := hM.arr hck (by omega) (by omega) (Or.inr hp)
    rw [ent_int hck (by omega) (Or.inl (by omega))] at p4
    rw [p3]
    have ri := ix_in h0 h1 p6
    refine va_bald (D := E.1) (cl := vwCl) C.1.1 C.1.2.1 hM.K hM.P _ 0 p4 rfl (i_in ri h0 (by omega)) hdg ?_
    rw [i_clamp ri h0, show ((i.toNat : Nat) : Int) = i by omega]
    exact kk
  · obtain ⟨n, e1, e2, e3, cell, q1, q2, q3, q4, q5, q6, q7⟩ := oldB hM hck hp
    rw [e1]
    rw [e3 i h0 h1] at kk
    have hlen : (oTx n).length ≤ 2147483647 := by
      unfold oTx
      split <;> simp
    have ri : R32 i := ⟨by omega, by omega⟩
    refine W.bald (v := vi ((oTx n).getD i.toNat 0)) C.1.1 C.1.2.1 q1 q2 q3 ?_ ?_ rfl rfl hdg kk
    · rw [i_clamp ri h0]
      rintro (h | h)
      · have := (i_lt ri R32_0).mp h
        omega
      · omega
    · rw [i_clamp ri h0]
      exact q6 _ (by omega)
theorem Ar_bald (hM : MS E μ s H locs) {a i : Int} (hck : μ a (-2) = 21) (h0 : 0 ≤ i) (h1 : i < μ a (-1)) : R32 (μ a i) := by
  by_cases hp : 0 ≤ a
  · have h : -128 ≤ μ a i ∧ μ a i ≤ 127 := (hM.arr hck (by omega) (by omega) (Or.inr hp)).2.2.2.2.2.2 i h0 h1
    exact ⟨by omega, by omega⟩
  · obtain ⟨n, e1, e2, e3, -⟩ := oldB hM hck hp
    rw [e3 i h0 h1]
    have hi : i.toNat < (oTx n).length := by omega
    have := oTx_R n ((oTx n).getD i.toNat 0) (by rw [List.getD_eq_getElem?_getD, List.getElem?_eq_getElem hi]; exact List.getElem_mem hi)
    exact ⟨by omega, by omega⟩
theorem Al_b (hM : MS E μ s H locs) {a : Int} (hck : μ a (-2) = 21) : R32 (μ a (-1)) := by
  by_cases hp : 0 ≤ a
  · obtain ⟨-, -, -, -, g1, g2, -⟩ := hM.arr hck (by omega) (by omega) (Or.inr hp)
    exact ⟨by omega, by omega⟩
  · obtain ⟨n, e1, e2, -⟩ := oldB hM hck hp
    have hlen : (oTx n).length ≤ 2147483647 := by
      unfold oTx
      split <;> simp
    exact ⟨by omega, by omega⟩
theorem m_alenB (C : gCx p s m args meth c cc nL ret nmm own) (hM : MS E μ s H locs) {a : Int} (hck : μ a (-2) = 21) (hdg : decode cc pc = .ok (.arraylength, 1)) (kk : W p l e R s m args below meth c H locs cells slots Q (F0 m (pc + 1) ls (vi (μ a (-1)) :: rest))) : W p l e R s m args below meth c H locs cells slots Q (F0 m pc ls (vr E a :: rest)) := by
  by_cases hp : 0 ≤ a
  · exact m_alen C hM hck (by omega) (by omega) (Or.inr hp) hdg kk
  · obtain ⟨n, e1, e2, e3, cell, q1, q2, q3, q4, q5, q6, q7⟩ := oldB hM hck hp
    rw [e1]
    refine W.alen (n := Int32.ofInt (μ a (-1))) C.1.1 C.1.2.1 q1 q2 ?_ rfl rfl hdg kk
    rw [q5, e2, Int32.ofInt_eq_ofNat]
theorem m_compact (C : gCx p s m args meth c cc nL ret nmm own) (hM : MS E μ s H locs) {index : Nat} (hl : Cond.fieldLink own index "java/lang/String" "COMPACT_STRINGS" "Z" ∈ bigL) (hdg : decode cc pc = .ok (.getstatic index, 3)) (kk : W p l e R s m args below meth c H locs cells slots Q (F0 m (pc + 3) ls (vi 1 :: rest))) : W p l e R s m args below meth c H locs cells slots Q (F0 m pc ls rest) := g_static C hM.1.2.1.2.2.1 hl hdg kk
theorem m_sioobe (C : gCx p s m args meth c cc nL ret nmm own) (hM : MS E μ s H locs) {index : Nat} (hl : Cond.fieldLink own index "jdk/internal/util/Preconditions" "SIOOBE_FORMATTER" "Ljava/util/function/BiFunction;" ∈ bigL) (hdg : decode cc pc = .ok (.getstatic index, 3)) (kk : W p l e R s m args below meth c H locs cells slots Q (F0 m (pc + 3) ls (vr E (-201) :: rest))) : W p l e R s m args below meth c H locs cells slots Q (F0 m pc ls rest) := g_static C hM.1.2.1.2.2.2.1 hl hdg kk
theorem m_digO (C : gCx p s m args meth c cc nL ret nmm own) (hM : MS E μ s H locs) {index : Nat} (hl : Cond.fieldLink own index "java/lang/Integer" "DigitOnes" "[B" ∈ bigL) (hdg : decode cc pc = .ok (.getstatic index, 3)) (kk : W p l e R s m args below meth c H locs cells slots Q (F0 m (pc + 3) ls (vr E (-301) :: rest))) : W p l e R s m args below meth c H locs cells slots Q (F0 m pc ls rest) := g_static C hM.1.2.1.2.2.2.2.1 hl hdg kk
theorem m_digT (C : gCx p s m args meth c cc nL ret nmm own) (hM : MS E μ s H locs) {index : Nat} (hl : Cond.fieldLink own index "java/lang/Integer" "DigitTens" "[B" ∈ bigL) (hdg : decode cc pc = .ok (.getstatic index, 3)) (kk : W p l e R s m args below meth c H locs cells slots Q (F0 m (pc + 3) ls (vr E (-302) :: rest))) : W p l e R s m args below meth c H locs cells slots Q (F0 m pc ls rest) := g_static C hM.1.2.1.2.2.2.2.2 hl hdg kk
/-- a call on a text -/
theorem g_callVT (C : gCx p s m args meth c cc nL ret nmm own) (hM : MS E μ s H locs) {y : MethodName} {bytes : ByteArray} {maxL fr lo mc ms index n : Nat} {rt : Option FieldType} {r : Int} {As st0 : List Value} {rv : Option Value} {P : Prop} (hMet : gMet l E y bytes maxL rt fr lo (vr E r :: As) rv P μ μ1 mc ms) (hck : μ r (-2) = 11) (hG : GoodIn bigL (wsV own index RJ0 y (wsB y bytes maxL rt)))
    (hd : y.cls = RJ0 ∧ y.cls ≠ "java/lang/invoke/MethodHandle" ∧ y.cls ≠ "java/lang/invoke/VarHandle" ∧ (parseMethodDescriptor y.desc).map (fun d => d.parameters.length) = some n) (hR : fr + 1 ≤ R.frames ∧ 8 + (maxL + 11) + lo ≤ R.locals) (hn : As.length = n) (hl : ls.size = nL) (hst : st0 = As.reverse ++ vr E r :: rest) (hcat : RC rest 8) (hf : cells + mc ≤ R.cells ∧ slots + ms ≤ R.slots) (hdg : decode cc pc = .ok (.invokevirtual index, 3))
    (kk : P → ∀ (H1 : Heap) (locs1 : List Loc), MS E μ1 s H1 locs1 → W p l e R s m args below meth c H1 locs1 (cells + mc) (slots + ms) Q (F0 m (pc + 3) ls (rv.toList ++ rest))) : W p l e R s m args below meth c H locs cells slots Q (F0 m pc ls st0) := by
  obtain ⟨i, hi, -, -, -, h5, -⟩ := str_at hM hck
  unfold gMet at hMet
  rw [h5] at hMet hst
  obtain ⟨-, -, ⟨cell, g1, g2, g3, -⟩, -⟩ := hM.1.2.1.1 i hi
  refine g_back (va_runV (C := RJ0) C.1 hMet (cwV n C.1.2.2.2.2 hG rfl rfl rfl hd hR) ⟨gPc_blind, ⟨cell, g1, g2, g3⟩, g_pre hM⟩ rfl hn hl hst (lv_room hcat) hdg hf) hM kk
/-- a call of an inherited method on a StringBuilder -/
theorem g_callVU (C : gCx p s m args meth c cc nL ret nmm own) (hM : MS E μ s H locs) {y : MethodName} {bytes : ByteArray} {maxL fr lo mc ms index n : Nat} {rt : Option FieldType} {r : Int} {As st0 : List Value} {rv : Option Value} {P : Prop} (hMet : gMet l E y bytes maxL rt fr lo (vr E r :: As) rv P μ μ1 mc ms) (hck : μ r (-2) = 1) (h1 : Cond.methodLink own index y ∈ bigL) (hsame : Cond.sameMethod y.cls y.cls y.name y.desc ∈ bigL) (hsel : (Cond.selects RJ4 y y).before args s = true) (h2 : Cond.instanceMethod y ∈ bigL) (h4 : Cond.initialized y.cls ∈ bigL) (h5 : Cond.code y bytes maxL rt ∈ bigL)
    (hd : y.cls ≠ "java/lang/invoke/MethodHandle" ∧ y.cls ≠ "java/lang/invoke/VarHandle" ∧ (parseMethodDescriptor y.desc).map (fun d => d.parameters.length) = some n) (hR : fr + 1 ≤ R.frames ∧ 8 + (maxL + 11) + lo ≤ R.locals) (hn : As.length = n) (hl : ls.size = nL) (hst : st0 = As.reverse ++ vr E r :: rest) (hcat : RC rest 8) (hf : cells + mc ≤ R.cells ∧ slots + ms ≤ R.slots) (hdg : decode cc pc = .ok (.invokevirtual index, 3))
    (kk : P → ∀ (H1 : Heap) (locs1 : List Loc), MS E μ1 s H1 locs1 → W p l e R s m args below meth c H1 locs1 (cells + mc) (slots + ms) Q (F0 m (pc + 3) ls (rv.toList ++ rest))) : W p l e R s m args below meth c H locs cells slots Q (F0 m pc ls st0) := by
  obtain ⟨p1, p2, p3, p4⟩ := hM.at KF_J4 hck
  unfold gMet at hMet
  rw [p3] at hMet hst
  refine g_back (va_runU (C := RJ4) (owner := y.cls) (x := y) C.1 hMet ⟨⟨rfl, rfl, hR.1, hR.2, pay_in C.1.2.2.2.2 (gB h5), List.mem_cons_self⟩, C.w h5, C.w h4, ⟨hd.1, hd.2.1⟩, fun sig h => ?_, C.w h1, C.w hsame, va_Decl.of (C.w h2) (C.w h5), hsel, C.w h2⟩ ⟨gPc_blind, va_recv hM.K hM.P KF_J4.2.2.1 p4, g_pre hM⟩ rfl hn hl hst (lv_room hcat) hdg hf) hM kk
  have h2 := hd.2.2
  rw [h] at h2
  exact (Option.some.inj h2).symm
/-- a call of the superclass's method -/
theorem g_callSU (C : gCx p s m args meth c cc nL ret nmm RJ4) (hM : MS E μ s H locs) {y : MethodName} {bytes : ByteArray} {maxL fr lo mc ms index n : Nat} {rt : Option FieldType} {r : Int} {As st0 : List Value} {rv : Option Value} {P : Prop} (hMet : gMet l E y bytes maxL rt fr lo (vr E r :: As) rv P μ μ1 mc ms) (hck : μ r (-2) = 1) (h1 : Cond.methodLink RJ4 index y ∈ bigL) (hsame : Cond.sameMethod y.cls y.cls y.name y.desc ∈ bigL) (hsup : Cond.superclass RJ4 y.cls ∈ bigL) (h2 : Cond.instanceMethod y ∈ bigL) (h4 : Cond.initialized y.cls ∈ bigL) (h5 : Cond.code y bytes maxL rt ∈ bigL)
    (hd : y.name ≠ "<init>" ∧ (parseMethodDescriptor y.desc).map (fun d => d.parameters.length) = some n) (hR : fr + 1 ≤ R.frames ∧ 8 + (maxL + 11) + lo ≤ R.locals) (hn : As.length = n) (hl : ls.size = nL) (hst : st0 = As.reverse ++ vr E r :: rest) (hcat : RC rest 8) (hf : cells + mc ≤ R.cells ∧ slots + ms ≤ R.slots) (hdg : decode cc pc = .ok (.invokespecial index, 3))
    (kk : P → ∀ (H1 : Heap) (locs1 : List Loc), MS E μ1 s H1 locs1 → W p l e R s m args below meth c H1 locs1 (cells + mc) (slots + ms) Q (F0 m (pc + 3) ls (rv.toList ++ rest))) : W p l e R s m args below meth c H locs cells slots Q (F0 m pc ls st0) := by
  obtain ⟨p1, p2, p3, p4⟩ := hM.at KF_J4 hck
  unfold gMet at hMet
  rw [p3] at hMet hst
  have hG : GoodIn bigL (va_wsSU RJ4 index y (wsB y bytes maxL rt)) := fun w hw => by
    unfold va_wsSU at hw
    rcases List.mem_append.mp hw with e | e
    · simp only [List.mem_cons, List.not_mem_nil, or_false] at e
      rcases e with rfl | rfl | rfl | rfl | rfl
      · exact gW1 h1
      · exact gW1 hsame
      · exact gW1 hsup
      · exact gW1 h2
      · exact gW1 h4
    · exact gB h5 w e
  exact g_back (va_runSU (C := RJ4) (hM.K.1 _ _ KF_J4.2.2.1).2 C.1 hMet (va_cwSU n C.1.2.2.2.2 hG rfl rfl rfl hd hR) ⟨gPc_blind, va_recv hM.K hM.P KF_J4.2.2.1 p4, g_pre hM⟩ rfl hn hl hst (lv_room hcat) hdg hf) hM kk
end ROWS3
