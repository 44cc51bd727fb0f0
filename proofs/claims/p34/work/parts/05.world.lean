/-! THE WORLD: how it is read, written, handed on -/
def ad (E : gE) (r : Int) : Nat := E.2.2.1 + (r - 1).toNat
theorem adO_pos {E : gE} {r : Int} (h : 1 ≤ r) : adO E r = some (ad E r) := by
  unfold adO ad
  rw [if_neg (by omega), if_neg (by omega)]
theorem vr_pos {E : gE} {r : Int} (h : 1 ≤ r) : vr E r = .ref (ad E r) := by
  unfold vr
  rw [adO_pos h]
  rfl
theorem vr_0 (E : gE) : vr E 0 = .null := rfl
theorem vr_cat (E : gE) (r : Int) : (vr E r).category = 1 := by
  unfold vr va_rf
  cases adO E r <;> rfl
theorem vr_or (E : gE) (r : Int) : vr E r = .null ∨ ∃ a, vr E r = .ref a := va_rf_or _
theorem wsE_len (E : gE) (μ : Mm) : (wsE E μ).length = (μ 0 0).toNat := by simp [wsE]
theorem wsE_at {E : gE} {μ : Mm} {i : Nat} (h : i < (μ 0 0).toNat) : (wsE E μ)[i]? = some (E.2.2.1 + i, ent E μ ((i : Int) + 1)) := by
  unfold wsE
  rw [List.getElem?_map, List.getElem?_range h]
  rfl
theorem wsE_get {E : gE} {μ : Mm} {r : Int} (h1 : 1 ≤ r) (h2 : r ≤ μ 0 0) : (wsE E μ)[(r - 1).toNat]? = some (ad E r, ent E μ r) := by
  rw [wsE_at (by omega)]
  unfold ad
  rw [show (((r - 1).toNat : Nat) : Int) + 1 = r by omega]
theorem wsE_D (E : gE) (μ : Mm) : va_D (gA E) (wsE E μ) := by
  have key : ∀ (k : Nat) (q : Nat × va_E), (wsE E μ)[k]? = some q → q.1 = E.2.2.1 + k := by
    intro k q hk
    have hl : k < (wsE E μ).length := (List.getElem?_eq_some_iff.mp hk).1
    rw [wsE_len] at hl
    rw [wsE_at hl] at hk
    cases hk
    rfl
  refine ⟨fun i j p q hi hj h => ?_, fun k q hk => ?_⟩
  · have h1 := key i p hi
    have h2 := key j q hj
    omega
  · have h1 := key k q hk
    show E.2.2.1 ≤ q.1
    omega
theorem ent_congr {E : gE} {μ μ' : Mm} {r : Int} (h : ∀ k, μ' r k = μ r k) : ent E μ' r = ent E μ r := by
  unfold ent
  simp only [h]
theorem wsE_set {E : gE} {μ μ' : Mm} {r : Int} (h1 : 1 ≤ r) (h2 : r ≤ μ 0 0) (hc : μ' 0 0 = μ 0 0) (ho : ∀ r', r' ≠ r → 1 ≤ r' → ∀ k, μ' r' k = μ r' k) : (wsE E μ).set (r - 1).toNat (ad E r, ent E μ' r) = wsE E μ' := by
  apply List.ext_getElem?
  intro i
  by_cases hi : i < (μ 0 0).toNat
  · rw [wsE_at (μ := μ') (by rw [hc]; exact hi)]
    by_cases hr : i = (r - 1).toNat
    · subst hr
      rw [List.getElem?_set_self (by rw [wsE_len]; exact hi)]
      unfold ad
      rw [show (((r - 1).toNat : Nat) : Int) + 1 = r by omega]
    · rw [List.getElem?_set_ne (Ne.symm hr), wsE_at hi, ent_congr (ho _ (by omega) (by omega))]
  · rw [List.getElem?_eq_none (by rw [List.length_set, wsE_len]; omega), List.getElem?_eq_none (by rw [wsE_len, hc]; omega)]
theorem wsE_push {E : gE} {μ μ' : Mm} (h0 : 0 ≤ μ 0 0) (hc : μ' 0 0 = μ 0 0 + 1) (ho : ∀ r', 1 ≤ r' → r' ≤ μ 0 0 → ∀ k, μ' r' k = μ r' k) : wsE E μ ++ [(E.2.2.1 + (μ 0 0).toNat, ent E μ' (μ 0 0 + 1))] = wsE E μ' := by
  apply List.ext_getElem?
  intro i
  by_cases hi : i < (μ 0 0).toNat
  · rw [List.getElem?_append_left (by rw [wsE_len]; exact hi), wsE_at hi, wsE_at (μ := μ') (by omega), ent_congr (ho _ (by omega) (by omega))]
  · rw [List.getElem?_append_right (by rw [wsE_len]; omega), wsE_len]
    by_cases he : i = (μ 0 0).toNat
    · subst he
      rw [Nat.sub_self, wsE_at (μ := μ') (by omega)]
      show some _ = some _
      rw [show (((μ 0 0).toNat : Nat) : Int) + 1 = μ 0 0 + 1 by omega]
    · rw [List.getElem?_eq_none (by simp; omega), List.getElem?_eq_none (by rw [wsE_len]; omega)]
theorem oM_kind (n : Nat) : oM n (-2) = 0 ∨ oM n (-2) = 11 ∨ oM n (-2) = 21 := by
  unfold oM
  split
  · exact Or.inr (Or.inl rfl)
  · split
    · exact Or.inl rfl
    · exact Or.inr (Or.inr rfl)
theorem WFm.pos {μ : Mm} (h : WFm μ) {r : Int} (h1 : μ r (-2) ≠ 0) (h2 : μ r (-2) ≠ 11) (h3 : μ r (-2) ≠ 21 ∨ 0 ≤ r) : 1 ≤ r ∧ r ≤ μ 0 0 := by
  obtain ⟨a, b, c, d, -⟩ := h
  refine ⟨?_, ?_⟩
  · rcases Int.lt_trichotomy r 0 with q | q | q
    · have e := d r (-2) q
      have e2 : m0 r (-2) = oM (-r).toNat (-2) := by unfold m0; rw [if_pos q]
      rcases oM_kind (-r).toNat with k | k | k
      · exact absurd (by rw [e, e2, k]) h1
      · exact absurd (by rw [e, e2, k]) h2
      · rcases h3 with h3 | h3
        · exact absurd (by rw [e, e2, k]) h3
        · omega
    · exact absurd (by rw [q]; exact b) h1
    · omega
  · by_cases q : μ 0 0 < r
    · exact absurd (c r q) h1
    · omega
theorem WFm.posK {μ : Mm} (h : WFm μ) {r kc : Int} (hk : μ r (-2) = kc) (h1 : 1 ≤ kc) (h2 : kc ≤ 10) : 1 ≤ r ∧ r ≤ μ 0 0 := h.pos (by omega) (by omega) (Or.inl (by omega))
theorem WFm.fld {μ : Mm} (h : WFm μ) {r kc : Int} (hk : μ r (-2) = kc) (h1 : 1 ≤ kc) (h2 : kc ≤ 10) {i : Nat} (hi : i < cN kc) : inT (cTy kc i) (μ r (i : Int)) := by
  obtain ⟨p1, p2⟩ := h.posK hk h1 h2
  rcases h.2.2.2.2 r p1 p2 with q | q
  · rw [hk] at q; exact q.2.2 i hi
  · omega
theorem WFm.arr {μ : Mm} (h : WFm μ) {r kc : Int} (hk : μ r (-2) = kc) (h1 : 21 ≤ kc) (h2 : kc ≤ 29) (hp : kc ≠ 21 ∨ 0 ≤ r) : 1 ≤ r ∧ r ≤ μ 0 0 ∧ 0 ≤ μ r (-1) ∧ μ r (-1) ≤ 2147483647 ∧ ∀ i : Int, 0 ≤ i → i < μ r (-1) → inT (eTy kc) (μ r i) := by
  obtain ⟨p1, p2⟩ := h.pos (r := r) (by omega) (by omega) (by omega)
  rcases h.2.2.2.2 r p1 p2 with q | q
  · omega
  · rw [hk] at q; exact ⟨p1, p2, q.2.2⟩
theorem ms_eq (μ : Mm) (r k x : Int) : mset μ r k x r k = x := by simp [mset]
theorem ms_r (μ : Mm) {r r' : Int} (k x k' : Int) (h : r' ≠ r) : mset μ r k x r' k' = μ r' k' := by simp [mset, h]
theorem ms_k (μ : Mm) (r : Int) {k k' : Int} (x r' : Int) (h : k' ≠ k) : mset μ r k x r' k' = μ r' k' := by simp [mset, h]
theorem WFm.setF {μ : Mm} (h : WFm μ) {r kc x : Int} (hk : μ r (-2) = kc) (h1 : 1 ≤ kc) (h2 : kc ≤ 10) {i : Nat} (hx : inT (cTy kc i) x) : WFm (mset μ r (i : Int) x) := by
  obtain ⟨p1, p2⟩ := h.posK hk h1 h2
  obtain ⟨a, b, c, d, e⟩ := h
  have e0 : mset μ r (i : Int) x 0 0 = μ 0 0 := ms_r _ _ _ _ (by omega)
  refine ⟨by rw [e0]; exact a, by rw [ms_r _ _ _ _ (by omega)]; exact b, fun r' q => ?_, fun r' k q => ?_, fun r' q1 q2 => ?_⟩
  · rw [e0] at q
    rw [ms_r _ _ _ _ (by omega)]
    exact c r' q
  · rw [ms_r _ _ _ _ (by omega)]
    exact d r' k q
  · rw [e0] at q2
    by_cases hr : r' = r
    · subst hr
      have ek : mset μ r' (i : Int) x r' (-2) = kc := by rw [ms_k _ _ _ _ (by omega)]; exact hk
      rw [ek]
      refine Or.inl ⟨h1, h2, fun j hj => ?_⟩
      by_cases hij : j = i
      · subst hij
        rw [ms_eq]
        exact hx
      · rw [ms_k _ _ _ _ (by omega)]
        exact WFm.fld ⟨a, b, c, d, e⟩ hk h1 h2 hj
    · have es : ∀ k, mset μ r (i : Int) x r' k = μ r' k := fun k => ms_r _ _ _ _ hr
      simp only [es]
      exact e r' q1 q2
theorem WFm.setA {μ : Mm} (h : WFm μ) {r kc i x : Int} (hk : μ r (-2) = kc) (h1 : 21 ≤ kc) (h2 : kc ≤ 29) (hp : kc ≠ 21 ∨ 0 ≤ r) (hi : 0 ≤ i) (hx : inT (eTy kc) x) : WFm (mset μ r i x) := by
  obtain ⟨p1, p2, l1, l2, el⟩ := h.arr hk h1 h2 hp
  obtain ⟨a, b, c, d, e⟩ := h
  have e0 : mset μ r i x 0 0 = μ 0 0 := ms_r _ _ _ _ (by omega)
  refine ⟨by rw [e0]; exact a, by rw [ms_r _ _ _ _ (by omega)]; exact b, fun r' q => ?_, fun r' k q => ?_, fun r' q1 q2 => ?_⟩
  · rw [e0] at q
    rw [ms_r _ _ _ _ (by omega)]
    exact c r' q
  · rw [ms_r _ _ _ _ (by omega)]
    exact d r' k q
  · rw [e0] at q2
    by_cases hr : r' = r
    · subst hr
      have ek : mset μ r' i x r' (-2) = kc := by rw [ms_k _ _ _ _ (by omega)]; exact hk
      have ek1 : mset μ r' i x r' (-1) = μ r' (-1) := ms_k _ _ _ _ (by omega)
      rw [ek, ek1]
      refine Or.inr ⟨h1, h2, l1, l2, fun j hj1 hj2 => ?_⟩
      by_cases hij : j = i
      · subst hij
        rw [ms_eq]
        exact hx
      · rw [ms_k _ _ _ _ hij]
        exact el j hj1 hj2
    · have es : ∀ k, mset μ r i x r' k = μ r' k := fun k => ms_r _ _ _ _ hr
      simp only [es]
      exact e r' q1 q2
theorem TBL.warm {E : gE} {s U : State} (hW : s.WarmedH U.vm) (h : TBL E s) : TBL E U := by
  obtain ⟨a, b, c1, c2, c3, c4, d1, d2, d3, d4, f1, f2⟩ := h
  exact ⟨va_K.moved hW.alike a, fun i q hq => vk_R.warm hW (b i q hq), va_Nw.warmM hW c1, va_Nw.warmM hW c2, va_Nw.warmM hW c3, va_Nw.warmM hW c4, va_AO.moved hW.alike d1, va_AO.moved hW.alike d2, va_AO.moved hW.alike d3, va_AO.moved hW.alike d4, word_at hW (Or.inl rfl) f1, word_at hW (Or.inl rfl) f2⟩
theorem TBL.same {E : gE} {s U : State} (hv : U.vm = s.vm) (h : TBL E s) : TBL E U := by
  obtain ⟨a, b, c1, c2, c3, c4, d1, d2, d3, d4, f1, f2⟩ := h
  have hvm : s.vm.Alike U.vm := by rw [hv]; exact Vm.Alike.refl s.vm
  exact ⟨va_K.moved hvm a, fun i q hq => vk_R.same hv (b i q hq), va_Nw.same rfl hv.symm c1, va_Nw.same rfl hv.symm c2, va_Nw.same rfl hv.symm c3, va_Nw.same rfl hv.symm c4, va_AO.moved hvm d1, va_AO.moved hvm d2, va_AO.moved hvm d3, va_AO.moved hvm d4, va_Nw.same rfl hv.symm f1, va_Nw.same rfl hv.symm f2⟩
theorem OLD.moved {E : gE} {s U : State} {H : Heap} (hvm : s.vm.Alike U.vm) (h : OLD E s H) : OLD E U H := by
  obtain ⟨a, b, c1, c2, c3, c4⟩ := h
  refine ⟨fun i hi => ?_, fun n hn => ?_, va_Z.moved hvm c1, va_Z.moved hvm c2, va_Z.moved hvm c3, va_Z.moved hvm c4⟩
  · obtain ⟨a1, a2, a3, a4, a5⟩ := a i hi
    exact ⟨a1, a2, va_O.moved hvm a3, va_OF.moved hvm a4, va_OF.moved hvm a5⟩
  · exact ⟨(b n hn).1, va_T.moved hvm (b n hn).2⟩
theorem OLD.kept {E : gE} {U : State} {H H1 : Heap} (h : OLD E U H) (hq : ∀ a : Nat, a < H.size → ¬ gA E a → H1[a]? = H[a]?) : OLD E U H1 := by
  obtain ⟨a, b, c1, c2, c3, c4⟩ := h
  refine ⟨fun i hi => ?_, fun n hn => ?_, c1.kept hq, c2.kept hq, c3.kept hq, c4.kept hq⟩
  · obtain ⟨a1, a2, a3, a4, a5⟩ := a i hi
    exact ⟨a1, a2, a3.kept hq, a4.kept hq, a5.kept hq⟩
  · exact ⟨(b n hn).1, (b n hn).2.kept hq⟩
theorem MEM.warm {E : gE} {μ : Mm} {s U : State} {H : Heap} (hW : s.WarmedH U.vm) (h : MEM E μ s H) : MEM E μ U H := ⟨h.1.warm hW, h.2.1.moved hW.alike, h.2.2⟩
theorem MEM.same {E : gE} {μ : Mm} {s U : State} {H : Heap} (hv : U.vm = s.vm) (h : MEM E μ s H) : MEM E μ U H := ⟨h.1.same hv, h.2.1.moved (by rw [hv]; exact Vm.Alike.refl s.vm), h.2.2⟩
/-- a method's end: what it answers, that the world is there, that nothing old was touched -/
def gQ (E : gE) (rv : Option Value) (P : Prop) (μ : Mm) : Array Value → State → Outcome → State → Prop := fun _ st oc t => oc = .returned rv ∧ P ∧ WFm μ ∧ t.heap.size = E.2.2.1 + (μ 0 0).toNat ∧ va_P E.1 vwCl (wsE E μ) t.heap ∧ va_F (gA E) st t
def gMet (l : Launch) (E : gE) (y : MethodName) (cc : ByteArray) (n : Nat) (ret : Option FieldType) (fr lo : Nat) (As : List Value) (rv : Option Value) (P : Prop) (μ μ' : Mm) (mc ms : Nat) : Prop := Met l y (wsB y cc n ret) ({ frames := fr, cells := mc, slots := ms, locals := lo }) (va_Pc As (fun U => MEM E μ U U.heap)) (gQ E rv P μ') mc ms (gA E)
def gCx (p : Program) (s : State) (m : MethodId) (args : Array Value) (meth : Method) (c : Code) (cc : ByteArray) (nL : Nat) (ret : Option FieldType) (nm : String) (own : String) : Prop := CallFix p m c cc nL s args bigL own ∧ meth.sig.returnType = ret ∧ meth.locks = false ∧ meth.name = nm
theorem gPc_blind {E : gE} {μ : Mm} {As : List Value} : FrameBlind (va_Pc As (fun U => MEM E μ U U.heap)) := fun a U g mk q => ⟨q.1, MEM.same (s := U) (U := U.calling g mk a) rfl q.2⟩
/-! the locals -/
def lvK (lv : List (Nat × Value)) (i : Nat) (l : List (Nat × Value)) : Prop := ∀ q ∈ l, (∃ k : Nat, lv[k]? = some q) ∧ q.1 ≠ i ∧ (q.1 + 1 = i → q.2.category = 1)
theorem lvK0 {lv : List (Nat × Value)} {i : Nat} : lvK lv i [] := fun _ h => by cases h
theorem lvK1 {lv : List (Nat × Value)} {i : Nat} {q : Nat × Value} {l : List (Nat × Value)} (k : Nat) (hk : lv[k]? = some q) (h1 : q.1 ≠ i) (h2 : q.1 + 1 ≠ i) (h : lvK lv i l) : lvK lv i (q :: l) := List.forall_mem_cons.mpr ⟨⟨⟨k, hk⟩, h1, fun e => absurd e h2⟩, h⟩
theorem lvK2 {lv : List (Nat × Value)} {i : Nat} {q : Nat × Value} {l : List (Nat × Value)} (k : Nat) (hk : lv[k]? = some q) (h1 : q.1 ≠ i) (h2 : q.2.category = 1) (h : lvK lv i l) : lvK lv i (q :: l) := List.forall_mem_cons.mpr ⟨⟨⟨k, hk⟩, h1, fun _ => h2⟩, h⟩
theorem lv_mono {ls : Array Slot} {n : Nat} {l l' : List (Nat × Value)} (h : lv_has ls n l) (hm : ∀ q ∈ l', q ∈ l) : lv_has ls n l' := ⟨h.1, h.2.1, fun q hq => h.2.2 q (hm q hq)⟩
theorem lvK.in {lv l : List (Nat × Value)} {i : Nat} (h : lvK lv i l) : ∀ q ∈ l, q ∈ lv.filter (fun q => !(q.1 == i) && !(q.1 + 1 == i && q.2.category == 2)) := by
  intro q hq
  obtain ⟨⟨k, hk⟩, h1, h2⟩ := h q hq
  refine List.mem_filter.mpr ⟨List.mem_of_getElem? hk, ?_⟩
  by_cases e : q.1 + 1 = i
  · simp [h1, h2 e]
  · simp [h1, e]
theorem lvK.in1 {lv l : List (Nat × Value)} {i : Nat} {v : Value} (h : lvK lv i l) : ∀ q ∈ (i, v) :: l, q ∈ (i, v) :: lv.filter (fun q => !(q.1 == i) && !(q.1 + 1 == i && q.2.category == 2)) := fun q hq => by
  rcases List.mem_cons.mp hq with e | e
  · exact List.mem_cons.mpr (Or.inl e)
  · exact List.mem_cons.mpr (Or.inr (h.in q e))
theorem lvK.in2 {lv l : List (Nat × Value)} {i : Nat} {v : Value} (h : lvK lv i l) (h2 : ∀ q ∈ l, q.1 ≠ i + 1) : ∀ q ∈ (i, v) :: l, q ∈ (i, v) :: lv.filter (fun q => !(q.1 == i) && (!(q.1 == i + 1) && !(q.1 + 1 == i && q.2.category == 2))) := fun q hq => by
  rcases List.mem_cons.mp hq with e | e
  · exact List.mem_cons.mpr (Or.inl e)
  · refine List.mem_cons.mpr (Or.inr ?_)
    obtain ⟨⟨k, hk⟩, h1, h3⟩ := h q e
    have h4 := h2 q e
    refine List.mem_filter.mpr ⟨List.mem_of_getElem? hk, ?_⟩
    by_cases e : q.1 + 1 = i
    · simp [h1, h3 e, h4]
    · simp [h1, e, h4]
/-- where the arguments lie, by how many slots each takes -/
def gpos : Nat → List Nat → List Value → List (Nat × Value)
  | i, c :: cs, v :: vs => (i, v) :: gpos (i + c) cs vs
  | _, _, _ => []
theorem gpos_eq : ∀ (vs : List Value) (i : Nat), lv_args i vs = gpos i (vs.map Value.category) vs
  | [], i => rfl
  | v :: vs, i => by
    rw [lv_args]
    simp only [List.map_cons, gpos]
    rw [gpos_eq vs]
    rcases lv_cat v with h | h
    · rw [h]; rfl
    · rw [h]; rfl
theorem lg_len (vs : List Value) : (lg_sl vs).length = (vs.map Value.category).sum := by
  induction vs with
  | nil => rfl
  | cons v vs ih =>
    simp only [lg_sl, List.flatMap_cons, List.length_append, List.map_cons, List.sum_cons] at ih ⊢
    rw [ih]
    rcases lv_cat v with h | h
    · rw [h, if_neg (by decide)]; rfl
    · rw [h, if_pos rfl]; rfl
theorem g_entry (m : MethodId) (vs : List Value) (cs : List Nat) (hcs : vs.map Value.category = cs) {n : Nat} (h : cs.sum ≤ n) : ∃ ls, entryFrame m vs.toArray n = F0 m 0 ls [] ∧ lv_has ls n (gpos 0 cs vs) := by
  subst hcs
  have hl := lv_entry vs (n := n) (by rw [lg_len]; exact h)
  rw [gpos_eq] at hl
  exact ⟨_, lg_entry_eq m vs n, hl⟩
/-- from a walk of the body to the contract -/
theorem g_ofW {l : Launch} {E : gE} {y : MethodName} {cc : ByteArray} {n : Nat} {ret : Option FieldType} {fr lo : Nat} {As : List Value} {rv : Option Value} {P : Prop} {μ μ' : Mm} {mc ms : Nat} (cs : List Nat) (hcs : As.map Value.category = cs) (hn : cs.sum ≤ n) (hy : plainName y.cls = true)
    (body : ∀ (p : Program) (e : Env) (s : State) (m : MethodId) (below : List Frame) (meth : Method) (c : Code) (ls : Array Slot), gCx p s m As.toArray meth c cc n ret y.name y.cls → MS E μ s s.heap [] → lv_has ls n (gpos 0 cs As) → W p l e ({ frames := fr, cells := mc, slots := ms, locals := lo }) s m As.toArray below meth c s.heap [] 0 0 (MQ below (gQ E rv P μ') As.toArray s mc ms (gA E)) (F0 m 0 ls [])) :
    gMet l E y cc n ret fr lo As rv P μ μ' mc ms := by
  refine Met.ofW (cc := cc) (maxL := n) (ret := ret) hy rfl ?_
  intro p e s m args below meth c s₁ B hml hv
  obtain ⟨rfl, hM⟩ := hv
  obtain ⟨ls, e1, hl⟩ := g_entry m As cs hcs hn
  rw [e1]
  have hts := atoms_spec (ws := wsB y cc n ret) B.pre
  refine body p e s m below meth c ls ⟨⟨B.exec, B.bytes, hml, findClass_of_methodNamed B.named, fun w hw => hts w (List.mem_cons_of_mem _ hw)⟩, B.returns, B.notSynchronized, (name_of_methodNamed B.named B.method).1⟩ ⟨hM, va_S.rf, ?_⟩ hl
  have := hM.2.2.2.1
  omega
