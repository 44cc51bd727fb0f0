/-! ROWS OVER THE HEAP: fields, arrays, what is made, calls, returns -/
section HEAPROWS
variable {p : Program} {l : Launch} {e : Env} {R : Room} {s : State} {m : MethodId} {args : Array Value} {below : List Frame} {meth : Method} {c : Code} {H : Heap} {locs : List Loc} {cells slots : Nat} {Q : State → Prop} {cc : ByteArray} {pc nL : Nat} {ls : Array Slot} {rest : List Value} {ret : Option FieldType} {nmm own : String} {E : gE} {μ μ1 : Mm}
theorem MS.wf (hM : MS E μ s H locs) : WFm μ := hM.1.2.2.1
theorem MS.P (hM : MS E μ s H locs) : va_P E.1 vwCl (wsE E μ) H := hM.1.2.2.2.2
theorem MS.K (hM : MS E μ s H locs) : va_K E.1 vwCl (tysE E) s := hM.1.1.1
/-- behind a write of one cell -/
theorem MS.put {H1 : Heap} {locs1 : List Loc} (hM : MS E μ s H locs) (hw : WFm μ1) (hc : μ1 0 0 = μ 0 0) (hz : H1.size = H.size) (ho : ∀ q : Nat, ¬ gA E q → H1[q]? = H[q]?) (hP : va_P E.1 vwCl (wsE E μ1) H1) (hS : va_S (gA E) s.heap H1 locs1) : MS E μ1 s H1 locs1 :=
  ⟨⟨hM.1.1, hM.1.2.1.kept (fun q _ h => ho q h), hw, by rw [hz, hc]; exact hM.1.2.2.2.1, hP⟩, hS, hM.2.2⟩
theorem gKF.in {kc : Int} {Cn : String} {T : u_T} {ty : Nat → FieldType} {N : Nat} (K : gKF kc Cn T ty N) : ∀ w ∈ u_ws Cn T N, w ∈ bigL := K.2.2.2.1
theorem MS.at (hM : MS E μ s H locs) {kc : Int} {Cn : String} {T : u_T} {ty : Nat → FieldType} {N : Nat} (K : gKF kc Cn T ty N) {r : Int} (hck : μ r (-2) = kc) : 1 ≤ r ∧ r ≤ μ 0 0 ∧ vr E r = .ref (ad E r) ∧ (wsE E μ)[(r - 1).toNat]? = some (ad E r, .inr ((kc - 1).toNat, (List.range N).map (fun i => fv E (ty i) (μ r (i : Int))))) := by
  obtain ⟨k1, k2, -, -, -, -, k7, k8⟩ := K
  obtain ⟨p1, p2⟩ := hM.wf.posK hck k1 k2
  refine ⟨p1, p2, vr_pos p1, ?_⟩
  rw [wsE_get p1 p2, ent_obj hck k2, k7, k8]
theorem m_get (C : gCx p s m args meth c cc nL ret nmm own) {kc : Int} {Cn : String} {T : u_T} {ty : Nat → FieldType} {N : Nat} (K : gKF kc Cn T ty N) (hM : MS E μ s H locs) {r : Int} {index : Nat} (k : Nat) (hk : k < N) (hl : Cond.fieldLink own index (T k).1 (T k).2.1 (T k).2.2.1 ∈ bigL) (hck : μ r (-2) = kc) (hdg : decode cc pc = .ok (.getfield index, 3)) {v : Value} (hv : fv E (ty k) (μ r (k : Int)) = v)
    (kk : W p l e R s m args below meth c H locs cells slots Q (F0 m (pc + 3) ls (v :: rest))) : W p l e R s m args below meth c H locs cells slots Q (F0 m pc ls (vr E r :: rest)) := by
  obtain ⟨p1, p2, p3, p4⟩ := hM.at K hck
  rw [p3]
  exact va_get (D := E.1) (cl := vwCl) C.1.1 C.1.2.1 C.1.2.2.2.2 K.in C.1.2.2.2.1 hM.K hM.P _ p4 K.2.2.1 k hk (C.w hl) (fun _ h => h) (v := v) (by rw [List.getElem?_map, List.getElem?_range hk]; exact congrArg some hv) hdg kk
/-- what a field holds is in its type's range -/
theorem MS.rg (hM : MS E μ s H locs) {kc : Int} {Cn : String} {T : u_T} {ty : Nat → FieldType} {N : Nat} (K : gKF kc Cn T ty N) {r : Int} (hck : μ r (-2) = kc) (k : Nat) (hk : k < N) : inT (ty k) (μ r (k : Int)) := by
  have := hM.wf.fld hck K.1 K.2.1 (i := k) (by rw [K.2.2.2.2.2.2.1]; exact hk)
  rw [K.2.2.2.2.2.2.2] at this
  exact this
theorem set_fields {E : gE} {ty : Nat → FieldType} {N k : Nat} {μ : Mm} {r x : Int} (hk : k < N) : ((List.range N).map (fun i => fv E (ty i) (μ r (i : Int)))).set k (fv E (ty k) x) = (List.range N).map (fun i => fv E (ty i) (mset μ r (k : Int) x r (i : Int))) := by
  apply List.ext_getElem?
  intro i
  by_cases hi : i < N
  · by_cases hik : i = k
    · subst hik
      rw [List.getElem?_set_self (by simp; exact hk), List.getElem?_map, List.getElem?_range hi, Option.map_some, ms_eq]
    · rw [List.getElem?_set_ne (Ne.symm hik), List.getElem?_map, List.getElem?_map, List.getElem?_range hi, Option.map_some, Option.map_some, ms_k _ _ _ _ (by omega)]
  · rw [List.getElem?_eq_none (by simp; omega), List.getElem?_eq_none (by simp; omega)]
theorem MS.setFld {H1 : Heap} {locs1 : List Loc} (hM : MS E μ s H locs) {kc : Int} {Cn : String} {T : u_T} {ty : Nat → FieldType} {N : Nat} (K : gKF kc Cn T ty N) {r x : Int} (hck : μ r (-2) = kc) {k : Nat} (hk : k < N) (hx : inT (ty k) x) (e1 : μ1 = mset μ r (k : Int) x) (hz : H1.size = H.size) (ho : ∀ q : Nat, ¬ gA E q → H1[q]? = H[q]?)
    (hP : va_P E.1 vwCl ((wsE E μ).set (r - 1).toNat (ad E r, .inr ((kc - 1).toNat, ((List.range N).map (fun i => fv E (ty i) (μ r (i : Int)))).set k (fv E (ty k) x)))) H1) (hS : va_S (gA E) s.heap H1 locs1) : MS E μ1 s H1 locs1 := by
  obtain ⟨p1, p2, p3, p4⟩ := hM.at K hck
  subst e1
  have ek : mset μ r (k : Int) x r (-2) = kc := by rw [ms_k _ _ _ _ (by omega)]; exact hck
  have hc : mset μ r (k : Int) x 0 0 = μ 0 0 := ms_r _ _ _ _ (by omega)
  refine hM.put (hM.wf.setF hck K.1 K.2.1 (by rw [K.2.2.2.2.2.2.2]; exact hx)) hc hz ho ?_ hS
  rw [← wsE_set (μ := μ) (μ' := mset μ r (k : Int) x) p1 p2 hc (fun r' hr _ k' => ms_r _ _ _ _ hr), ent_obj ek K.2.1, K.2.2.2.2.2.2.1, K.2.2.2.2.2.2.2, ← set_fields hk]
  exact hP
theorem va_P.lt2 {D : va_G} {cl : List vw_C} {ws : va_W} {H : Heap} (h : va_P D cl ws H) {k : Nat} {q : Nat × va_E} (hk : ws[k]? = some q) : q.1 < H.size := (h k q hk).lt
theorem m_put (C : gCx p s m args meth c cc nL ret nmm own) {kc : Int} {Cn : String} {T : u_T} {ty : Nat → FieldType} {N : Nat} (K : gKF kc Cn T ty N) (hM : MS E μ s H locs) {r x : Int} {index : Nat} (k : Nat) (hk : k < N) (hl : Cond.fieldLink own index (T k).1 (T k).2.1 (T k).2.2.1 ∈ bigL) (hck : μ r (-2) = kc) (hfin : (T k).2.2.2 = false) (hx : inT (ty k) x) {v : Value} (hv : v = fv E (ty k) x) (hn : narrow (ty k) v = v) (hf : fits (ty k) v = true) (e1 : μ1 = mset μ r (k : Int) x) (hdg : decode cc pc = .ok (.putfield index, 3))
    (kk : ∀ (H1 : Heap) (locs1 : List Loc), MS E μ1 s H1 locs1 → W p l e R s m args below meth c H1 locs1 cells slots Q (F0 m (pc + 3) ls rest)) : W p l e R s m args below meth c H locs cells slots Q (F0 m pc ls (v :: vr E r :: rest)) := by
  obtain ⟨p1, p2, p3, p4⟩ := hM.at K hck
  rw [p3]
  have hap := va_apart (own := own) C.1.2.2.2.2 K.in ty K.2.2.2.2.1 K.2.2.2.2.2.1 hM.K K.2.2.1
  obtain ⟨r0, h1, cell, q1, q2, q3, q4⟩ := hM.P _ _ p4
  have hr : r0 = (Cn, T, N) := Option.some.inj (h1.symm.trans K.2.2.1)
  subst hr
  obtain ⟨hS, hfc, kC, hkC, hkind⟩ := hM.K.1 _ _ K.2.2.1
  obtain ⟨cf, kf, fi, f, hi, hsl⟩ := hS k hk
  have hlay := C.1.2.2.2.2 _ (K.in _ (u_in_lay hk))
  unfold u_lay at hlay
  rw [if_neg (by rw [hfin]; decide)] at hlay
  have hst := (u_facts hfc hkC (u_lays C.1.2.2.2.2 K.in hk) hi).1
  have h6 := u_store hfc hkC hkind hlay hi (K.2.2.2.2.1 k hk) hn hf
  have hlen : k < ((List.range N).map (fun i => fv E (ty i) (μ r (i : Int)))).length := by simp; exact hk
  refine W.putK C.1.1 C.1.2.1 (f := f) ⟨C.1.2.2.2.1, C.w hl, ⟨_, _, _, hi⟩, hst⟩ (by rw [q2]; exact h6) q1 q3 (by rw [hsl]; exact k2_hasslot (q4 k hk)) rfl rfl hdg fun H' e1' e2 e3 => ?_
  rw [hsl] at e1' ⊢
  have hga : gA E (ad E r) := Nat.le_add_right _ _
  refine kk H' _ (hM.setFld K hck hk hx e1 e2 (fun q hq => e3 q (fun z => hq (by rw [z]; exact hga))) ?_ (hM.2.1.put e2 e3 hga))
  rw [← hv]
  exact hM.P.set (wsE_D E μ) p4 ⟨_, K.2.2.1, t_OB.to (V := updV (vp_V ((List.range N).map (fun i => fv E (ty i) (μ r (i : Int))))) k v) ⟨_, e1', q2, q3, t_set q4 hap hk v⟩ (fun j _ => vp_updV_set hlen v j)⟩ e3
theorem m_putF (C : gCx p s m args meth c cc nL ret "<init>" own) {kc : Int} {Cn : String} {T : u_T} {ty : Nat → FieldType} {N : Nat} (K : gKF kc Cn T ty N) (hM : MS E μ s H locs) {r x : Int} {index : Nat} (k : Nat) (hk : k < N) (hl : Cond.fieldLink own index (T k).1 (T k).2.1 (T k).2.2.1 ∈ bigL) (hck : μ r (-2) = kc) (hfin : (T k).2.2.2 = true) (hdecl : (T k).1 = own) (hx : inT (ty k) x) {v : Value} (hv : v = fv E (ty k) x) (hn : narrow (ty k) v = v) (hf : fits (ty k) v = true) (e1 : μ1 = mset μ r (k : Int) x) (hdg : decode cc pc = .ok (.putfield index, 3))
    (kk : ∀ (H1 : Heap) (locs1 : List Loc), MS E μ1 s H1 locs1 → W p l e R s m args below meth c H1 locs1 cells slots Q (F0 m (pc + 3) ls rest)) : W p l e R s m args below meth c H locs cells slots Q (F0 m pc ls (v :: vr E r :: rest)) := by
  obtain ⟨p1, p2, p3, p4⟩ := hM.at K hck
  rw [p3]
  have hap := va_apart (own := own) C.1.2.2.2.2 K.in ty K.2.2.2.2.1 K.2.2.2.2.2.1 hM.K K.2.2.1
  obtain ⟨r0, h1, cell, q1, q2, q3, q4⟩ := hM.P _ _ p4
  have hr : r0 = (Cn, T, N) := Option.some.inj (h1.symm.trans K.2.2.1)
  subst hr
  obtain ⟨hS, hfc, kC, hkC, hkind⟩ := hM.K.1 _ _ K.2.2.1
  obtain ⟨cf, kf, fi, f, hi, hsl⟩ := hS k hk
  have hlay := C.1.2.2.2.2 _ (K.in _ (u_in_lay hk))
  unfold u_lay at hlay
  rw [if_pos hfin] at hlay
  have hst := (u_facts hfc hkC (u_lays C.1.2.2.2.2 K.in hk) hi).1
  have hcf : m.cls = cf := by
    obtain ⟨_, _, c', _, _, _, -, -, hf', -, -, -, hown2, -⟩ := Cond.laysFinal_spec hlay
    have e1 : c' = cf := by have := hi.symm.trans hf'; simp at this; exact this.1.symm
    rw [hdecl] at hown2
    rw [← e1]; exact Option.some.inj (C.1.2.2.2.1.symm.trans hown2)
  have h6 := u_fits hfc hkC hkind (Or.inr hlay) hi (K.2.2.2.2.1 k hk) hn hf
  have hlen : k < ((List.range N).map (fun i => fv E (ty i) (μ r (i : Int)))).length := by simp; exact hk
  refine W.putFinK C.1.1 C.1.2.1 C.1.2.2.2.1 (C.w hl) hi hst hcf C.2.2.2 (by rw [q2]; exact h6) q1 q3 (by rw [hsl]; exact k2_hasslot (q4 k hk)) rfl rfl hdg fun H' e1' e2 e3 => ?_
  rw [hsl] at e1' ⊢
  have hga : gA E (ad E r) := Nat.le_add_right _ _
  refine kk H' _ (hM.setFld K hck hk hx e1 e2 (fun q hq => e3 q (fun z => hq (by rw [z]; exact hga))) ?_ (hM.2.1.put e2 e3 hga))
  rw [← hv]
  exact hM.P.set (wsE_D E μ) p4 ⟨_, K.2.2.1, t_OB.to (V := updV (vp_V ((List.range N).map (fun i => fv E (ty i) (μ r (i : Int))))) k v) ⟨_, e1', q2, q3, t_set q4 hap hk v⟩ (fun j _ => vp_updV_set hlen v j)⟩ e3
/-! arrays -/
theorem tysE_K (i : Nat) (hM : MS E μ s H locs) {cA : ClassId} {ty : FieldType} (h : (tysE E)[i]? = some (cA, ty)) : (tysE E)[i]? = some (cA, ty) := h
theorem MS.arr (hM : MS E μ s H locs) {kc r : Int} (hck : μ r (-2) = kc) (h1 : 21 ≤ kc) (h2 : kc ≤ 29) (hp : kc ≠ 21 ∨ 0 ≤ r) : 1 ≤ r ∧ r ≤ μ 0 0 ∧ vr E r = .ref (ad E r) ∧ (wsE E μ)[(r - 1).toNat]? = some (ad E r, ent E μ r) ∧ 0 ≤ μ r (-1) ∧ μ r (-1) ≤ 2147483647 ∧ ∀ i : Int, 0 ≤ i → i < μ r (-1) → inT (eTy kc) (μ r i) := by
  obtain ⟨p1, p2, p3, p4, p5⟩ := hM.wf.arr hck h1 h2 hp
  exact ⟨p1, p2, vr_pos p1, wsE_get p1 p2, p3, p4, p5⟩
theorem ix_in {i n : Int} (h0 : 0 ≤ i) (h1 : i < n) (hn : n ≤ 2147483647) : R32 i := ⟨by omega, by omega⟩
theorem m_iald (C : gCx p s m args meth c cc nL ret nmm own) (hM : MS E μ s H locs) {a i : Int} (hck : μ a (-2) = 23) (h0 : 0 ≤ i) (h1 : i < μ a (-1)) (hdg : decode cc pc = .ok (.iaload, 1)) (kk : W p l e R s m args below meth c H locs cells slots Q (F0 m (pc + 1) ls (vi (μ a i) :: rest))) : W p l e R s m args below meth c H locs cells slots Q (F0 m pc ls (vi i :: vr E a :: rest)) := by
  obtain ⟨p1, p2, p3, p4, p5, p6, -⟩ := hM.arr hck (by omega) (by omega) (Or.inl (by omega))
  rw [ent_int hck (by omega) (Or.inl (by omega))] at p4
  rw [p3]
  have ri := ix_in h0 h1 p6
  refine va_iald (D := E.1) (cl := vwCl) C.1.1 C.1.2.1 hM.K hM.P _ 2 p4 rfl (i_in ri h0 (by omega)) hdg ?_
  rw [i_clamp ri h0, show ((i.toNat : Nat) : Int) = i by omega]
  exact kk
theorem m_cald (C : gCx p s m args meth c cc nL ret nmm own) (hM : MS E μ s H locs) {a i : Int} (hck : μ a (-2) = 22) (h0 : 0 ≤ i) (h1 : i < μ a (-1)) (hdg : decode cc pc = .ok (.caload, 1)) (kk : W p l e R s m args below meth c H locs cells slots Q (F0 m (pc + 1) ls (vi (μ a i) :: rest))) : W p l e R s m args below meth c H locs cells slots Q (F0 m pc ls (vi i :: vr E a :: rest)) := by
  obtain ⟨p1, p2, p3, p4, p5, p6, -⟩ := hM.arr hck (by omega) (by omega) (Or.inl (by omega))
  rw [ent_int hck (by omega) (Or.inl (by omega))] at p4
  rw [p3]
  have ri := ix_in h0 h1 p6
  refine va_cald (D := E.1) (cl := vwCl) C.1.1 C.1.2.1 hM.K hM.P _ 1 p4 rfl (i_in ri h0 (by omega)) hdg ?_
  rw [i_clamp ri h0, show ((i.toNat : Nat) : Int) = i by omega]
  exact kk
theorem m_zald (C : gCx p s m args meth c cc nL ret nmm own) (hM : MS E μ s H locs) {a i : Int} (hck : μ a (-2) = 25) (h0 : 0 ≤ i) (h1 : i < μ a (-1)) (hdg : decode cc pc = .ok (.baload, 1)) (kk : W p l e R s m args below meth c H locs cells slots Q (F0 m (pc + 1) ls (vi (μ a i) :: rest))) : W p l e R s m args below meth c H locs cells slots Q (F0 m pc ls (vi i :: vr E a :: rest)) := by
  obtain ⟨p1, p2, p3, p4, p5, p6, -⟩ := hM.arr hck (by omega) (by omega) (Or.inl (by omega))
  rw [ent_int hck (by omega) (Or.inr rfl)] at p4
  rw [p3]
  have ri := ix_in h0 h1 p6
  refine va_zald (D := E.1) (cl := vwCl) C.1.1 C.1.2.1 hM.K hM.P _ 4 p4 rfl (i_in ri h0 (by omega)) hdg ?_
  rw [i_clamp ri h0, show ((i.toNat : Nat) : Int) = i by omega]
  exact kk
theorem m_aald (C : gCx p s m args meth c cc nL ret nmm own) (hM : MS E μ s H locs) {a i kc : Int} (hck : μ a (-2) = kc) (k1 : 26 ≤ kc) (k2 : kc ≤ 29) (h0 : 0 ≤ i) (h1 : i < μ a (-1)) (hdg : decode cc pc = .ok (.aaload, 1)) (kk : W p l e R s m args below meth c H locs cells slots Q (F0 m (pc + 1) ls (vr E (μ a i) :: rest))) : W p l e R s m args below meth c H locs cells slots Q (F0 m pc ls (vi i :: vr E a :: rest)) := by
  obtain ⟨p1, p2, p3, p4, p5, p6, -⟩ := hM.arr hck (by omega) (by omega) (Or.inl (by omega))
  rw [ent_ref hck k1] at p4
  rw [p3]
  have ri := ix_in h0 h1 p6
  have e2 : (Int32.ofInt i).toNatClampNeg = i.toNat := i_clamp ri h0
  have hin : vp_in (Int32.ofInt i) (μ a (-1)).toNat := i_in ri h0 (by omega)
  have kk2 : W p l e R s m args below meth c H locs cells slots Q (F0 m (pc + 1) ls (va_rf ((fun i : Nat => adO E (μ a (i : Int))) (Int32.ofInt i).toNatClampNeg) :: rest)) := by
    rw [e2]
    dsimp only
    rw [show ((i.toNat : Nat) : Int) = i by omega]
    exact kk
  rcases (show kc = 26 ∨ kc = 27 ∨ kc = 28 ∨ kc = 29 by omega) with rfl | rfl | rfl | rfl
  · exact va_aldq (D := E.1) (cl := vwCl) C.1.1 C.1.2.1 hM.K hM.P _ 5 p4 rfl hin hdg kk2
  · exact va_aldq (D := E.1) (cl := vwCl) C.1.1 C.1.2.1 hM.K hM.P _ 6 p4 rfl hin hdg kk2
  · exact va_aldq (D := E.1) (cl := vwCl) C.1.1 C.1.2.1 hM.K hM.P _ 7 p4 rfl hin hdg kk2
  · exact va_aldq (D := E.1) (cl := vwCl) C.1.1 C.1.2.1 hM.K hM.P _ 8 p4 rfl hin hdg kk2
theorem m_alen (C : gCx p s m args meth c cc nL ret nmm own) (hM : MS E μ s H locs) {a kc : Int} (hck : μ a (-2) = kc) (k1 : 21 ≤ kc) (k2 : kc ≤ 29) (hp : kc ≠ 21 ∨ 0 ≤ a) (hdg : decode cc pc = .ok (.arraylength, 1)) (kk : W p l e R s m args below meth c H locs cells slots Q (F0 m (pc + 1) ls (vi (μ a (-1)) :: rest))) : W p l e R s m args below meth c H locs cells slots Q (F0 m pc ls (vr E a :: rest)) := by
  obtain ⟨p1, p2, p3, p4, p5, p6, -⟩ := hM.arr hck k1 k2 hp
  rw [p3]
  have e2 : Int32.ofNat (μ a (-1)).toNat = Int32.ofInt (μ a (-1)) := by
    rw [← Int32.ofInt_eq_ofNat, show (((μ a (-1)).toNat : Nat) : Int) = μ a (-1) by omega]
  rcases (show kc = 21 ∨ kc = 22 ∨ kc = 23 ∨ kc = 24 ∨ kc = 25 ∨ kc = 26 ∨ kc = 27 ∨ kc = 28 ∨ kc = 29 by omega) with rfl | rfl | rfl | rfl | rfl | rfl | rfl | rfl | rfl
  · rw [ent_int hck (by omega) (Or.inl (by omega))] at p4
    exact va_alen (D := E.1) (cl := vwCl) C.1.1 C.1.2.1 hM.K hM.P _ 0 p4 rfl e2 hdg kk
  · rw [ent_int hck (by omega) (Or.inl (by omega))] at p4
    exact va_alen (D := E.1) (cl := vwCl) C.1.1 C.1.2.1 hM.K hM.P _ 1 p4 rfl e2 hdg kk
  · rw [ent_int hck (by omega) (Or.inl (by omega))] at p4
    exact va_alen (D := E.1) (cl := vwCl) C.1.1 C.1.2.1 hM.K hM.P _ 2 p4 rfl e2 hdg kk
  · rw [ent_long hck] at p4
    exact va_alen (D := E.1) (cl := vwCl) C.1.1 C.1.2.1 hM.K hM.P _ 3 p4 rfl e2 hdg kk
  · rw [ent_int hck (by omega) (Or.inr rfl)] at p4
    exact va_alen (D := E.1) (cl := vwCl) C.1.1 C.1.2.1 hM.K hM.P _ 4 p4 rfl e2 hdg kk
  · rw [ent_ref hck (by omega)] at p4
    exact va_alen (D := E.1) (cl := vwCl) C.1.1 C.1.2.1 hM.K hM.P _ 5 p4 rfl e2 hdg kk
  · rw [ent_ref hck (by omega)] at p4
    exact va_alen (D := E.1) (cl := vwCl) C.1.1 C.1.2.1 hM.K hM.P _ 6 p4 rfl e2 hdg kk
  · rw [ent_ref hck (by omega)] at p4
    exact va_alen (D := E.1) (cl := vwCl) C.1.1 C.1.2.1 hM.K hM.P _ 7 p4 rfl e2 hdg kk
  · rw [ent_ref hck (by omega)] at p4
    exact va_alen (D := E.1) (cl := vwCl) C.1.1 C.1.2.1 hM.K hM.P _ 8 p4 rfl e2 hdg kk
end HEAPROWS
