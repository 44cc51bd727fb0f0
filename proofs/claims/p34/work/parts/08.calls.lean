/-! STORES INTO ARRAYS, WHAT IS MADE, STATICS, CALLS, RETURNS -/
def mnew (μ : Mm) (kc n sl : Int) : Mm := fun r k => if r = 0 then (if k = 0 then μ 0 0 + 1 else if k = 1 then μ 0 1 + sl else μ 0 k) else if r = μ 0 0 + 1 then (if k = -2 then kc else if k = -1 then n else 0) else μ r k
theorem mnew_c (μ : Mm) (kc n sl : Int) : mnew μ kc n sl 0 0 = μ 0 0 + 1 := rfl
theorem mnew_s (μ : Mm) (kc n sl : Int) : mnew μ kc n sl 0 1 = μ 0 1 + sl := rfl
theorem mnew_o (μ : Mm) (kc n sl : Int) {r : Int} (k : Int) (h0 : r ≠ 0) (h1 : r ≠ μ 0 0 + 1) : mnew μ kc n sl r k = μ r k := by unfold mnew; rw [if_neg h0, if_neg h1]
theorem mnew_n (μ : Mm) (kc n sl k : Int) (h : 0 ≤ μ 0 0) : mnew μ kc n sl (μ 0 0 + 1) k = if k = -2 then kc else if k = -1 then n else 0 := by unfold mnew; rw [if_neg (by omega), if_pos rfl]
theorem inT_0 (ty : FieldType) : inT ty 0 := by
  cases ty <;> simp [inT, R32, R64]
theorem WFm.new {μ : Mm} (h : WFm μ) {kc n sl : Int} (hk : (1 ≤ kc ∧ kc ≤ 10) ∨ (21 ≤ kc ∧ kc ≤ 29 ∧ 0 ≤ n ∧ n ≤ 2147483647)) : WFm (mnew μ kc n sl) := by
  obtain ⟨a, b, c, d, e⟩ := h
  refine ⟨by rw [mnew_c]; omega, b, fun r q => ?_, fun r k q => ?_, fun r q1 q2 => ?_⟩
  · rw [mnew_c] at q
    rw [mnew_o _ _ _ _ _ (by omega) (by omega)]
    exact c r (by omega)
  · rw [mnew_o _ _ _ _ _ (by omega) (by omega)]
    exact d r k q
  · rw [mnew_c] at q2
    by_cases hr : r = μ 0 0 + 1
    · subst hr
      have k2 : mnew μ kc n sl (μ 0 0 + 1) (-2) = kc := by rw [mnew_n _ _ _ _ _ a]; rfl
      have k1 : mnew μ kc n sl (μ 0 0 + 1) (-1) = n := by rw [mnew_n _ _ _ _ _ a]; rfl
      have kj : ∀ i : Int, 0 ≤ i → mnew μ kc n sl (μ 0 0 + 1) i = 0 := fun i hi => by rw [mnew_n _ _ _ _ _ a, if_neg (by omega), if_neg (by omega)]
      rw [k2, k1]
      rcases hk with ⟨g1, g2⟩ | ⟨g1, g2, g3, g4⟩
      · refine Or.inl ⟨g1, g2, fun i _ => ?_⟩
        rw [kj _ (by omega)]
        exact inT_0 _
      · refine Or.inr ⟨g1, g2, g3, g4, fun i i0 _ => ?_⟩
        rw [kj _ i0]
        exact inT_0 _
    · simp only [mnew_o μ kc n sl _ (show r ≠ 0 by omega) hr]
      exact e r q1 (by omega)
section CALLROWS
variable {p : Program} {l : Launch} {e : Env} {R : Room} {s : State} {m : MethodId} {args : Array Value} {below : List Frame} {meth : Method} {c : Code} {H : Heap} {locs : List Loc} {cells slots : Nat} {Q : State → Prop} {cc : ByteArray} {pc nL : Nat} {ls : Array Slot} {rest : List Value} {ret : Option FieldType} {nmm own : String} {E : gE} {μ μ1 : Mm}
theorem MS.setA {H1 : Heap} {locs1 : List Loc} (hM : MS E μ s H locs) {a kc i x : Int} (hck : μ a (-2) = kc) (k1 : 21 ≤ kc) (k2 : kc ≤ 29) (hp : kc ≠ 21 ∨ 0 ≤ a) (h0 : 0 ≤ i) (hx : inT (eTy kc) x) (e1 : μ1 = mset μ a i x) (hcell : va_at E.1 vwCl (ad E a, ent E μ1 a) H1) (hz : H1.size = H.size) (ho : ∀ q : Nat, q ≠ ad E a → H1[q]? = H[q]?) (hS : va_S (gA E) s.heap H1 locs1) : MS E μ1 s H1 locs1 := by
  obtain ⟨p1, p2, p3, p4, -⟩ := hM.arr hck k1 k2 hp
  subst e1
  have hc : mset μ a i x 0 0 = μ 0 0 := ms_r _ _ _ _ (by omega)
  have hga : gA E (ad E a) := Nat.le_add_right _ _
  refine hM.put (hM.wf.setA hck k1 k2 hp h0 hx) hc hz (fun q hq => ho q (fun z => hq (by rw [z]; exact hga))) ?_ hS
  rw [← wsE_set (μ := μ) (μ' := mset μ a i x) p1 p2 hc (fun r' hr _ k' => ms_r _ _ _ _ hr)]
  exact hM.P.set (wsE_D E μ) p4 hcell ho
theorem up_i {cA : ClassId} {n : Nat} {a i x : Int} (h0 : 0 ≤ i) : (vp_cell cA (n, .inl (fun j : Nat => Int32.ofInt (μ a (j : Int))))).setSlot i.toNat (.int (Int32.ofInt x)) = vp_cell cA (n, .inl (fun j : Nat => Int32.ofInt (mset μ a i x a (j : Int)))) := by
  rw [vp_cell_i, vp_cell_i, arrV_store]
  congr 1
  funext q
  by_cases hq : q = i.toNat
  · subst hq
    rw [show ((i.toNat : Nat) : Int) = i by omega, ms_eq]
    simp [updV]
  · rw [ms_k _ _ _ _ (by omega)]
    simp [updV, hq]
theorem up_l {cA : ClassId} {n : Nat} {a i x : Int} (h0 : 0 ≤ i) : (vp_cell cA (n, .inr (.inl (fun j : Nat => Int64.ofInt (μ a (j : Int)))))).setSlot i.toNat (.long (Int64.ofInt x)) = vp_cell cA (n, .inr (.inl (fun j : Nat => Int64.ofInt (mset μ a i x a (j : Int))))) := by
  rw [vp_cell_l, vp_cell_l, arrV_store]
  congr 1
  funext q
  by_cases hq : q = i.toNat
  · subst hq
    rw [show ((i.toNat : Nat) : Int) = i by omega, ms_eq]
    simp [updV]
  · rw [ms_k _ _ _ _ (by omega)]
    simp [updV, hq]
theorem up_q {cA : ClassId} {n : Nat} {a i x : Int} (h0 : 0 ≤ i) : (vp_cell cA (n, .inr (.inr (.inr (.inr (fun j : Nat => adO E (μ a (j : Int)))))))).setSlot i.toNat (vr E x) = vp_cell cA (n, .inr (.inr (.inr (.inr (fun j : Nat => adO E (mset μ a i x a (j : Int))))))) := by
  rw [vp_cell_q, vp_cell_q, arrV_store]
  congr 1
  funext q
  by_cases hq : q = i.toNat
  · subst hq
    rw [show ((i.toNat : Nat) : Int) = i by omega, ms_eq]
    simp [updV, vr]
  · rw [ms_k _ _ _ _ (by omega)]
    simp [updV, hq]
theorem nar_c {x : Int} (h0 : 0 ≤ x) (h1 : x ≤ 65535) : narrow .char (.int (Int32.ofInt x)) = .int (Int32.ofInt x) := by
  have e1 : Int32.ofInt x = nI x.toNat := by
    rw [show x = ((x.toNat : Nat) : Int) by omega, Int32.ofInt_eq_ofNat]
    rfl
  rw [e1]
  exact (pk_charN (q := x.toNat) (by omega)).1
theorem nar_b {x : Int} (h0 : -128 ≤ x) (h1 : x ≤ 127) : narrow .byte (.int (Int32.ofInt x)) = .int (Int32.ofInt x) := by
  have e1 : (Int32.ofInt x).toInt8.toInt32 = Int32.ofInt x := by
    rw [← Int32.toInt_inj, Int8.toInt_toInt32, Int32.toInt_toInt8, toI ⟨by omega, by omega⟩]
    exact Int.bmod_eq_of_le (by omega) (by omega)
  show Value.int _ = Value.int _
  rw [e1]
theorem nar_z {x : Int} (h0 : 0 ≤ x) (h1 : x ≤ 1) : narrow .boolean (.int (Int32.ofInt x)) = .int (Int32.ofInt x) := by
  rcases (show x = 0 ∨ x = 1 by omega) with rfl | rfl <;> rfl
theorem m_iast (C : gCx p s m args meth c cc nL ret nmm own) (hM : MS E μ s H locs) {a i x : Int} (hck : μ a (-2) = 23) (h0 : 0 ≤ i) (h1 : i < μ a (-1)) (rx : R32 x) (e1 : μ1 = mset μ a i x) (hdg : decode cc pc = .ok (.iastore, 1))
    (kk : ∀ (H1 : Heap) (locs1 : List Loc), MS E μ1 s H1 locs1 → W p l e R s m args below meth c H1 locs1 cells slots Q (F0 m (pc + 1) ls rest)) : W p l e R s m args below meth c H locs cells slots Q (F0 m pc ls (vi x :: vi i :: vr E a :: rest)) := by
  obtain ⟨p1, p2, p3, p4, p5, p6, -⟩ := hM.arr hck (by omega) (by omega) (Or.inl (by omega))
  have en := ent_int (E := E) hck (by omega) (Or.inl (by omega))
  rw [en] at p4
  rw [p3]
  have ri := ix_in h0 h1 p6
  have hin : vp_in (Int32.ofInt i) (μ a (-1)).toNat := i_in ri h0 (by omega)
  refine W.iast C.1.1 C.1.2.1 (hM.P _ _ p4) ((hM.K.2 2 _ rfl).1 _ _) (fun q => by cases q) (by show ¬ (_ ∨ (arrV _ _ _).slots.size ≤ _); rw [arrV_size]; exact hin) rfl rfl hdg fun H1 e2 z oq => ?_
  rw [i_clamp ri h0] at e2
  refine kk H1 _ (hM.setA hck (by omega) (by omega) (Or.inl (by omega)) h0 rx e1 ?_ z oq (hM.2.1.put z oq (Nat.le_add_right _ _)))
  subst e1
  have ek : mset μ a i x a (-2) = 23 := by rw [ms_k _ _ _ _ (by omega)]; exact hck
  rw [ent_int ek (by omega) (Or.inl (by omega)), ms_k _ _ _ _ (show (-1 : Int) ≠ i by omega)]
  exact e2.trans (congrArg some (up_i h0))
theorem m_cast (C : gCx p s m args meth c cc nL ret nmm own) (hM : MS E μ s H locs) {a i x : Int} (hck : μ a (-2) = 22) (h0 : 0 ≤ i) (h1 : i < μ a (-1)) (x0 : 0 ≤ x) (x1 : x ≤ 65535) (e1 : μ1 = mset μ a i x) (hdg : decode cc pc = .ok (.castore, 1))
    (kk : ∀ (H1 : Heap) (locs1 : List Loc), MS E μ1 s H1 locs1 → W p l e R s m args below meth c H1 locs1 cells slots Q (F0 m (pc + 1) ls rest)) : W p l e R s m args below meth c H locs cells slots Q (F0 m pc ls (vi x :: vi i :: vr E a :: rest)) := by
  obtain ⟨p1, p2, p3, p4, p5, p6, -⟩ := hM.arr hck (by omega) (by omega) (Or.inl (by omega))
  have en := ent_int (E := E) hck (by omega) (Or.inl (by omega))
  rw [en] at p4
  rw [p3]
  have ri := ix_in h0 h1 p6
  have hin : vp_in (Int32.ofInt i) (μ a (-1)).toNat := i_in ri h0 (by omega)
  refine W.cast C.1.1 C.1.2.1 (hM.P _ _ p4) ((hM.K.2 1 _ rfl).1 _ _) (fun q => by cases q) (by show ¬ (_ ∨ (arrV _ _ _).slots.size ≤ _); rw [arrV_size]; exact hin) rfl rfl hdg fun H1 e2 z oq => ?_
  rw [i_clamp ri h0, nar_c x0 x1] at e2
  refine kk H1 _ (hM.setA hck (by omega) (by omega) (Or.inl (by omega)) h0 ⟨x0, x1⟩ e1 ?_ z oq (hM.2.1.put z oq (Nat.le_add_right _ _)))
  subst e1
  have ek : mset μ a i x a (-2) = 22 := by rw [ms_k _ _ _ _ (by omega)]; exact hck
  rw [ent_int ek (by omega) (Or.inl (by omega)), ms_k _ _ _ _ (show (-1 : Int) ≠ i by omega)]
  exact e2.trans (congrArg some (up_i h0))
theorem m_zast (C : gCx p s m args meth c cc nL ret nmm own) (hM : MS E μ s H locs) {a i x : Int} (hck : μ a (-2) = 25) (h0 : 0 ≤ i) (h1 : i < μ a (-1)) (x0 : 0 ≤ x) (x1 : x ≤ 1) (e1 : μ1 = mset μ a i x) (hdg : decode cc pc = .ok (.bastore, 1))
    (kk : ∀ (H1 : Heap) (locs1 : List Loc), MS E μ1 s H1 locs1 → W p l e R s m args below meth c H1 locs1 cells slots Q (F0 m (pc + 1) ls rest)) : W p l e R s m args below meth c H locs cells slots Q (F0 m pc ls (vi x :: vi i :: vr E a :: rest)) := by
  obtain ⟨p1, p2, p3, p4, p5, p6, -⟩ := hM.arr hck (by omega) (by omega) (Or.inl (by omega))
  have en := ent_int (E := E) hck (by omega) (Or.inr rfl)
  rw [en] at p4
  rw [p3]
  have ri := ix_in h0 h1 p6
  have hin : vp_in (Int32.ofInt i) (μ a (-1)).toNat := i_in ri h0 (by omega)
  refine W.zast C.1.1 C.1.2.1 (hM.P _ _ p4) ((hM.K.2 4 _ rfl).1 _ _) (fun q => by cases q) (by show ¬ (_ ∨ (arrV _ _ _).slots.size ≤ _); rw [arrV_size]; exact hin) rfl rfl hdg fun H1 e2 z oq => ?_
  rw [i_clamp ri h0, nar_z x0 x1] at e2
  refine kk H1 _ (hM.setA hck (by omega) (by omega) (Or.inl (by omega)) h0 ⟨x0, x1⟩ e1 ?_ z oq (hM.2.1.put z oq (Nat.le_add_right _ _)))
  subst e1
  have ek : mset μ a i x a (-2) = 25 := by rw [ms_k _ _ _ _ (by omega)]; exact hck
  rw [ent_int ek (by omega) (Or.inr rfl), ms_k _ _ _ _ (show (-1 : Int) ≠ i by omega)]
  exact e2.trans (congrArg some (up_i h0))
theorem m_bast (C : gCx p s m args meth c cc nL ret nmm own) (hM : MS E μ s H locs) {a i x : Int} (hck : μ a (-2) = 21) (hp : 0 ≤ a) (h0 : 0 ≤ i) (h1 : i < μ a (-1)) (x0 : -128 ≤ x) (x1 : x ≤ 127) (e1 : μ1 = mset μ a i x) (hdg : decode cc pc = .ok (.bastore, 1))
    (kk : ∀ (H1 : Heap) (locs1 : List Loc), MS E μ1 s H1 locs1 → W p l e R s m args below meth c H1 locs1 cells slots Q (F0 m (pc + 1) ls rest)) : W p l e R s m args below meth c H locs cells slots Q (F0 m pc ls (vi x :: vi i :: vr E a :: rest)) := by
  obtain ⟨p1, p2, p3, p4, p5, p6, -⟩ := hM.arr hck (by omega) (by omega) (Or.inr hp)
  have en := ent_int (E := E) hck (by omega) (Or.inl (by omega))
  rw [en] at p4
  rw [p3]
  have ri := ix_in h0 h1 p6
  have hin : vp_in (Int32.ofInt i) (μ a (-1)).toNat := i_in ri h0 (by omega)
  refine W.bast C.1.1 C.1.2.1 (hM.P _ _ p4) ((hM.K.2 0 _ rfl).1 _ _) (fun q => by cases q) (by show ¬ (_ ∨ (arrV _ _ _).slots.size ≤ _); rw [arrV_size]; exact hin) rfl rfl hdg fun H1 e2 z oq => ?_
  rw [i_clamp ri h0, nar_b x0 x1] at e2
  refine kk H1 _ (hM.setA hck (by omega) (by omega) (Or.inr hp) h0 ⟨x0, x1⟩ e1 ?_ z oq (hM.2.1.put z oq (Nat.le_add_right _ _)))
  subst e1
  have ek : mset μ a i x a (-2) = 21 := by rw [ms_k _ _ _ _ (by omega)]; exact hck
  rw [ent_int ek (by omega) (Or.inl (by omega)), ms_k _ _ _ _ (show (-1 : Int) ≠ i by omega)]
  exact e2.trans (congrArg some (up_i h0))
theorem m_aast (C : gCx p s m args meth c cc nL ret nmm own) (hM : MS E μ s H locs) {a i x kc ko : Int} {Cn : String} {T : u_T} {ty : Nat → FieldType} {N t0 : Nat} (K : gKF ko Cn T ty N) (hck : μ a (-2) = kc) (k1 : 26 ≤ kc) (k2 : kc ≤ 29) (ht : (tysE E)[t0]? = some (E.2.1 (kc - 21).toNat, .object Cn)) (h0 : 0 ≤ i) (h1 : i < μ a (-1)) (hx : μ x (-2) = ko) (e1 : μ1 = mset μ a i x) (hdg : decode cc pc = .ok (.aastore, 1))
    (kk : ∀ (H1 : Heap) (locs1 : List Loc), MS E μ1 s H1 locs1 → W p l e R s m args below meth c H1 locs1 cells slots Q (F0 m (pc + 1) ls rest)) : W p l e R s m args below meth c H locs cells slots Q (F0 m pc ls (vr E x :: vi i :: vr E a :: rest)) := by
  obtain ⟨p1, p2, p3, p4, p5, p6, -⟩ := hM.arr hck (by omega) (by omega) (Or.inl (by omega))
  obtain ⟨o1, o2, o3, o4⟩ := hM.at K hx
  have en := ent_ref (E := E) hck k1
  rw [en] at p4
  have ri := ix_in h0 h1 p6
  have hin : vp_in (Int32.ofInt i) (μ a (-1)).toNat := i_in ri h0 (by omega)
  rw [p3, o3]
  obtain ⟨r', hr', cellV, g1, g2, g3, -⟩ := hM.P _ _ o4
  have hcls := (hM.K.1 _ _ K.2.2.1).2
  obtain ⟨kA, comp, c1, c2, c3, -⟩ := (hM.K.2 t0 _ ht).2
  have hcomp : comp = E.1.1 (ko - 1).toNat := Option.some.inj (c3.symm.trans hcls.1)
  subst hcomp
  obtain ⟨kC, hkC, -⟩ := hcls.2
  refine W.aast C.1.1 C.1.2.1 (hM.P _ _ p4) (fun q h => by cases h) (fun h => by cases h) c1 c2 rfl hkC ⟨fun q => hin (Or.inl q), by show _ < (arrV _ _ _).slots.size; rw [arrV_size]; exact Nat.not_le.mp fun q => hin (Or.inr q)⟩ g1 (fun q h => by rw [g3] at h; cases h) (by rw [g2]; exact hkC) (by rw [g2]; exact va_assign hcls) rfl rfl hdg fun H1 e2 z oq => ?_
  rw [i_clamp ri h0, ← o3] at e2
  refine kk H1 _ (hM.setA hck (by omega) (by omega) (Or.inl (by omega)) h0 (by rcases (show kc = 26 ∨ kc = 27 ∨ kc = 28 ∨ kc = 29 by omega) with rfl | rfl | rfl | rfl <;> trivial) e1 ?_ z oq (hM.2.1.put z oq (Nat.le_add_right _ _)))
  subst e1
  have ek : mset μ a i x a (-2) = kc := by rw [ms_k _ _ _ _ (by omega)]; exact hck
  rw [ent_ref ek k1, ms_k _ _ _ _ (show (-1 : Int) ≠ i by omega)]
  exact e2.trans (congrArg some (up_q h0))
/-! what is made -/
theorem MS.add {H1 : Heap} {kc n sl : Int} (hM : MS E μ s H locs) (hk : (1 ≤ kc ∧ kc ≤ 10) ∨ (21 ≤ kc ∧ kc ≤ 29 ∧ 0 ≤ n ∧ n ≤ 2147483647)) (e1 : μ1 = mnew μ kc n sl) (hcell : va_at E.1 vwCl (H.size, ent E μ1 (μ 0 0 + 1)) H1) (hz : H1.size = H.size + 1) (ho : ∀ q : Nat, q < H.size → H1[q]? = H[q]?) : MS E μ1 s H1 locs := by
  have hw := hM.wf
  have h0 := hw.1
  have hs := hM.1.2.2.2.1
  subst e1
  have hc := mnew_c μ kc n sl
  refine ⟨⟨hM.1.1, hM.1.2.1.kept (fun q h _ => ho q h), hw.new hk, by rw [hz, hc, hs]; omega, ?_⟩, ⟨Nat.le_trans hM.2.1.1 (by omega), fun q h1 h2 => (ho q (Nat.lt_of_lt_of_le h1 hM.2.1.1)).trans (hM.2.1.2.1 q h1 h2), hM.2.1.2.2⟩, hM.2.2⟩
  rw [← wsE_push (μ := μ) (μ' := mnew μ kc n sl) h0 hc (fun r' q1 q2 k => mnew_o _ _ _ _ _ (by omega) (by omega))]
  refine (hM.P.kept (fun k q hk => ho q.1 (hM.P k q hk).lt)).app (fun k q hk => ?_)
  have hz : k < 1 := (List.getElem?_eq_some_iff.mp hk).1
  rw [show k = 0 by omega] at hk
  cases hk
  rw [← hs]
  exact hcell
theorem vr_new (hM : MS E μ s H locs) : vr E (μ 0 0 + 1) = .ref H.size := by
  have h0 := hM.wf.1
  rw [vr_pos (by omega), hM.1.2.2.2.1]
  unfold ad
  rw [show μ 0 0 + 1 - 1 = μ 0 0 by omega]
theorem fv_0 (E : gE) : ∀ ty : FieldType, ty ≠ .float → ty ≠ .double → defaultValue ty = fv E ty 0
  | .byte, _, _ => rfl
  | .char, _, _ => rfl
  | .int, _, _ => rfl
  | .long, _, _ => rfl
  | .short, _, _ => rfl
  | .boolean, _, _ => rfl
  | .object _, _, _ => rfl
  | .array _, _, _ => rfl
  | .float, h, _ => absurd rfl h
  | .double, _, h => absurd rfl h
theorem m_new (C : gCx p s m args meth c cc nL ret nmm own) {kc : Int} {Cn : String} {T : u_T} {ty : Nat → FieldType} {N : Nat} (K : gKF kc Cn T ty N) (hM : MS E μ s H locs) {index : Nat} (hl : Cond.classLink own index Cn ∈ bigL) (hi : Cond.instantiable Cn N ∈ bigL) (hini : Cond.initialized Cn ∈ bigL) (hfl : ∀ k, k < N → ty k ≠ .float ∧ ty k ≠ .double) (hc : cells + 1 ≤ R.cells) (hs : slots + N ≤ R.slots) (e1 : μ1 = mnew μ kc 0 N) (hdg : decode cc pc = .ok (.new index, 3))
    (kk : ∀ (H1 : Heap), MS E μ1 s H1 locs → W p l e R s m args below meth c H1 locs (cells + 1) (slots + N) Q (F0 m (pc + 3) ls (vr E (μ 0 0 + 1) :: rest))) : W p l e R s m args below meth c H locs cells slots Q (F0 m pc ls rest) := by
  have hKn := hM.K.1 _ _ K.2.2.1
  refine W.newcK C.1.1 C.1.2.1 C.1.2.2.2.1 (C.w hl) (C.w hi) (C.w hini) rfl hdg hc hs hKn.2.1 rfl fun H1 kC hkC e2 z1 o1 => ?_
  have ev := vr_new hM
  rw [ev] at kk
  refine kk H1 (hM.add (Or.inl ⟨K.1, K.2.1⟩) e1 ?_ z1 o1)
  subst e1
  have h0 := hM.wf.1
  have ek : mnew μ kc 0 N (μ 0 0 + 1) (-2) = kc := by rw [mnew_n _ _ _ _ _ h0]; rfl
  rw [ent_obj ek K.2.1, K.2.2.2.2.2.2.1, K.2.2.2.2.2.2.2]
  refine ⟨_, K.2.2.1, (u_born ty C.1.2.2.2.2 K.in hKn hkC e2 K.2.2.2.2.1).to (fun j hj => ?_)⟩
  rw [fv_0 E _ (hfl j hj).1 (hfl j hj).2]
  unfold vp_V
  rw [List.getD_eq_getElem?_getD, List.getElem?_map, List.getElem?_range hj]
  show _ = fv E (ty j) (mnew μ kc 0 N (μ 0 0 + 1) (j : Int))
  rw [mnew_n _ _ _ _ _ h0, if_neg (by omega), if_neg (by omega)]
def nA (ty : ArrayType) : Int := match newarray.typeOf ty with
  | .byte => 21 | .char => 22 | .int => 23 | .long => 24 | .boolean => 25 | _ => 0
theorem m_newa (C : gCx p s m args meth c cc nL ret nmm own) (hM : MS E μ s H locs) {atype : ArrayType} {kc : Int} {t0 : Nat} {n : Int} (hkc : kc = nA atype) (h21 : 21 ≤ kc) (ht : (tysE E)[t0]? = some (E.2.1 (kc - 21).toNat, newarray.typeOf atype)) (hnr : ∀ C, newarray.typeOf atype ≠ .object C) (hw : Cond.arrayClass (newarray.typeOf atype) ∈ bigL) (rn : R32 n) (h0 : 0 ≤ n) (hb : n.toNat * componentBytes (newarray.typeOf atype) ≤ 536870912) (hc : cells + 1 ≤ R.cells) (hs : slots + n.toNat ≤ R.slots) (e1 : μ1 = mnew μ kc n n) (hdg : decode cc pc = .ok (.newarray atype, 2))
    (kk : ∀ (H1 : Heap), MS E μ1 s H1 locs → W p l e R s m args below meth c H1 locs (cells + 1) (slots + n.toNat) Q (F0 m (pc + 2) ls (vr E (μ 0 0 + 1) :: rest))) : W p l e R s m args below meth c H locs cells slots Q (F0 m pc ls (vi n :: rest)) := by
  have hn0 : ¬ Int32.ofInt n < 0 := fun q => by
    have := (i_lt rn R32_0).mp q
    omega
  refine va_newaK (atype := atype) C.1.1 C.1.2.1 (C.w hw) rfl hdg rfl hn0 (i_clamp rn h0) hb hc hs rfl fun H1 cA e2 z1 o1 hA hf => ?_
  have ev := vr_new hM
  rw [ev] at kk
  have hcA : cA = E.2.1 (kc - 21).toNat := by
    have h2 := (hM.K.2 t0 _ ht).2
    have h3 : s.vm.findClass ("[" ++ (newarray.typeOf atype).toString) = some (E.2.1 (kc - 21).toNat) := by
      unfold va_RA at h2
      cases htt : newarray.typeOf atype with
      | object C => exact absurd htt (hnr C)
      | _ => rw [htt] at h2; exact h2
    exact Option.some.inj (hf.symm.trans h3)
  subst hcA
  refine kk H1 (hM.add (Or.inr ⟨h21, ?_, h0, rn.2⟩) e1 ?_ z1 o1)
  · rw [hkc]; unfold nA; split <;> omega
  · subst e1
    have p0 := hM.wf.1
    have ek : mnew μ kc n n (μ 0 0 + 1) (-2) = kc := by rw [mnew_n _ _ _ _ _ p0]; rfl
    have el : mnew μ kc n n (μ 0 0 + 1) (-1) = n := by rw [mnew_n _ _ _ _ _ p0]; rfl
    have ej : ∀ j : Nat, mnew μ kc n n (μ 0 0 + 1) (j : Int) = 0 := fun j => by rw [mnew_n _ _ _ _ _ p0, if_neg (by omega), if_neg (by omega)]
    by_cases h24 : kc = 24
    · rw [ent_long (ek.trans h24)]
      simp only [el, ej]
      refine e2.trans (congrArg some ?_)
      rw [vp_cell_l, h24]
      have : newarray.typeOf atype = .long := by
        rw [hkc] at h24
        unfold nA at h24
        split at h24 <;> first | assumption | omega
      rw [this]
      rfl
    · have hk5 : kc = 21 ∨ kc = 22 ∨ kc = 23 ∨ kc = 25 := by
        rw [hkc] at h24 h21 ⊢
        unfold nA at h24 h21 ⊢
        split at h24 <;> simp_all
      rw [ent_int ek h21 (by omega)]
      simp only [el, ej]
      refine e2.trans (congrArg some ?_)
      rw [vp_cell_i]
      have hd : defaultValue (newarray.typeOf atype) = .int (Int32.ofInt 0) := by
        rw [hkc] at hk5
        unfold nA at hk5
        split at hk5 <;> first | (rename_i h; rw [h]; rfl) | omega
      rw [hd]
theorem m_anew (C : gCx p s m args meth c cc nL ret nmm own) (hM : MS E μ s H locs) {Cn : String} {index t0 : Nat} {kc n : Int} (k1 : 26 ≤ kc) (k2 : kc ≤ 29) (ht : (tysE E)[t0]? = some (E.2.1 (kc - 21).toNat, .object Cn)) (hl : Cond.classLink own index Cn ∈ bigL) (hover : va_AO Cn s) (rn : R32 n) (h0 : 0 ≤ n) (hb : n.toNat * 4 ≤ 536870912) (hc : cells + 1 ≤ R.cells) (hs : slots + n.toNat ≤ R.slots) (e1 : μ1 = mnew μ kc n n) (hdg : decode cc pc = .ok (.anewarray index, 3))
    (kk : ∀ (H1 : Heap), MS E μ1 s H1 locs → W p l e R s m args below meth c H1 locs (cells + 1) (slots + n.toNat) Q (F0 m (pc + 3) ls (vr E (μ 0 0 + 1) :: rest))) : W p l e R s m args below meth c H locs cells slots Q (F0 m pc ls (vi n :: rest)) := by
  have hn0 : ¬ Int32.ofInt n < 0 := fun q => by
    have := (i_lt rn R32_0).mp q
    omega
  have hcl := i_clamp rn h0
  refine W.anew C.1.1 C.1.2.1 C.1.2.2.2.1 (C.w hl) (va_AO.use hover) rfl hdg rfl hn0 (by rw [hcl]; exact hb) hc (by rw [hcl]; exact hs) fun cA kA comp f1 f2 f3 f4 => ?_
  rw [hcl]
  generalize hH1 : H.push ({ cls := cA, slots := Array.replicate n.toNat .null, vm := .none } : Cell) = H1
  have z1 : H1.size = H.size + 1 := by rw [← hH1, Array.size_push]
  have e2 : H1[H.size]? = some (arrV cA n.toNat (fun _ => .null)) := by rw [← hH1, Array.getElem?_push_size, ← arrV_new]
  have o1 : ∀ q : Nat, q < H.size → H1[q]? = H[q]? := fun q hq => by rw [← hH1, Array.getElem?_push, if_neg (Nat.ne_of_lt hq)]
  have ev := vr_new hM
  rw [ev] at kk
  have hcA : cA = E.2.1 (kc - 21).toNat := by
    obtain ⟨kA2, comp2, g1, g2, g3, g4⟩ := (hM.K.2 t0 _ ht).2
    exact Option.some.inj (f1.symm.trans g4)
  subst hcA
  refine kk H1 (hM.add (Or.inr ⟨by omega, k2, h0, rn.2⟩) e1 ?_ z1 o1)
  subst e1
  have p0 := hM.wf.1
  have ek : mnew μ kc n n (μ 0 0 + 1) (-2) = kc := by rw [mnew_n _ _ _ _ _ p0]; rfl
  have el : mnew μ kc n n (μ 0 0 + 1) (-1) = n := by rw [mnew_n _ _ _ _ _ p0]; rfl
  have ej : ∀ j : Nat, mnew μ kc n n (μ 0 0 + 1) (j : Int) = 0 := fun j => by rw [mnew_n _ _ _ _ _ p0, if_neg (by omega), if_neg (by omega)]
  rw [ent_ref ek k1]
  simp only [el, ej]
  refine e2.trans (congrArg some ?_)
  rw [vp_cell_q]
  rfl
/-! calls -/
theorem g_back {rv : Option Value} {P : Prop} {a : Array Value} {mc ms : Nat} {st0 : List Value} (hr : va_Run p l e R s m args below meth c H locs cells slots mc ms (F0 m pc ls st0) rest (gQ E rv P μ1 a) (gA E)) (hM : MS E μ s H locs)
    (kk : P → ∀ (H1 : Heap) (locs1 : List Loc), MS E μ1 s H1 locs1 → W p l e R s m args below meth c H1 locs1 (cells + mc) (slots + ms) Q (F0 m (pc + 3) ls (rv.toList ++ rest))) : W p l e R s m args below meth c H locs cells slots Q (F0 m pc ls st0) := by
  intro T hT X
  obtain ⟨v, st₀, t, T', L, h0, X', hL, e1, e2, ⟨hv, hp, hw, hz, hP, hF1, hF2⟩, st⟩ := hr T hT X
  cases hv
  rw [h0] at hF1 hF2
  have hS := hM.2.1
  obtain ⟨t2, a1, b1⟩ := kk hp T'.heap (locs ++ L) ⟨⟨hM.1.1, hM.1.2.1.kept (fun q h1 h2 => by rw [e1]; exact hF2 q h1 h2), hw, by rw [e1]; exact hz, by rw [e1]; exact hP⟩,
    ⟨Nat.le_trans hS.1 (by rw [e1]; exact hF1), fun q h1 h2 => by rw [e1, hF2 q (Nat.lt_of_lt_of_le h1 hS.1) h2]; exact hS.2.1 q h1 h2, fun q hq => by
      rcases List.mem_append.mp hq with h | h
      · exact hS.2.2 q h
      · exact hL q h⟩, hM.2.2⟩ T' rfl X'
  exact ⟨t2, st t2 a1, b1⟩
theorem g_pre {As : List Value} (hM : MS E μ s H locs) : ∀ U : State, U.heap = H → s.WarmedH U.vm → va_Pc As (fun U => MEM E μ U U.heap) As.toArray U := fun U hU hW => ⟨rfl, by show MEM E μ U U.heap; rw [hU]; exact hM.1.warm hW⟩
theorem g_callV (C : gCx p s m args meth c cc nL ret nmm own) {kc : Int} {Cn : String} {T : u_T} {ty : Nat → FieldType} {N : Nat} (K : gKF kc Cn T ty N) (hM : MS E μ s H locs) {y : MethodName} {bytes : ByteArray} {maxL fr lo mc ms index n : Nat} {rt : Option FieldType} {r : Int} {As st0 : List Value} {rv : Option Value} {P : Prop} (hMet : gMet l E y bytes maxL rt fr lo (vr E r :: As) rv P μ μ1 mc ms) (hck : μ r (-2) = kc) (hG : GoodIn bigL (wsV own index Cn y (wsB y bytes maxL rt)))
    (hd : y.cls = Cn ∧ y.cls ≠ "java/lang/invoke/MethodHandle" ∧ y.cls ≠ "java/lang/invoke/VarHandle" ∧ (parseMethodDescriptor y.desc).map (fun d => d.parameters.length) = some n) (hR : fr + 1 ≤ R.frames ∧ 8 + (maxL + 11) + lo ≤ R.locals) (hn : As.length = n) (hl : ls.size = nL) (hst : st0 = As.reverse ++ vr E r :: rest) (hcat : RC rest 8) (hf : cells + mc ≤ R.cells ∧ slots + ms ≤ R.slots) (hdg : decode cc pc = .ok (.invokevirtual index, 3))
    (kk : P → ∀ (H1 : Heap) (locs1 : List Loc), MS E μ1 s H1 locs1 → W p l e R s m args below meth c H1 locs1 (cells + mc) (slots + ms) Q (F0 m (pc + 3) ls (rv.toList ++ rest))) : W p l e R s m args below meth c H locs cells slots Q (F0 m pc ls st0) := by
  obtain ⟨p1, p2, p3, p4⟩ := hM.at K hck
  unfold gMet at hMet
  rw [p3] at hMet hst
  refine g_back (va_runV (C := Cn) C.1 hMet (cwV n C.1.2.2.2.2 hG rfl rfl rfl hd hR) ⟨gPc_blind, va_recv hM.K hM.P K.2.2.1 p4, g_pre hM⟩ rfl hn hl hst (lv_room hcat) hdg hf) hM kk
theorem g_callVN (C : gCx p s m args meth c cc nL ret nmm own) {kc : Int} {Cn : String} {T : u_T} {ty : Nat → FieldType} {N : Nat} (K : gKF kc Cn T ty N) (hM : MS E μ s H locs) {y : MethodName} {host : String} {bytes : ByteArray} {maxL fr lo mc ms index n : Nat} {rt : Option FieldType} {r : Int} {As st0 : List Value} {rv : Option Value} {P : Prop} (hMet : gMet l E y bytes maxL rt fr lo (vr E r :: As) rv P μ μ1 mc ms) (hck : μ r (-2) = kc) (hN : va_Nw (.methodLinkNest own index y host) s) (h2 : Cond.instanceMethod y ∈ bigL) (h3 : Cond.selects Cn y y ∈ bigL) (h4 : Cond.initialized y.cls ∈ bigL) (h5 : Cond.code y bytes maxL rt ∈ bigL)
    (hd : y.cls ≠ "java/lang/invoke/MethodHandle" ∧ y.cls ≠ "java/lang/invoke/VarHandle" ∧ (parseMethodDescriptor y.desc).map (fun d => d.parameters.length) = some n) (hR : fr + 1 ≤ R.frames ∧ 8 + (maxL + 11) + lo ≤ R.locals) (hn : As.length = n) (hl : ls.size = nL) (hst : st0 = As.reverse ++ vr E r :: rest) (hcat : RC rest 8) (hf : cells + mc ≤ R.cells ∧ slots + ms ≤ R.slots) (hdg : decode cc pc = .ok (.invokevirtual index, 3))
    (kk : P → ∀ (H1 : Heap) (locs1 : List Loc), MS E μ1 s H1 locs1 → W p l e R s m args below meth c H1 locs1 (cells + mc) (slots + ms) Q (F0 m (pc + 3) ls (rv.toList ++ rest))) : W p l e R s m args below meth c H locs cells slots Q (F0 m pc ls st0) := by
  obtain ⟨p1, p2, p3, p4⟩ := hM.at K hck
  unfold gMet at hMet
  rw [p3] at hMet hst
  refine g_back (va_runVN (C := Cn) C.1 hMet ⟨va_cnB n C.1.2.2.2.2 (gB h5) rfl rfl rfl hN (C.w h4) hd hR, C.w h2, C.w h3⟩ ⟨gPc_blind, va_recv hM.K hM.P K.2.2.1 p4, g_pre hM⟩ rfl hn hl hst (lv_room hcat) hdg hf) hM kk
theorem g_callS (C : gCx p s m args meth c cc nL ret nmm own) (hM : MS E μ s H locs) {y : MethodName} {bytes : ByteArray} {maxL fr lo mc ms index n : Nat} {rt : Option FieldType} {As st0 : List Value} {rv : Option Value} {P : Prop} (hMet : gMet l E y bytes maxL rt fr lo As rv P μ μ1 mc ms) (hG : GoodIn bigL (va_wsS own index y (wsB y bytes maxL rt)))
    (hd : y.cls ≠ "java/lang/invoke/MethodHandle" ∧ y.cls ≠ "java/lang/invoke/VarHandle" ∧ (parseMethodDescriptor y.desc).map (fun d => d.parameters.length) = some n) (hR : fr + 1 ≤ R.frames ∧ 8 + (maxL + 11) + lo ≤ R.locals) (hn : As.length = n) (hl : ls.size = nL) (hst : st0 = As.reverse ++ rest) (hcat : RC rest 8) (hf : cells + mc ≤ R.cells ∧ slots + ms ≤ R.slots) (hdg : decode cc pc = .ok (.invokestatic index, 3))
    (kk : P → ∀ (H1 : Heap) (locs1 : List Loc), MS E μ1 s H1 locs1 → W p l e R s m args below meth c H1 locs1 (cells + mc) (slots + ms) Q (F0 m (pc + 3) ls (rv.toList ++ rest))) : W p l e R s m args below meth c H locs cells slots Q (F0 m pc ls st0) := by
  unfold gMet at hMet
  refine g_back (va_runS C.1 hMet (va_cwS n C.1.2.2.2.2 hG rfl rfl rfl hd hR) ⟨gPc_blind, g_pre hM⟩ rfl hn hl hst (lv_room hcat) hdg hf) hM kk
theorem g_callSN (C : gCx p s m args meth c cc nL ret nmm own) (hM : MS E μ s H locs) {y : MethodName} {host : String} {bytes : ByteArray} {maxL fr lo mc ms index n : Nat} {rt : Option FieldType} {As st0 : List Value} {rv : Option Value} {P : Prop} (hMet : gMet l E y bytes maxL rt fr lo As rv P μ μ1 mc ms) (hN : va_Nw (.methodLinkNest own index y host) s) (h3 : Cond.static y ∈ bigL) (h4 : Cond.initialized y.cls ∈ bigL) (h5 : Cond.code y bytes maxL rt ∈ bigL)
    (hd : y.cls ≠ "java/lang/invoke/MethodHandle" ∧ y.cls ≠ "java/lang/invoke/VarHandle" ∧ (parseMethodDescriptor y.desc).map (fun d => d.parameters.length) = some n) (hR : fr + 1 ≤ R.frames ∧ 8 + (maxL + 11) + lo ≤ R.locals) (hn : As.length = n) (hl : ls.size = nL) (hst : st0 = As.reverse ++ rest) (hcat : RC rest 8) (hf : cells + mc ≤ R.cells ∧ slots + ms ≤ R.slots) (hdg : decode cc pc = .ok (.invokestatic index, 3))
    (kk : P → ∀ (H1 : Heap) (locs1 : List Loc), MS E μ1 s H1 locs1 → W p l e R s m args below meth c H1 locs1 (cells + mc) (slots + ms) Q (F0 m (pc + 3) ls (rv.toList ++ rest))) : W p l e R s m args below meth c H locs cells slots Q (F0 m pc ls st0) := by
  unfold gMet at hMet
  refine g_back (va_runSN C.1 hMet ⟨va_cnB n C.1.2.2.2.2 (gB h5) rfl rfl rfl hN (C.w h4) hd hR, C.w h3, trivial⟩ ⟨gPc_blind, g_pre hM⟩ rfl hn hl hst (lv_room hcat) hdg hf) hM kk
theorem g_callI (C : gCx p s m args meth c cc nL ret nmm own) (hM : MS E μ s H locs) {y : MethodName} {bytes : ByteArray} {maxL fr lo mc ms index n : Nat} {r : Int} {As st0 : List Value} {rv : Option Value} {P : Prop} (hMet : gMet l E y bytes maxL none fr lo (vr E r :: As) rv P μ μ1 mc ms) (hr : 1 ≤ r) (h1 : Cond.methodLink own index y ∈ bigL) (h2 : Cond.instanceMethod y ∈ bigL) (h4 : Cond.initialized y.cls ∈ bigL) (h5 : Cond.code y bytes maxL none ∈ bigL) (hin : y.name = "<init>")
    (hd : y.cls ≠ "java/lang/invoke/MethodHandle" ∧ y.cls ≠ "java/lang/invoke/VarHandle" ∧ (parseMethodDescriptor y.desc).map (fun d => d.parameters.length) = some n) (hR : fr + 1 ≤ R.frames ∧ 8 + (maxL + 11) + lo ≤ R.locals) (hn : As.length = n) (hl : ls.size = nL) (hst : st0 = As.reverse ++ vr E r :: rest) (hcat : RC rest 8) (hf : cells + mc ≤ R.cells ∧ slots + ms ≤ R.slots) (hdg : decode cc pc = .ok (.invokespecial index, 3))
    (kk : P → ∀ (H1 : Heap) (locs1 : List Loc), MS E μ1 s H1 locs1 → W p l e R s m args below meth c H1 locs1 (cells + mc) (slots + ms) Q (F0 m (pc + 3) ls (rv.toList ++ rest))) : W p l e R s m args below meth c H locs cells slots Q (F0 m pc ls st0) := by
  unfold gMet at hMet
  rw [vr_pos hr] at hMet hst
  refine g_back (va_runI C.1 hMet (cwI n C.1.2.2.2.2 (gB h5) rfl rfl rfl (C.w h4) (C.w h1) (C.w h2) hin hd hR) ⟨gPc_blind, g_pre hM⟩ rfl hn hl hst (lv_room hcat) hdg hf) hM kk
theorem g_callIN (C : gCx p s m args meth c cc nL ret nmm own) (hM : MS E μ s H locs) {y : MethodName} {host : String} {bytes : ByteArray} {maxL fr lo mc ms index n : Nat} {r : Int} {As st0 : List Value} {rv : Option Value} {P : Prop} (hMet : gMet l E y bytes maxL none fr lo (vr E r :: As) rv P μ μ1 mc ms) (hr : 1 ≤ r) (hN : va_Nw (.methodLinkNest own index y host) s) (h2 : Cond.instanceMethod y ∈ bigL) (h4 : Cond.initialized y.cls ∈ bigL) (h5 : Cond.code y bytes maxL none ∈ bigL) (hin : y.name = "<init>")
    (hd : y.cls ≠ "java/lang/invoke/MethodHandle" ∧ y.cls ≠ "java/lang/invoke/VarHandle" ∧ (parseMethodDescriptor y.desc).map (fun d => d.parameters.length) = some n) (hR : fr + 1 ≤ R.frames ∧ 8 + (maxL + 11) + lo ≤ R.locals) (hn : As.length = n) (hl : ls.size = nL) (hst : st0 = As.reverse ++ vr E r :: rest) (hcat : RC rest 8) (hf : cells + mc ≤ R.cells ∧ slots + ms ≤ R.slots) (hdg : decode cc pc = .ok (.invokespecial index, 3))
    (kk : P → ∀ (H1 : Heap) (locs1 : List Loc), MS E μ1 s H1 locs1 → W p l e R s m args below meth c H1 locs1 (cells + mc) (slots + ms) Q (F0 m (pc + 3) ls (rv.toList ++ rest))) : W p l e R s m args below meth c H locs cells slots Q (F0 m pc ls st0) := by
  unfold gMet at hMet
  rw [vr_pos hr] at hMet hst
  refine g_back (va_runIN C.1 hMet ⟨va_cnB n C.1.2.2.2.2 (gB h5) rfl rfl rfl hN (C.w h4) hd hR, hin, C.w h2⟩ ⟨gPc_blind, g_pre hM⟩ rfl hn hl hst (lv_room hcat) hdg hf) hM kk
theorem m_objInit (C : gCx p s m args meth c cc nL ret nmm own) {idx : Nat} {r : Int} (hr : 1 ≤ r) (h1 : Cond.methodLink own idx Lib.objectInit ∈ bigL) (h2 : Cond.instanceMethod Lib.objectInit ∈ bigL) (h5 : Cond.code Lib.objectInit ⟨#[0xb1]⟩ 1 none ∈ bigL) (hl : ls.size = nL) (hcat : RC rest 8) (hR : 1 ≤ R.frames ∧ 20 ≤ R.locals) (hdg : decode cc pc = .ok (.invokespecial idx, 3))
    (kk : W p l e R s m args below meth c H locs cells slots Q (F0 m (pc + 3) ls rest)) : W p l e R s m args below meth c H locs cells slots Q (F0 m pc ls (vr E r :: rest)) := by
  rw [vr_pos hr]
  refine W.objInit C.1.1 C.1.2.1 C.1.2.2.2.1 (C.w h1) (C.w h2) (C.w h5) rfl (hl.trans C.1.2.2.1.symm) rfl hdg hR.1 ?_ kk
  have := lv_room (m := m) (pc := pc) (ls := ls) (rest := rest) hcat
  have h3 : (F0 m pc ls (Value.ref (ad E r) :: rest)).monitorRoom = (F0 m pc ls rest).monitorRoom := rfl
  have h4 : (rest.map fun v => v.category).sum ≤ 8 := hcat
  rw [h3]
  omega
/-! returns -/
theorem g_end {rv : Option Value} {P : Prop} (hM : MS E μ s H locs) (hp : P) : ∀ t : State, t.heap = H → s.WarmedH t.vm → gQ E rv P μ args s (.returned rv) t := fun t ht _ => ⟨rfl, hp, hM.wf, by rw [ht]; exact hM.1.2.2.2.1, by rw [ht]; exact hM.P, hM.2.1.F ht⟩
theorem m_iret (C : gCx p s m args meth c cc nL (some .int) nmm own) {v : Int} {P : Prop} (hM : MS E μ s H locs) (hp : P) (hdg : decode cc pc = .ok (.ireturn, 1)) : W p l e R s m args below meth c H locs cells slots (MQ below (gQ E (some (vi v)) P μ) args s cells slots (gA E)) (F0 m pc ls [vi v]) := W.iret C.1.1 C.1.2.1 C.2.1 (g_end hM hp) hM.2.1.2.2 hdg C.2.2.1
theorem m_zret {ty : FieldType} (C : gCx p s m args meth c cc nL (some ty) nmm own) {v : Int} {P : Prop} (hn : narrow ty (vi v) = vi v) (hM : MS E μ s H locs) (hp : P) (hdg : decode cc pc = .ok (.ireturn, 1)) : W p l e R s m args below meth c H locs cells slots (MQ below (gQ E (some (vi v)) P μ) args s cells slots (gA E)) (F0 m pc ls [vi v]) := W.zret C.1.1 C.1.2.1 C.2.1 hn (g_end hM hp) hM.2.1.2.2 hdg C.2.2.1
theorem m_lret (C : gCx p s m args meth c cc nL (some .long) nmm own) {v : Int} {P : Prop} (hM : MS E μ s H locs) (hp : P) (hdg : decode cc pc = .ok (.lreturn, 1)) : W p l e R s m args below meth c H locs cells slots (MQ below (gQ E (some (vl v)) P μ) args s cells slots (gA E)) (F0 m pc ls [vl v]) := W.lret C.1.1 C.1.2.1 C.2.1 (g_end hM hp) hM.2.1.2.2 hdg C.2.2.1
theorem m_vret (C : gCx p s m args meth c cc nL none nmm own) {P : Prop} (hM : MS E μ s H locs) (hp : P) (hdg : decode cc pc = .ok (.return_, 1)) : W p l e R s m args below meth c H locs cells slots (MQ below (gQ E none P μ) args s cells slots (gA E)) (F0 m pc ls []) := W.vret C.1.1 C.1.2.1 C.2.1 (g_end hM hp) hM.2.1.2.2 hdg C.2.2.1
theorem m_aret {rt : FieldType} (C : gCx p s m args meth c cc nL (some rt) nmm own) {v : Int} {P : Prop} (hrt : (∃ n, rt = .object n) ∨ ∃ t, rt = .array t) (hM : MS E μ s H locs) (hp : P) (hdg : decode cc pc = .ok (.areturn, 1)) : W p l e R s m args below meth c H locs cells slots (MQ below (gQ E (some (vr E v)) P μ) args s cells slots (gA E)) (F0 m pc ls [vr E v]) := W.aret C.1.1 C.1.2.1 C.2.1 hrt (vr_or E v) (g_end hM hp) hM.2.1.2.2 hdg C.2.2.1
end CALLROWS
