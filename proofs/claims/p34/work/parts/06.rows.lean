/-! ROWS: an instruction over the memory -/
def RC (st : List Value) (n : Nat) : Prop := (st.map fun v => v.category).sum ≤ n
theorem rc0 {n : Nat} : RC [] n := Nat.zero_le _
theorem rcI {st : List Value} {n : Nat} {x : Int32} (h : RC st n) : RC (.int x :: st) (n + 1) := by
  unfold RC at h ⊢
  simp only [List.map_cons, List.sum_cons]
  have : (Value.int x).category = 1 := rfl
  omega
theorem rcL {st : List Value} {n : Nat} {x : Int64} (h : RC st n) : RC (.long x :: st) (n + 2) := by
  unfold RC at h ⊢
  simp only [List.map_cons, List.sum_cons]
  have : (Value.long x).category = 2 := rfl
  omega
theorem rcR {st : List Value} {n : Nat} {E : gE} {r : Int} (h : RC st n) : RC (vr E r :: st) (n + 1) := by
  unfold RC at h ⊢
  simp only [List.map_cons, List.sum_cons]
  have := vr_cat E r
  omega
/-- a class: its kind, name, fields -/
def gKF (kc : Int) (Cn : String) (T : u_T) (ty : Nat → FieldType) (N : Nat) : Prop := 1 ≤ kc ∧ kc ≤ 10 ∧ vwCl[(kc - 1).toNat]? = some (Cn, T, N) ∧ (∀ w ∈ u_ws Cn T N, w ∈ bigL) ∧ (∀ k, k < N → parseFieldDescriptor (T k).2.2.1 = some (ty k)) ∧ (∀ a, a < N → ∀ b, b < N → a ≠ b → (T a).2.1 ≠ (T b).2.1) ∧ cN kc = N ∧ cTy kc = ty
theorem ent_obj {E : gE} {μ : Mm} {r kc : Int} (hk : μ r (-2) = kc) (h2 : kc ≤ 10) : ent E μ r = .inr ((kc - 1).toNat, (List.range (cN kc)).map (fun i => fv E (cTy kc i) (μ r (i : Int)))) := by
  unfold ent
  rw [hk, if_pos (by omega)]
theorem ent_int {E : gE} {μ : Mm} {r kc : Int} (hk : μ r (-2) = kc) (h1 : 21 ≤ kc) (h2 : kc ≤ 23 ∨ kc = 25) : ent E μ r = .inl (E.2.1 (kc - 21).toNat, ((μ r (-1)).toNat, .inl (fun i => Int32.ofInt (μ r (i : Int))))) := by
  unfold ent
  rw [hk, if_neg (by omega)]
  rcases h2 with h2 | h2
  · rw [if_pos h2]
  · rw [if_neg (by omega), if_neg (by omega), if_pos h2, h2]
    rfl
theorem ent_long {E : gE} {μ : Mm} {r : Int} (hk : μ r (-2) = 24) : ent E μ r = .inl (E.2.1 3, ((μ r (-1)).toNat, .inr (.inl (fun i => Int64.ofInt (μ r (i : Int)))))) := by
  unfold ent
  rw [hk]
  rfl
theorem ent_ref {E : gE} {μ : Mm} {r kc : Int} (hk : μ r (-2) = kc) (h1 : 26 ≤ kc) : ent E μ r = .inl (E.2.1 (kc - 21).toNat, ((μ r (-1)).toNat, .inr (.inr (.inr (.inr (fun i => adO E (μ r (i : Int)))))))) := by
  unfold ent
  rw [hk, if_neg (by omega), if_neg (by omega), if_neg (by omega), if_neg (by omega)]
section ROWS
variable {p : Program} {l : Launch} {e : Env} {R : Room} {s : State} {m : MethodId} {args : Array Value} {below : List Frame} {meth : Method} {c : Code} {H : Heap} {locs : List Loc} {cells slots : Nat} {Q : State → Prop} {cc : ByteArray} {pc nL : Nat} {ls : Array Slot} {rest : List Value} {ret : Option FieldType} {nmm own : String} {E : gE} {μ μ1 : Mm}
theorem m_iconst (C : gCx p s m args meth c cc nL ret nmm own) {n : Int} (hdg : decode cc pc = .ok (.iconst n, 1)) (k : W p l e R s m args below meth c H locs cells slots Q (F0 m (pc + 1) ls (vi n :: rest))) : W p l e R s m args below meth c H locs cells slots Q (F0 m pc ls rest) := lv_iconst C.1.1 C.1.2.1 hdg rfl k
theorem m_bipush (C : gCx p s m args meth c cc nL ret nmm own) {n : Int} (hdg : decode cc pc = .ok (.bipush n, 2)) (hn : (Int8.ofInt n).toInt32 = Int32.ofInt n) (k : W p l e R s m args below meth c H locs cells slots Q (F0 m (pc + 2) ls (vi n :: rest))) : W p l e R s m args below meth c H locs cells slots Q (F0 m pc ls rest) := lv_bipush C.1.1 C.1.2.1 hdg hn k
theorem m_sipush (C : gCx p s m args meth c cc nL ret nmm own) {n : Int} (hdg : decode cc pc = .ok (.sipush n, 3)) (hn : (Int16.ofInt n).toInt32 = Int32.ofInt n) (k : W p l e R s m args below meth c H locs cells slots Q (F0 m (pc + 3) ls (vi n :: rest))) : W p l e R s m args below meth c H locs cells slots Q (F0 m pc ls rest) := lv_sipush C.1.1 C.1.2.1 hdg hn k
theorem m_lconst (C : gCx p s m args meth c cc nL ret nmm own) {n : Fin 2} {v : Int} (hdg : decode cc pc = .ok (.lconst n, 1)) (hv : Int64.ofNat (n : Nat) = Int64.ofInt v) (k : W p l e R s m args below meth c H locs cells slots Q (F0 m (pc + 1) ls (vl v :: rest))) : W p l e R s m args below meth c H locs cells slots Q (F0 m pc ls rest) := lv_lconst C.1.1 C.1.2.1 hdg hv k
theorem gCx.w (C : gCx p s m args meth c cc nL ret nmm own) {w : Cond} (h : w ∈ bigL) : w.before args s = true := C.1.2.2.2.2 w h
theorem m_ldc (C : gCx p s m args meth c cc nL ret nmm own) {index : Nat} {v : Int32} {n : Int} (h : Cond.constant own index v ∈ bigL) (hv : v = Int32.ofInt n) (hdg : decode cc pc = .ok (.ldc index, 2)) (k : W p l e R s m args below meth c H locs cells slots Q (F0 m (pc + 2) ls (vi n :: rest))) : W p l e R s m args below meth c H locs cells slots Q (F0 m pc ls rest) := lv_ldc (v := v) C.1.1 C.1.2.1 C.1.2.2.2.1 (C.w h) hdg (by rw [hv]; exact k)
theorem m_ldcw (C : gCx p s m args meth c cc nL ret nmm own) {index : Nat} {v : Int32} {n : Int} (h : Cond.constant own index v ∈ bigL) (hv : v = Int32.ofInt n) (hdg : decode cc pc = .ok (.ldc_w index, 3)) (k : W p l e R s m args below meth c H locs cells slots Q (F0 m (pc + 3) ls (vi n :: rest))) : W p l e R s m args below meth c H locs cells slots Q (F0 m pc ls rest) := lv_ldcw (v := v) C.1.1 C.1.2.1 C.1.2.2.2.1 (C.w h) hdg (by rw [hv]; exact k)
theorem m_ldc2 (C : gCx p s m args meth c cc nL ret nmm own) {index : Nat} {v : Int64} {n : Int} (h : Cond.constantLong own index v ∈ bigL) (hv : v = Int64.ofInt n) (hdg : decode cc pc = .ok (.ldc2_w index, 3)) (k : W p l e R s m args below meth c H locs cells slots Q (F0 m (pc + 3) ls (vl n :: rest))) : W p l e R s m args below meth c H locs cells slots Q (F0 m pc ls rest) := lv_ldc2 (v := v) C.1.1 C.1.2.1 C.1.2.2.2.1 (C.w h) hdg (by rw [hv]; exact k)
theorem m_ldcS (C : gCx p s m args meth c cc nL ret nmm RX3) (hM : MS E μ s H locs) {index : Nat} {tx : String} (i : Nat) (hi : oStr[i]? = some (index, tx)) (h13 : i < 13) {r : Int} (hr : r = -(1 + (i : Int))) (hdg : decode cc pc = .ok (.ldc index, 2)) (k : W p l e R s m args below meth c H locs cells slots Q (F0 m (pc + 2) ls (vr E r :: rest))) : W p l e R s m args below meth c H locs cells slots Q (F0 m pc ls rest) := by
  have h1 := hM.1.1.2.1 i _ hi
  have h2 := (hM.1.2.1.1 i h13).1
  have e : vr E r = .ref (oAt E (1 + i)) := by
    unfold vr adO
    rw [if_neg (by omega), if_pos (by omega), show (-r).toNat = 1 + i by omega, h2]
    rfl
  rw [e] at k
  exact va_ldcS C.1.1 C.1.2.1 C.1.2.2.2.1 h1 hdg k
theorem m_null (C : gCx p s m args meth c cc nL ret nmm own) (E : gE) (hdg : decode cc pc = .ok (.aconst_null, 1)) (k : W p l e R s m args below meth c H locs cells slots Q (F0 m (pc + 1) ls (vr E 0 :: rest))) : W p l e R s m args below meth c H locs cells slots Q (F0 m pc ls rest) := lv_null C.1.1 C.1.2.1 hdg k
theorem m_iload_n (C : gCx p s m args meth c cc nL ret nmm own) {k : Fin 4} {i : Nat} {x : Int} (hdg : decode cc pc = .ok (.iload_n k, 1)) (hi : (k : Nat) = i) (hl : ls[i]? = some (.val (vi x))) (kk : W p l e R s m args below meth c H locs cells slots Q (F0 m (pc + 1) ls (vi x :: rest))) : W p l e R s m args below meth c H locs cells slots Q (F0 m pc ls rest) := lv_iload_n C.1.1 C.1.2.1 hdg hi hl kk
theorem m_iload (C : gCx p s m args meth c cc nL ret nmm own) {i : Nat} {x : Int} (hdg : decode cc pc = .ok (.iload i, 2)) (hl : ls[i]? = some (.val (vi x))) (kk : W p l e R s m args below meth c H locs cells slots Q (F0 m (pc + 2) ls (vi x :: rest))) : W p l e R s m args below meth c H locs cells slots Q (F0 m pc ls rest) := lv_iload C.1.1 C.1.2.1 hdg hl kk
theorem m_lload_n (C : gCx p s m args meth c cc nL ret nmm own) {k : Fin 4} {i : Nat} {x : Int} (hdg : decode cc pc = .ok (.lload_n k, 1)) (hi : (k : Nat) = i) (hl : ls[i]? = some (.val (vl x))) (kk : W p l e R s m args below meth c H locs cells slots Q (F0 m (pc + 1) ls (vl x :: rest))) : W p l e R s m args below meth c H locs cells slots Q (F0 m pc ls rest) := lv_lload_n C.1.1 C.1.2.1 hdg hi hl kk
theorem m_lload (C : gCx p s m args meth c cc nL ret nmm own) {i : Nat} {x : Int} (hdg : decode cc pc = .ok (.lload i, 2)) (hl : ls[i]? = some (.val (vl x))) (kk : W p l e R s m args below meth c H locs cells slots Q (F0 m (pc + 2) ls (vl x :: rest))) : W p l e R s m args below meth c H locs cells slots Q (F0 m pc ls rest) := lv_lload C.1.1 C.1.2.1 hdg hl kk
theorem m_aload_n (C : gCx p s m args meth c cc nL ret nmm own) {k : Fin 4} {i : Nat} {x : Int} (hdg : decode cc pc = .ok (.aload_n k, 1)) (hi : (k : Nat) = i) (hl : ls[i]? = some (.val (vr E x))) (kk : W p l e R s m args below meth c H locs cells slots Q (F0 m (pc + 1) ls (vr E x :: rest))) : W p l e R s m args below meth c H locs cells slots Q (F0 m pc ls rest) := by
  rcases vr_or E x with h | ⟨a, h⟩
  · rw [h] at hl kk
    exact lv_aload_nN C.1.1 C.1.2.1 hdg hi hl kk
  · rw [h] at hl kk
    exact lv_aload_n C.1.1 C.1.2.1 hdg hi hl kk
theorem m_aload (C : gCx p s m args meth c cc nL ret nmm own) {i : Nat} {x : Int} (hdg : decode cc pc = .ok (.aload i, 2)) (hl : ls[i]? = some (.val (vr E x))) (kk : W p l e R s m args below meth c H locs cells slots Q (F0 m (pc + 2) ls (vr E x :: rest))) : W p l e R s m args below meth c H locs cells slots Q (F0 m pc ls rest) := by
  rcases vr_or E x with h | ⟨a, h⟩
  · rw [h] at hl kk
    exact lv_aloadN C.1.1 C.1.2.1 hdg hl kk
  · rw [h] at hl kk
    exact lv_aload C.1.1 C.1.2.1 hdg hl kk
theorem m_istore_n (C : gCx p s m args meth c cc nL ret nmm own) {k : Fin 4} {i n : Nat} {x : Int} {lv lv' : List (Nat × Value)} (hdg : decode cc pc = .ok (.istore_n k, 1)) (hi : (k : Nat) = i) (h : lv_has ls n lv) (hn : i < n) (hk : lvK lv i lv') (kk : ∀ ls' : Array Slot, lv_has ls' n ((i, vi x) :: lv') → W p l e R s m args below meth c H locs cells slots Q (F0 m (pc + 1) ls' rest)) : W p l e R s m args below meth c H locs cells slots Q (F0 m pc ls (vi x :: rest)) := lv_istore_n C.1.1 C.1.2.1 hdg hi h hn rfl (fun ls' h' => kk ls' (lv_mono h' hk.in1))
theorem m_istore (C : gCx p s m args meth c cc nL ret nmm own) {i n : Nat} {x : Int} {lv lv' : List (Nat × Value)} (hdg : decode cc pc = .ok (.istore i, 2)) (h : lv_has ls n lv) (hn : i < n) (hk : lvK lv i lv') (kk : ∀ ls' : Array Slot, lv_has ls' n ((i, vi x) :: lv') → W p l e R s m args below meth c H locs cells slots Q (F0 m (pc + 2) ls' rest)) : W p l e R s m args below meth c H locs cells slots Q (F0 m pc ls (vi x :: rest)) := lv_istore C.1.1 C.1.2.1 hdg h hn rfl (fun ls' h' => kk ls' (lv_mono h' hk.in1))
theorem m_astore_n (C : gCx p s m args meth c cc nL ret nmm own) {k : Fin 4} {i n : Nat} {x : Int} {lv lv' : List (Nat × Value)} (hdg : decode cc pc = .ok (.astore_n k, 1)) (hi : (k : Nat) = i) (h : lv_has ls n lv) (hn : i < n) (hk : lvK lv i lv') (kk : ∀ ls' : Array Slot, lv_has ls' n ((i, vr E x) :: lv') → W p l e R s m args below meth c H locs cells slots Q (F0 m (pc + 1) ls' rest)) : W p l e R s m args below meth c H locs cells slots Q (F0 m pc ls (vr E x :: rest)) := by
  rcases vr_or E x with hv | ⟨a, hv⟩
  · rw [hv] at kk ⊢
    exact lv_astore_nN C.1.1 C.1.2.1 hdg hi h hn rfl (fun ls' h' => kk ls' (lv_mono h' hk.in1))
  · rw [hv] at kk ⊢
    exact lv_astore_n C.1.1 C.1.2.1 hdg hi h hn rfl (fun ls' h' => kk ls' (lv_mono h' hk.in1))
theorem m_astore (C : gCx p s m args meth c cc nL ret nmm own) {i n : Nat} {x : Int} {lv lv' : List (Nat × Value)} (hdg : decode cc pc = .ok (.astore i, 2)) (h : lv_has ls n lv) (hn : i < n) (hk : lvK lv i lv') (kk : ∀ ls' : Array Slot, lv_has ls' n ((i, vr E x) :: lv') → W p l e R s m args below meth c H locs cells slots Q (F0 m (pc + 2) ls' rest)) : W p l e R s m args below meth c H locs cells slots Q (F0 m pc ls (vr E x :: rest)) := by
  rcases vr_or E x with hv | ⟨a, hv⟩
  · rw [hv] at kk ⊢
    exact lv_astoreN C.1.1 C.1.2.1 hdg h hn rfl (fun ls' h' => kk ls' (lv_mono h' hk.in1))
  · rw [hv] at kk ⊢
    exact lv_astore C.1.1 C.1.2.1 hdg h hn rfl (fun ls' h' => kk ls' (lv_mono h' hk.in1))
theorem m_lstore_n (C : gCx p s m args meth c cc nL ret nmm own) {k : Fin 4} {i n : Nat} {x : Int} {lv lv' : List (Nat × Value)} (hdg : decode cc pc = .ok (.lstore_n k, 1)) (hi : (k : Nat) = i) (h : lv_has ls n lv) (hn : i + 1 < n) (hk : lvK lv i lv') (h2 : ∀ q ∈ lv', q.1 ≠ i + 1) (kk : ∀ ls' : Array Slot, lv_has ls' n ((i, vl x) :: lv') → W p l e R s m args below meth c H locs cells slots Q (F0 m (pc + 1) ls' rest)) : W p l e R s m args below meth c H locs cells slots Q (F0 m pc ls (vl x :: rest)) := lv_lstore_n C.1.1 C.1.2.1 hdg hi h hn rfl (fun ls' h' => kk ls' (lv_mono h' (hk.in2 h2)))
theorem m_lstore (C : gCx p s m args meth c cc nL ret nmm own) {i n : Nat} {x : Int} {lv lv' : List (Nat × Value)} (hdg : decode cc pc = .ok (.lstore i, 2)) (h : lv_has ls n lv) (hn : i + 1 < n) (hk : lvK lv i lv') (h2 : ∀ q ∈ lv', q.1 ≠ i + 1) (kk : ∀ ls' : Array Slot, lv_has ls' n ((i, vl x) :: lv') → W p l e R s m args below meth c H locs cells slots Q (F0 m (pc + 2) ls' rest)) : W p l e R s m args below meth c H locs cells slots Q (F0 m pc ls (vl x :: rest)) := lv_lstore C.1.1 C.1.2.1 hdg h hn rfl (fun ls' h' => kk ls' (lv_mono h' (hk.in2 h2)))
theorem m_iinc (C : gCx p s m args meth c cc nL ret nmm own) {i n k : Nat} {d x v : Int} {lv lv' : List (Nat × Value)} (hdg : decode cc pc = .ok (.iinc i d, 3)) (h : lv_has ls n lv) (hk : lv[k]? = some (i, vi x)) (hn : i < n) (hv : v = w32 (x + d)) (hK : lvK lv i lv') (kk : ∀ ls' : Array Slot, lv_has ls' n ((i, vi v) :: lv') → W p l e R s m args below meth c H locs cells slots Q (F0 m (pc + 3) ls' rest)) : W p l e R s m args below meth c H locs cells slots Q (F0 m pc ls rest) := lv_iinc (v := Int32.ofInt v) C.1.1 C.1.2.1 hdg h hk (by rw [hv, ad_i]) hn rfl (fun ls' h' => kk ls' (lv_mono h' hK.in1))
theorem m_iadd (C : gCx p s m args meth c cc nL ret nmm own) {a b v : Int} (hdg : decode cc pc = .ok (.iadd, 1)) (hv : v = w32 (a + b)) (kk : W p l e R s m args below meth c H locs cells slots Q (F0 m (pc + 1) ls (vi v :: rest))) : W p l e R s m args below meth c H locs cells slots Q (F0 m pc ls (vi b :: vi a :: rest)) := by
  subst hv
  refine lv_iadd C.1.1 C.1.2.1 hdg ?_
  rw [ad_i]
  exact kk
theorem m_isub (C : gCx p s m args meth c cc nL ret nmm own) {a b v : Int} (hdg : decode cc pc = .ok (.isub, 1)) (hv : v = w32 (a - b)) (kk : W p l e R s m args below meth c H locs cells slots Q (F0 m (pc + 1) ls (vi v :: rest))) : W p l e R s m args below meth c H locs cells slots Q (F0 m pc ls (vi b :: vi a :: rest)) := by
  subst hv
  refine lv_isub C.1.1 C.1.2.1 hdg ?_
  rw [sb_i]
  exact kk
theorem m_imul (C : gCx p s m args meth c cc nL ret nmm own) {a b v : Int} (hdg : decode cc pc = .ok (.imul, 1)) (hv : v = w32 (a * b)) (kk : W p l e R s m args below meth c H locs cells slots Q (F0 m (pc + 1) ls (vi v :: rest))) : W p l e R s m args below meth c H locs cells slots Q (F0 m pc ls (vi b :: vi a :: rest)) := by
  subst hv
  refine lv_imul C.1.1 C.1.2.1 hdg ?_
  rw [ml_i]
  exact kk
theorem m_ineg (C : gCx p s m args meth c cc nL ret nmm own) {a v : Int} (hdg : decode cc pc = .ok (.ineg, 1)) (hv : v = w32 (-a)) (kk : W p l e R s m args below meth c H locs cells slots Q (F0 m (pc + 1) ls (vi v :: rest))) : W p l e R s m args below meth c H locs cells slots Q (F0 m pc ls (vi a :: rest)) := by
  subst hv
  refine lv_ineg C.1.1 C.1.2.1 hdg ?_
  rw [ng_i]
  exact kk
theorem i_n0 {b : Int} (rb : R32 b) (h : b ≠ 0) : ¬ Int32.ofInt b = 0 := fun q => h ((i_eq rb R32_0).mp q)
theorem l_n0 {b : Int} (rb : R64 b) (h : b ≠ 0) : ¬ Int64.ofInt b = 0 := fun q => h ((l_eq rb R32_0.to64).mp q)
theorem m_idiv (C : gCx p s m args meth c cc nL ret nmm own) {a b v : Int} (ra : R32 a) (rb : R32 b) (h0 : b ≠ 0) (hdg : decode cc pc = .ok (.idiv, 1)) (hv : v = w32 (a.tdiv b)) (kk : W p l e R s m args below meth c H locs cells slots Q (F0 m (pc + 1) ls (vi v :: rest))) : W p l e R s m args below meth c H locs cells slots Q (F0 m pc ls (vi b :: vi a :: rest)) := by
  subst hv
  refine lv_idiv C.1.1 C.1.2.1 hdg (i_n0 rb h0) ?_
  rw [dv_i ra rb]
  exact kk
theorem m_irem (C : gCx p s m args meth c cc nL ret nmm own) {a b v : Int} (rb : R32 b) (h0 : b ≠ 0) (hdg : decode cc pc = .ok (.irem, 1)) (hv : v = o_rem a b) (kk : W p l e R s m args below meth c H locs cells slots Q (F0 m (pc + 1) ls (vi v :: rest))) : W p l e R s m args below meth c H locs cells slots Q (F0 m pc ls (vi b :: vi a :: rest)) := by
  subst hv
  unfold vi at kk
  rw [o_rem, Int32.ofInt_toInt] at kk
  exact lv_irem C.1.1 C.1.2.1 hdg (i_n0 rb h0) kk
theorem m_iand (C : gCx p s m args meth c cc nL ret nmm own) {a b v : Int} (hdg : decode cc pc = .ok (.iand, 1)) (hv : v = o_and a b) (kk : W p l e R s m args below meth c H locs cells slots Q (F0 m (pc + 1) ls (vi v :: rest))) : W p l e R s m args below meth c H locs cells slots Q (F0 m pc ls (vi b :: vi a :: rest)) := by
  subst hv
  unfold vi at kk
  rw [o_and, Int32.ofInt_toInt] at kk
  exact lv_iand C.1.1 C.1.2.1 hdg kk
theorem m_ishl (C : gCx p s m args meth c cc nL ret nmm own) {a b v : Int} (hdg : decode cc pc = .ok (.ishl, 1)) (hv : v = o_shl a b) (kk : W p l e R s m args below meth c H locs cells slots Q (F0 m (pc + 1) ls (vi v :: rest))) : W p l e R s m args below meth c H locs cells slots Q (F0 m pc ls (vi b :: vi a :: rest)) := by
  subst hv
  unfold vi at kk
  rw [o_shl, Int32.ofInt_toInt] at kk
  exact lv_ishl C.1.1 C.1.2.1 hdg kk
theorem m_ishr (C : gCx p s m args meth c cc nL ret nmm own) {a b v : Int} (hdg : decode cc pc = .ok (.ishr, 1)) (hv : v = o_shr a b) (kk : W p l e R s m args below meth c H locs cells slots Q (F0 m (pc + 1) ls (vi v :: rest))) : W p l e R s m args below meth c H locs cells slots Q (F0 m pc ls (vi b :: vi a :: rest)) := by
  subst hv
  unfold vi at kk
  rw [o_shr, Int32.ofInt_toInt] at kk
  exact lv_ishr C.1.1 C.1.2.1 hdg kk
theorem m_i2b (C : gCx p s m args meth c cc nL ret nmm own) {a v : Int} (hdg : decode cc pc = .ok (.i2b, 1)) (hv : v = o_i2b a) (kk : W p l e R s m args below meth c H locs cells slots Q (F0 m (pc + 1) ls (vi v :: rest))) : W p l e R s m args below meth c H locs cells slots Q (F0 m pc ls (vi a :: rest)) := by
  subst hv
  unfold vi at kk
  rw [o_i2b, Int32.ofInt_toInt] at kk
  exact lv_i2b C.1.1 C.1.2.1 hdg rfl kk
theorem m_i2c (C : gCx p s m args meth c cc nL ret nmm own) {a v : Int} (hdg : decode cc pc = .ok (.i2c, 1)) (hv : v = o_i2c a) (kk : W p l e R s m args below meth c H locs cells slots Q (F0 m (pc + 1) ls (vi v :: rest))) : W p l e R s m args below meth c H locs cells slots Q (F0 m pc ls (vi a :: rest)) := by
  subst hv
  unfold vi at kk
  rw [o_i2c, Int32.ofInt_toInt] at kk
  exact lv_i2c C.1.1 C.1.2.1 hdg rfl kk
theorem m_i2l (C : gCx p s m args meth c cc nL ret nmm own) {a : Int} (ra : R32 a) (hdg : decode cc pc = .ok (.i2l, 1)) (kk : W p l e R s m args below meth c H locs cells slots Q (F0 m (pc + 1) ls (vl a :: rest))) : W p l e R s m args below meth c H locs cells slots Q (F0 m pc ls (vi a :: rest)) := lv_i2l C.1.1 C.1.2.1 hdg (i2l_i ra) kk
theorem m_l2i (C : gCx p s m args meth c cc nL ret nmm own) {a v : Int} (hdg : decode cc pc = .ok (.l2i, 1)) (hv : v = w32 a) (kk : W p l e R s m args below meth c H locs cells slots Q (F0 m (pc + 1) ls (vi v :: rest))) : W p l e R s m args below meth c H locs cells slots Q (F0 m pc ls (vl a :: rest)) := lv_l2i C.1.1 C.1.2.1 hdg (by rw [hv]; exact l2i_i a) kk
theorem m_ladd (C : gCx p s m args meth c cc nL ret nmm own) {a b v : Int} (hdg : decode cc pc = .ok (.ladd, 1)) (hv : v = w64 (a + b)) (kk : W p l e R s m args below meth c H locs cells slots Q (F0 m (pc + 1) ls (vl v :: rest))) : W p l e R s m args below meth c H locs cells slots Q (F0 m pc ls (vl b :: vl a :: rest)) := by
  subst hv
  refine lv_ladd C.1.1 C.1.2.1 hdg ?_
  rw [ad_l]
  exact kk
theorem m_lsub (C : gCx p s m args meth c cc nL ret nmm own) {a b v : Int} (hdg : decode cc pc = .ok (.lsub, 1)) (hv : v = w64 (a - b)) (kk : W p l e R s m args below meth c H locs cells slots Q (F0 m (pc + 1) ls (vl v :: rest))) : W p l e R s m args below meth c H locs cells slots Q (F0 m pc ls (vl b :: vl a :: rest)) := by
  subst hv
  refine lv_lsub C.1.1 C.1.2.1 hdg ?_
  rw [sb_l]
  exact kk
theorem m_lmul (C : gCx p s m args meth c cc nL ret nmm own) {a b v : Int} (hdg : decode cc pc = .ok (.lmul, 1)) (hv : v = w64 (a * b)) (kk : W p l e R s m args below meth c H locs cells slots Q (F0 m (pc + 1) ls (vl v :: rest))) : W p l e R s m args below meth c H locs cells slots Q (F0 m pc ls (vl b :: vl a :: rest)) := by
  subst hv
  refine lv_lmul C.1.1 C.1.2.1 hdg ?_
  rw [ml_l]
  exact kk
theorem m_ldiv (C : gCx p s m args meth c cc nL ret nmm own) {a b v : Int} (ra : R64 a) (rb : R64 b) (h0 : b ≠ 0) (hdg : decode cc pc = .ok (.ldiv, 1)) (hv : v = w64 (a.tdiv b)) (kk : W p l e R s m args below meth c H locs cells slots Q (F0 m (pc + 1) ls (vl v :: rest))) : W p l e R s m args below meth c H locs cells slots Q (F0 m pc ls (vl b :: vl a :: rest)) := by
  subst hv
  refine lv_ldiv C.1.1 C.1.2.1 hdg (l_n0 rb h0) ?_
  rw [dv_l ra rb]
  exact kk
theorem m_lrem (C : gCx p s m args meth c cc nL ret nmm own) {a b v : Int} (rb : R64 b) (h0 : b ≠ 0) (hdg : decode cc pc = .ok (.lrem, 1)) (hv : v = o_lrem a b) (kk : W p l e R s m args below meth c H locs cells slots Q (F0 m (pc + 1) ls (vl v :: rest))) : W p l e R s m args below meth c H locs cells slots Q (F0 m pc ls (vl b :: vl a :: rest)) := by
  subst hv
  unfold vl at kk
  rw [o_lrem, Int64.ofInt_toInt] at kk
  exact lv_lrem C.1.1 C.1.2.1 hdg (l_n0 rb h0) kk
theorem m_dup (C : gCx p s m args meth c cc nL ret nmm own) {v : Value} (hv : v.category = 1) (hdg : decode cc pc = .ok (.dup, 1)) (kk : W p l e R s m args below meth c H locs cells slots Q (F0 m (pc + 1) ls (v :: v :: rest))) : W p l e R s m args below meth c H locs cells slots Q (F0 m pc ls (v :: rest)) := lv_dup C.1.1 C.1.2.1 hdg hv kk
theorem m_dup2 (C : gCx p s m args meth c cc nL ret nmm own) {v w : Value} (hv : v.category = 1) (hw : w.category = 1) (hdg : decode cc pc = .ok (.dup2, 1)) (kk : W p l e R s m args below meth c H locs cells slots Q (F0 m (pc + 1) ls (v :: w :: v :: w :: rest))) : W p l e R s m args below meth c H locs cells slots Q (F0 m pc ls (v :: w :: rest)) := lv_dup2_11 C.1.1 C.1.2.1 hdg hv hw kk
theorem m_dup_x1 (C : gCx p s m args meth c cc nL ret nmm own) {v w : Value} (hv : v.category = 1) (hw : w.category = 1) (hdg : decode cc pc = .ok (.dup_x1, 1)) (kk : W p l e R s m args below meth c H locs cells slots Q (F0 m (pc + 1) ls (v :: w :: v :: rest))) : W p l e R s m args below meth c H locs cells slots Q (F0 m pc ls (v :: w :: rest)) := lv_dup_x1 C.1.1 C.1.2.1 hdg hv hw kk
theorem m_pop (C : gCx p s m args meth c cc nL ret nmm own) {v : Value} (hv : v.category = 1) (hdg : decode cc pc = .ok (.pop, 1)) (kk : W p l e R s m args below meth c H locs cells slots Q (F0 m (pc + 1) ls rest)) : W p l e R s m args below meth c H locs cells slots Q (F0 m pc ls (v :: rest)) := lv_pop C.1.1 C.1.2.1 hdg hv kk
theorem m_goto (C : gCx p s m args meth c cc nL ret nmm own) {off : Int} {tgt : Nat} (hdg : decode cc pc = .ok (.goto off, 3)) (ht : (pc : Int) + off = (tgt : Int)) (k : W p l e R s m args below meth c H locs cells slots Q (F0 m tgt ls rest)) : W p l e R s m args below meth c H locs cells slots Q (F0 m pc ls rest) := lv_goto C.1.1 C.1.2.1 hdg ht k
theorem lg_cmp_i {a b : Int} (ra : R64 a) (rb : R64 b) : lg_cmp (Int64.ofInt a) (Int64.ofInt b) = Int32.ofInt (if a < b then -1 else if a = b then 0 else 1) := by
  unfold lg_cmp
  simp only [l_lt ra rb, l_eq ra rb, l_lt rb ra, gt_iff_lt]
  by_cases h1 : a < b
  · rw [if_neg (by omega), if_neg (by omega), if_pos h1]
    rfl
  · by_cases h2 : a = b
    · simp [h2]
    · rw [if_pos (by omega), if_neg h1, if_neg h2]
      rfl
theorem m_icmp_lt (C : gCx p s m args meth c cc nL ret nmm own) {a b off : Int} {tgt : Nat} (ra : R32 a) (rb : R32 b) (hdg : decode cc pc = .ok (.if_icmp .lt off, 3)) (ht : (pc : Int) + off = (tgt : Int)) (kt : a < b → W p l e R s m args below meth c H locs cells slots Q (F0 m tgt ls rest)) (kf : ¬ (a < b) → W p l e R s m args below meth c H locs cells slots Q (F0 m (pc + 3) ls rest)) : W p l e R s m args below meth c H locs cells slots Q (F0 m pc ls (vi b :: vi a :: rest)) := by
  refine lv_icmp_lt C.1.1 C.1.2.1 hdg ht (fun h => kt ?_) (fun h => kf ?_)
  · simpa only [i_lt ra rb, i_le ra rb, i_lt rb ra, i_le rb ra, i_eq ra rb, i_eq rb ra, ge_iff_le, gt_iff_lt, ne_eq, Classical.not_not] using h
  · simpa only [i_lt ra rb, i_le ra rb, i_lt rb ra, i_le rb ra, i_eq ra rb, i_eq rb ra, ge_iff_le, gt_iff_lt, ne_eq, Classical.not_not] using h
theorem m_if_lt (C : gCx p s m args meth c cc nL ret nmm own) {a off : Int} {tgt : Nat} (ra : R32 a) (hdg : decode cc pc = .ok (.ifCond .lt off, 3)) (ht : (pc : Int) + off = (tgt : Int)) (kt : a < 0 → W p l e R s m args below meth c H locs cells slots Q (F0 m tgt ls rest)) (kf : ¬ (a < 0) → W p l e R s m args below meth c H locs cells slots Q (F0 m (pc + 3) ls rest)) : W p l e R s m args below meth c H locs cells slots Q (F0 m pc ls (vi a :: rest)) := by
  have rb := R32_0
  refine lv_if_lt C.1.1 C.1.2.1 hdg ht (fun h => kt ?_) (fun h => kf ?_)
  · rw [show (0 : Int32) = Int32.ofInt 0 from rfl] at h
    simpa only [i_lt ra rb, i_le ra rb, i_lt rb ra, i_le rb ra, i_eq ra rb, i_eq rb ra, ge_iff_le, gt_iff_lt, ne_eq, Classical.not_not] using h
  · rw [show (0 : Int32) = Int32.ofInt 0 from rfl] at h
    simpa only [i_lt ra rb, i_le ra rb, i_lt rb ra, i_le rb ra, i_eq ra rb, i_eq rb ra, ge_iff_le, gt_iff_lt, ne_eq, Classical.not_not] using h
theorem m_lcmp_lt (C : gCx p s m args meth c cc nL ret nmm own) {a b off : Int} {tgt : Nat} (ra : R64 a) (rb : R64 b) (hd1 : decode cc pc = .ok (.lcmp, 1)) (hdg : decode cc (pc + 1) = .ok (.ifCond .lt off, 3)) (ht : ((pc + 1 : Nat) : Int) + off = (tgt : Int)) (kt : a < b → W p l e R s m args below meth c H locs cells slots Q (F0 m tgt ls rest)) (kf : ¬ (a < b) → W p l e R s m args below meth c H locs cells slots Q (F0 m (pc + 1 + 3) ls rest)) : W p l e R s m args below meth c H locs cells slots Q (F0 m pc ls (vl b :: vl a :: rest)) := by
  refine W.lcmp C.1.1 C.1.2.1 hd1 ?_
  have key : lg_cmp (Int64.ofInt a) (Int64.ofInt b) = Int32.ofInt (if a < b then -1 else if a = b then 0 else 1) := lg_cmp_i ra rb
  rw [key]
  have r3 : R32 (if a < b then -1 else if a = b then 0 else 1) := by unfold R32; split <;> (try split) <;> omega
  refine m_if_lt C r3 hdg ht (fun h => kt ?_) (fun h => kf ?_)
  · revert h
    split <;> (try split) <;> intro h <;> omega
  · revert h
    split <;> (try split) <;> intro h <;> omega
theorem m_icmp_le (C : gCx p s m args meth c cc nL ret nmm own) {a b off : Int} {tgt : Nat} (ra : R32 a) (rb : R32 b) (hdg : decode cc pc = .ok (.if_icmp .le off, 3)) (ht : (pc : Int) + off = (tgt : Int)) (kt : a ≤ b → W p l e R s m args below meth c H locs cells slots Q (F0 m tgt ls rest)) (kf : ¬ (a ≤ b) → W p l e R s m args below meth c H locs cells slots Q (F0 m (pc + 3) ls rest)) : W p l e R s m args below meth c H locs cells slots Q (F0 m pc ls (vi b :: vi a :: rest)) := by
  refine lv_icmp_le C.1.1 C.1.2.1 hdg ht (fun h => kt ?_) (fun h => kf ?_)
  · simpa only [i_lt ra rb, i_le ra rb, i_lt rb ra, i_le rb ra, i_eq ra rb, i_eq rb ra, ge_iff_le, gt_iff_lt, ne_eq, Classical.not_not] using h
  · simpa only [i_lt ra rb, i_le ra rb, i_lt rb ra, i_le rb ra, i_eq ra rb, i_eq rb ra, ge_iff_le, gt_iff_lt, ne_eq, Classical.not_not] using h
theorem m_if_le (C : gCx p s m args meth c cc nL ret nmm own) {a off : Int} {tgt : Nat} (ra : R32 a) (hdg : decode cc pc = .ok (.ifCond .le off, 3)) (ht : (pc : Int) + off = (tgt : Int)) (kt : a ≤ 0 → W p l e R s m args below meth c H locs cells slots Q (F0 m tgt ls rest)) (kf : ¬ (a ≤ 0) → W p l e R s m args below meth c H locs cells slots Q (F0 m (pc + 3) ls rest)) : W p l e R s m args below meth c H locs cells slots Q (F0 m pc ls (vi a :: rest)) := by
  have rb := R32_0
  refine lv_if_le C.1.1 C.1.2.1 hdg ht (fun h => kt ?_) (fun h => kf ?_)
  · rw [show (0 : Int32) = Int32.ofInt 0 from rfl] at h
    simpa only [i_lt ra rb, i_le ra rb, i_lt rb ra, i_le rb ra, i_eq ra rb, i_eq rb ra, ge_iff_le, gt_iff_lt, ne_eq, Classical.not_not] using h
  · rw [show (0 : Int32) = Int32.ofInt 0 from rfl] at h
    simpa only [i_lt ra rb, i_le ra rb, i_lt rb ra, i_le rb ra, i_eq ra rb, i_eq rb ra, ge_iff_le, gt_iff_lt, ne_eq, Classical.not_not] using h
theorem m_lcmp_le (C : gCx p s m args meth c cc nL ret nmm own) {a b off : Int} {tgt : Nat} (ra : R64 a) (rb : R64 b) (hd1 : decode cc pc = .ok (.lcmp, 1)) (hdg : decode cc (pc + 1) = .ok (.ifCond .le off, 3)) (ht : ((pc + 1 : Nat) : Int) + off = (tgt : Int)) (kt : a ≤ b → W p l e R s m args below meth c H locs cells slots Q (F0 m tgt ls rest)) (kf : ¬ (a ≤ b) → W p l e R s m args below meth c H locs cells slots Q (F0 m (pc + 1 + 3) ls rest)) : W p l e R s m args below meth c H locs cells slots Q (F0 m pc ls (vl b :: vl a :: rest)) := by
  refine W.lcmp C.1.1 C.1.2.1 hd1 ?_
  have key : lg_cmp (Int64.ofInt a) (Int64.ofInt b) = Int32.ofInt (if a < b then -1 else if a = b then 0 else 1) := lg_cmp_i ra rb
  rw [key]
  have r3 : R32 (if a < b then -1 else if a = b then 0 else 1) := by unfold R32; split <;> (try split) <;> omega
  refine m_if_le C r3 hdg ht (fun h => kt ?_) (fun h => kf ?_)
  · revert h
    split <;> (try split) <;> intro h <;> omega
  · revert h
    split <;> (try split) <;> intro h <;> omega
theorem m_icmp_gt (C : gCx p s m args meth c cc nL ret nmm own) {a b off : Int} {tgt : Nat} (ra : R32 a) (rb : R32 b) (hdg : decode cc pc = .ok (.if_icmp .gt off, 3)) (ht : (pc : Int) + off = (tgt : Int)) (kt : b < a → W p l e R s m args below meth c H locs cells slots Q (F0 m tgt ls rest)) (kf : ¬ (b < a) → W p l e R s m args below meth c H locs cells slots Q (F0 m (pc + 3) ls rest)) : W p l e R s m args below meth c H locs cells slots Q (F0 m pc ls (vi b :: vi a :: rest)) := by
  refine lv_icmp_gt C.1.1 C.1.2.1 hdg ht (fun h => kt ?_) (fun h => kf ?_)
  · simpa only [i_lt ra rb, i_le ra rb, i_lt rb ra, i_le rb ra, i_eq ra rb, i_eq rb ra, ge_iff_le, gt_iff_lt, ne_eq, Classical.not_not] using h
  · simpa only [i_lt ra rb, i_le ra rb, i_lt rb ra, i_le rb ra, i_eq ra rb, i_eq rb ra, ge_iff_le, gt_iff_lt, ne_eq, Classical.not_not] using h
theorem m_if_gt (C : gCx p s m args meth c cc nL ret nmm own) {a off : Int} {tgt : Nat} (ra : R32 a) (hdg : decode cc pc = .ok (.ifCond .gt off, 3)) (ht : (pc : Int) + off = (tgt : Int)) (kt : 0 < a → W p l e R s m args below meth c H locs cells slots Q (F0 m tgt ls rest)) (kf : ¬ (0 < a) → W p l e R s m args below meth c H locs cells slots Q (F0 m (pc + 3) ls rest)) : W p l e R s m args below meth c H locs cells slots Q (F0 m pc ls (vi a :: rest)) := by
  have rb := R32_0
  refine lv_if_gt C.1.1 C.1.2.1 hdg ht (fun h => kt ?_) (fun h => kf ?_)
  · rw [show (0 : Int32) = Int32.ofInt 0 from rfl] at h
    simpa only [i_lt ra rb, i_le ra rb, i_lt rb ra, i_le rb ra, i_eq ra rb, i_eq rb ra, ge_iff_le, gt_iff_lt, ne_eq, Classical.not_not] using h
  · rw [show (0 : Int32) = Int32.ofInt 0 from rfl] at h
    simpa only [i_lt ra rb, i_le ra rb, i_lt rb ra, i_le rb ra, i_eq ra rb, i_eq rb ra, ge_iff_le, gt_iff_lt, ne_eq, Classical.not_not] using h
theorem m_lcmp_gt (C : gCx p s m args meth c cc nL ret nmm own) {a b off : Int} {tgt : Nat} (ra : R64 a) (rb : R64 b) (hd1 : decode cc pc = .ok (.lcmp, 1)) (hdg : decode cc (pc + 1) = .ok (.ifCond .gt off, 3)) (ht : ((pc + 1 : Nat) : Int) + off = (tgt : Int)) (kt : b < a → W p l e R s m args below meth c H locs cells slots Q (F0 m tgt ls rest)) (kf : ¬ (b < a) → W p l e R s m args below meth c H locs cells slots Q (F0 m (pc + 1 + 3) ls rest)) : W p l e R s m args below meth c H locs cells slots Q (F0 m pc ls (vl b :: vl a :: rest)) := by
  refine W.lcmp C.1.1 C.1.2.1 hd1 ?_
  have key : lg_cmp (Int64.ofInt a) (Int64.ofInt b) = Int32.ofInt (if a < b then -1 else if a = b then 0 else 1) := lg_cmp_i ra rb
  rw [key]
  have r3 : R32 (if a < b then -1 else if a = b then 0 else 1) := by unfold R32; split <;> (try split) <;> omega
  refine m_if_gt C r3 hdg ht (fun h => kt ?_) (fun h => kf ?_)
  · revert h
    split <;> (try split) <;> intro h <;> omega
  · revert h
    split <;> (try split) <;> intro h <;> omega
theorem m_icmp_ge (C : gCx p s m args meth c cc nL ret nmm own) {a b off : Int} {tgt : Nat} (ra : R32 a) (rb : R32 b) (hdg : decode cc pc = .ok (.if_icmp .ge off, 3)) (ht : (pc : Int) + off = (tgt : Int)) (kt : b ≤ a → W p l e R s m args below meth c H locs cells slots Q (F0 m tgt ls rest)) (kf : ¬ (b ≤ a) → W p l e R s m args below meth c H locs cells slots Q (F0 m (pc + 3) ls rest)) : W p l e R s m args below meth c H locs cells slots Q (F0 m pc ls (vi b :: vi a :: rest)) := by
  refine lv_icmp_ge C.1.1 C.1.2.1 hdg ht (fun h => kt ?_) (fun h => kf ?_)
  · simpa only [i_lt ra rb, i_le ra rb, i_lt rb ra, i_le rb ra, i_eq ra rb, i_eq rb ra, ge_iff_le, gt_iff_lt, ne_eq, Classical.not_not] using h
  · simpa only [i_lt ra rb, i_le ra rb, i_lt rb ra, i_le rb ra, i_eq ra rb, i_eq rb ra, ge_iff_le, gt_iff_lt, ne_eq, Classical.not_not] using h
theorem m_if_ge (C : gCx p s m args meth c cc nL ret nmm own) {a off : Int} {tgt : Nat} (ra : R32 a) (hdg : decode cc pc = .ok (.ifCond .ge off, 3)) (ht : (pc : Int) + off = (tgt : Int)) (kt : 0 ≤ a → W p l e R s m args below meth c H locs cells slots Q (F0 m tgt ls rest)) (kf : ¬ (0 ≤ a) → W p l e R s m args below meth c H locs cells slots Q (F0 m (pc + 3) ls rest)) : W p l e R s m args below meth c H locs cells slots Q (F0 m pc ls (vi a :: rest)) := by
  have rb := R32_0
  refine lv_if_ge C.1.1 C.1.2.1 hdg ht (fun h => kt ?_) (fun h => kf ?_)
  · rw [show (0 : Int32) = Int32.ofInt 0 from rfl] at h
    simpa only [i_lt ra rb, i_le ra rb, i_lt rb ra, i_le rb ra, i_eq ra rb, i_eq rb ra, ge_iff_le, gt_iff_lt, ne_eq, Classical.not_not] using h
  · rw [show (0 : Int32) = Int32.ofInt 0 from rfl] at h
    simpa only [i_lt ra rb, i_le ra rb, i_lt rb ra, i_le rb ra, i_eq ra rb, i_eq rb ra, ge_iff_le, gt_iff_lt, ne_eq, Classical.not_not] using h
theorem m_lcmp_ge (C : gCx p s m args meth c cc nL ret nmm own) {a b off : Int} {tgt : Nat} (ra : R64 a) (rb : R64 b) (hd1 : decode cc pc = .ok (.lcmp, 1)) (hdg : decode cc (pc + 1) = .ok (.ifCond .ge off, 3)) (ht : ((pc + 1 : Nat) : Int) + off = (tgt : Int)) (kt : b ≤ a → W p l e R s m args below meth c H locs cells slots Q (F0 m tgt ls rest)) (kf : ¬ (b ≤ a) → W p l e R s m args below meth c H locs cells slots Q (F0 m (pc + 1 + 3) ls rest)) : W p l e R s m args below meth c H locs cells slots Q (F0 m pc ls (vl b :: vl a :: rest)) := by
  refine W.lcmp C.1.1 C.1.2.1 hd1 ?_
  have key : lg_cmp (Int64.ofInt a) (Int64.ofInt b) = Int32.ofInt (if a < b then -1 else if a = b then 0 else 1) := lg_cmp_i ra rb
  rw [key]
  have r3 : R32 (if a < b then -1 else if a = b then 0 else 1) := by unfold R32; split <;> (try split) <;> omega
  refine m_if_ge C r3 hdg ht (fun h => kt ?_) (fun h => kf ?_)
  · revert h
    split <;> (try split) <;> intro h <;> omega
  · revert h
    split <;> (try split) <;> intro h <;> omega
theorem m_icmp_eq (C : gCx p s m args meth c cc nL ret nmm own) {a b off : Int} {tgt : Nat} (ra : R32 a) (rb : R32 b) (hdg : decode cc pc = .ok (.if_icmp .eq off, 3)) (ht : (pc : Int) + off = (tgt : Int)) (kt : a = b → W p l e R s m args below meth c H locs cells slots Q (F0 m tgt ls rest)) (kf : ¬ (a = b) → W p l e R s m args below meth c H locs cells slots Q (F0 m (pc + 3) ls rest)) : W p l e R s m args below meth c H locs cells slots Q (F0 m pc ls (vi b :: vi a :: rest)) := by
  refine lv_icmp_eq C.1.1 C.1.2.1 hdg ht (fun h => kt ?_) (fun h => kf ?_)
  · simpa only [i_lt ra rb, i_le ra rb, i_lt rb ra, i_le rb ra, i_eq ra rb, i_eq rb ra, ge_iff_le, gt_iff_lt, ne_eq, Classical.not_not] using h
  · simpa only [i_lt ra rb, i_le ra rb, i_lt rb ra, i_le rb ra, i_eq ra rb, i_eq rb ra, ge_iff_le, gt_iff_lt, ne_eq, Classical.not_not] using h
theorem m_if_eq (C : gCx p s m args meth c cc nL ret nmm own) {a off : Int} {tgt : Nat} (ra : R32 a) (hdg : decode cc pc = .ok (.ifCond .eq off, 3)) (ht : (pc : Int) + off = (tgt : Int)) (kt : a = 0 → W p l e R s m args below meth c H locs cells slots Q (F0 m tgt ls rest)) (kf : ¬ (a = 0) → W p l e R s m args below meth c H locs cells slots Q (F0 m (pc + 3) ls rest)) : W p l e R s m args below meth c H locs cells slots Q (F0 m pc ls (vi a :: rest)) := by
  have rb := R32_0
  refine lv_if_eq C.1.1 C.1.2.1 hdg ht (fun h => kt ?_) (fun h => kf ?_)
  · rw [show (0 : Int32) = Int32.ofInt 0 from rfl] at h
    simpa only [i_lt ra rb, i_le ra rb, i_lt rb ra, i_le rb ra, i_eq ra rb, i_eq rb ra, ge_iff_le, gt_iff_lt, ne_eq, Classical.not_not] using h
  · rw [show (0 : Int32) = Int32.ofInt 0 from rfl] at h
    simpa only [i_lt ra rb, i_le ra rb, i_lt rb ra, i_le rb ra, i_eq ra rb, i_eq rb ra, ge_iff_le, gt_iff_lt, ne_eq, Classical.not_not] using h
theorem m_lcmp_eq (C : gCx p s m args meth c cc nL ret nmm own) {a b off : Int} {tgt : Nat} (ra : R64 a) (rb : R64 b) (hd1 : decode cc pc = .ok (.lcmp, 1)) (hdg : decode cc (pc + 1) = .ok (.ifCond .eq off, 3)) (ht : ((pc + 1 : Nat) : Int) + off = (tgt : Int)) (kt : a = b → W p l e R s m args below meth c H locs cells slots Q (F0 m tgt ls rest)) (kf : ¬ (a = b) → W p l e R s m args below meth c H locs cells slots Q (F0 m (pc + 1 + 3) ls rest)) : W p l e R s m args below meth c H locs cells slots Q (F0 m pc ls (vl b :: vl a :: rest)) := by
  refine W.lcmp C.1.1 C.1.2.1 hd1 ?_
  have key : lg_cmp (Int64.ofInt a) (Int64.ofInt b) = Int32.ofInt (if a < b then -1 else if a = b then 0 else 1) := lg_cmp_i ra rb
  rw [key]
  have r3 : R32 (if a < b then -1 else if a = b then 0 else 1) := by unfold R32; split <;> (try split) <;> omega
  refine m_if_eq C r3 hdg ht (fun h => kt ?_) (fun h => kf ?_)
  · revert h
    split <;> (try split) <;> intro h <;> omega
  · revert h
    split <;> (try split) <;> intro h <;> omega
theorem m_icmp_ne (C : gCx p s m args meth c cc nL ret nmm own) {a b off : Int} {tgt : Nat} (ra : R32 a) (rb : R32 b) (hdg : decode cc pc = .ok (.if_icmp .ne off, 3)) (ht : (pc : Int) + off = (tgt : Int)) (kt : ¬ a = b → W p l e R s m args below meth c H locs cells slots Q (F0 m tgt ls rest)) (kf : ¬ (¬ a = b) → W p l e R s m args below meth c H locs cells slots Q (F0 m (pc + 3) ls rest)) : W p l e R s m args below meth c H locs cells slots Q (F0 m pc ls (vi b :: vi a :: rest)) := by
  refine lv_icmp_ne C.1.1 C.1.2.1 hdg ht (fun h => kt ?_) (fun h => kf ?_)
  · simpa only [i_lt ra rb, i_le ra rb, i_lt rb ra, i_le rb ra, i_eq ra rb, i_eq rb ra, ge_iff_le, gt_iff_lt, ne_eq, Classical.not_not] using h
  · simpa only [i_lt ra rb, i_le ra rb, i_lt rb ra, i_le rb ra, i_eq ra rb, i_eq rb ra, ge_iff_le, gt_iff_lt, ne_eq, Classical.not_not] using h
theorem m_if_ne (C : gCx p s m args meth c cc nL ret nmm own) {a off : Int} {tgt : Nat} (ra : R32 a) (hdg : decode cc pc = .ok (.ifCond .ne off, 3)) (ht : (pc : Int) + off = (tgt : Int)) (kt : ¬ a = 0 → W p l e R s m args below meth c H locs cells slots Q (F0 m tgt ls rest)) (kf : ¬ (¬ a = 0) → W p l e R s m args below meth c H locs cells slots Q (F0 m (pc + 3) ls rest)) : W p l e R s m args below meth c H locs cells slots Q (F0 m pc ls (vi a :: rest)) := by
  have rb := R32_0
  refine lv_if_ne C.1.1 C.1.2.1 hdg ht (fun h => kt ?_) (fun h => kf ?_)
  · rw [show (0 : Int32) = Int32.ofInt 0 from rfl] at h
    simpa only [i_lt ra rb, i_le ra rb, i_lt rb ra, i_le rb ra, i_eq ra rb, i_eq rb ra, ge_iff_le, gt_iff_lt, ne_eq, Classical.not_not] using h
  · rw [show (0 : Int32) = Int32.ofInt 0 from rfl] at h
    simpa only [i_lt ra rb, i_le ra rb, i_lt rb ra, i_le rb ra, i_eq ra rb, i_eq rb ra, ge_iff_le, gt_iff_lt, ne_eq, Classical.not_not] using h
theorem m_lcmp_ne (C : gCx p s m args meth c cc nL ret nmm own) {a b off : Int} {tgt : Nat} (ra : R64 a) (rb : R64 b) (hd1 : decode cc pc = .ok (.lcmp, 1)) (hdg : decode cc (pc + 1) = .ok (.ifCond .ne off, 3)) (ht : ((pc + 1 : Nat) : Int) + off = (tgt : Int)) (kt : ¬ a = b → W p l e R s m args below meth c H locs cells slots Q (F0 m tgt ls rest)) (kf : ¬ (¬ a = b) → W p l e R s m args below meth c H locs cells slots Q (F0 m (pc + 1 + 3) ls rest)) : W p l e R s m args below meth c H locs cells slots Q (F0 m pc ls (vl b :: vl a :: rest)) := by
  refine W.lcmp C.1.1 C.1.2.1 hd1 ?_
  have key : lg_cmp (Int64.ofInt a) (Int64.ofInt b) = Int32.ofInt (if a < b then -1 else if a = b then 0 else 1) := lg_cmp_i ra rb
  rw [key]
  have r3 : R32 (if a < b then -1 else if a = b then 0 else 1) := by unfold R32; split <;> (try split) <;> omega
  refine m_if_ne C r3 hdg ht (fun h => kt ?_) (fun h => kf ?_)
  · revert h
    split <;> (try split) <;> intro h <;> omega
  · revert h
    split <;> (try split) <;> intro h <;> omega
end ROWS
