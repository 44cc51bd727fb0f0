section G07
variable {p : Program} {l : Launch} {e : Env} {R : Room} {s : State} {m : MethodId} {args : Array Value} {below : List Frame} {meth : Method} {c : Code} {E : gE}
/-! X7_runOrders -/
def f_X7_runOrders (N : Nat) (x0 : Int) (μ : Mm) : Rs :=
  ck (μ x0 (-2) = 9) <|
  ck (μ (μ x0 4) (-2) = 5) <|
  bd (f_X3_findFault N (μ x0 4) μ) fun a3 μ4 =>
  if a3 = ((-1)) then
    (ck (μ4 x0 (-2) = 9) <|
     ck (μ4 x0 (-2) = 9) <|
     ck (μ4 (μ4 x0 1) (-2) = 3) <|
     bd (f_X1_prepare N (μ4 x0 1) (μ4 x0 0) μ4) fun a9 μ10 =>
     ck (μ10 x0 (-2) = 9) <|
     bd (f_X7_carryOutOrders N x0 μ10) fun a12 μ13 =>
     ck (μ13 x0 (-2) = 9) <|
     bd (f_X7_finishAct N x0 a12 μ13) fun a15 μ16 =>
     some (a15, μ16))
  else
  nm (w32 (((-100)) - a3)) fun a17 =>
  some (a17, μ4)
set_option maxHeartbeats 4000000 in
set_option maxRecDepth 100000 in
theorem c_X7_runOrders (l : Launch) (E : gE) (N : Nat) (x0 : Int) (μ μ' : Mm) (r : Int) (h : f_X7_runOrders N x0 μ = some (r, μ')) : gMet l E yX7_runOrders cX7_runOrders 2 (some .int) 8 176 [vr E x0] (some (vi r)) (R32 r) μ μ' 0 0 := by
  refine g_ofW [1] (by first | (simp only [List.map_cons, List.map_nil, vr_cat]; done) | (simp only [List.map_cons, List.map_nil, vr_cat]; rfl)) (by decide) (by decide) (fun p e s m below meth c ls C hM hl => ?_)
  replace C : gCx p s m _ meth c cX7_runOrders 2 (some .int) "runOrders" RX7 := C
  replace hl : lv_has ls 2 [(0, vr E x0)] := hl
  unfold f_X7_runOrders at h
  refine m_aload_n (pc := 0) C dX7_runOrders_0 rfl (lv_at hl 0 rfl) ?_
  obtain ⟨q1, h⟩ := ck_some h
  refine G_X7_orders (pc := 1) C hM bw_2_67 q1 dX7_runOrders_1 ?_
  obtain ⟨q2, h⟩ := ck_some h
  obtain ⟨a3, μ4, ca3, h⟩ := bd_some h
  refine V_X3_findFault (pc := 4) C hM ca3 q2 bw_4_158 ⟨Nat.le_of_ble_eq_true rfl, Nat.le_of_ble_eq_true rfl⟩ hl.1 rc0 ⟨Nat.le_refl _, Nat.le_refl _⟩ dX7_runOrders_4 (fun ra3 H locs hM => ?_)
  refine m_istore_n (pc := 7) C dX7_runOrders_7 rfl hl (by decide) (lvK2 0 rfl (Nat.ne_of_beq_eq_false rfl) (vr_cat _ _) lvK0) (fun ls hl => ?_)
  refine m_iload_n (pc := 8) C dX7_runOrders_8 rfl (lv_at hl 0 rfl) ?_
  refine m_iconst (pc := 9) C dX7_runOrders_9 ?_
  refine m_icmp_eq (tgt := 18) (pc := 10) C ra3 rk_m1 dX7_runOrders_10 (by decide) (fun c5 => ?_) (fun c5 => ?_)
  · have h := if_t h c5
    refine m_aload_n (pc := 18) C dX7_runOrders_18 rfl (lv_at hl 1 rfl) ?_
    obtain ⟨q6, h⟩ := ck_some h
    refine G_X7_history (pc := 19) C hM bw_2_64 q6 dX7_runOrders_19 ?_
    refine m_aload_n (pc := 22) C dX7_runOrders_22 rfl (lv_at hl 1 rfl) ?_
    obtain ⟨q7, h⟩ := ck_some h
    refine G_X7_now (pc := 23) C hM bw_2_63 q7 dX7_runOrders_23 ?_
    obtain ⟨q8, h⟩ := ck_some h
    obtain ⟨a9, μ10, ca9, h⟩ := bd_some h
    refine V_X1_prepare (pc := 26) C hM ca9 q8 bw_2_94 ⟨Nat.le_of_ble_eq_true rfl, Nat.le_of_ble_eq_true rfl⟩ hl.1 rc0 ⟨Nat.le_refl _, Nat.le_refl _⟩ dX7_runOrders_26 (fun _ H locs hM => ?_)
    refine m_aload_n (pc := 29) C dX7_runOrders_29 rfl (lv_at hl 1 rfl) ?_
    refine m_aload_n (pc := 30) C dX7_runOrders_30 rfl (lv_at hl 1 rfl) ?_
    obtain ⟨q11, h⟩ := ck_some h
    obtain ⟨a12, μ13, ca12, h⟩ := bd_some h
    refine V_X7_carryOutOrders (pc := 31) C hM ca12 q11 bw_5_7 ⟨Nat.le_of_ble_eq_true rfl, Nat.le_of_ble_eq_true rfl⟩ hl.1 (rcR rc0) ⟨Nat.le_refl _, Nat.le_refl _⟩ dX7_runOrders_31 (fun ra12 H locs hM => ?_)
    obtain ⟨q14, h⟩ := ck_some h
    obtain ⟨a15, μ16, ca15, h⟩ := bd_some h
    refine V_X7_finishAct (pc := 34) C hM ca15 ra12 q14 bw_2_121 ⟨Nat.le_of_ble_eq_true rfl, Nat.le_of_ble_eq_true rfl⟩ hl.1 rc0 ⟨Nat.le_refl _, Nat.le_refl _⟩ dX7_runOrders_34 (fun ra15 H locs hM => ?_)
    cases h
    exact m_iret (pc := 37) C hM ra15 dX7_runOrders_37
  · have h := if_f h c5
    refine m_bipush (pc := 13) C dX7_runOrders_13 rfl ?_
    refine m_iload_n (pc := 15) C dX7_runOrders_15 rfl (lv_at hl 0 rfl) ?_
    obtain ⟨a17, ea17, h⟩ := nm_some h
    have ra17 : R32 a17 := by rw [ea17]; exact w32_R _
    refine m_isub (pc := 16) C dX7_runOrders_16 ea17 ?_
    cases h
    exact m_iret (pc := 17) C hM ra17 dX7_runOrders_17
theorem hd_X7_runOrders : yX7_runOrders.cls ≠ "java/lang/invoke/MethodHandle" ∧ yX7_runOrders.cls ≠ "java/lang/invoke/VarHandle" ∧ (parseMethodDescriptor yX7_runOrders.desc).map (fun d => d.parameters.length) = some 0 := by decide +kernel

theorem V_X7_runOrders {p : Program} {l : Launch} {e : Env} {R : Room} {s : State} {m : MethodId} {args : Array Value} {below : List Frame} {meth : Method} {c : Code} {H : Heap} {locs : List Loc} {cells slots : Nat} {Q : State → Prop} {cc : ByteArray} {pc nL : Nat} {ls : Array Slot} {rest : List Value} {ret : Option FieldType} {nmm own : String} {E : gE} {μ μ1 : Mm} {index : Nat} (C : gCx p s m args meth c cc nL ret nmm own) (hM : MS E μ s H locs) {N : Nat} {x0 v : Int} (hc : f_X7_runOrders N x0 μ = some (v, μ1)) (hck : μ x0 (-2) = 9) (h1 : Cond.methodLink own index yX7_runOrders ∈ bigL) (hR : 9 ≤ R.frames ∧ 197 ≤ R.locals) (hl : ls.size = nL) (hcat : RC rest 8) (hf : cells + 0 ≤ R.cells ∧ slots + 0 ≤ R.slots) (hdg : decode cc pc = .ok (.invokevirtual index, 3)) (kk : (R32 v) → ∀ (H1 : Heap) (locs1 : List Loc), MS E μ1 s H1 locs1 → W p l e R s m args below meth c H1 locs1 (cells + 0) (slots + 0) Q (F0 m (pc + 3) ls (vi v :: rest))) : W p l e R s m args below meth c H locs cells slots Q (F0 m pc ls (vr E x0 :: rest)) := g_callV C KF_X7 hM (c_X7_runOrders l E N x0 μ μ1 v hc) hck (gV h1 bw_4_155 bw_4_156 bw_1_1 bw_4_157) ⟨rfl, hd_X7_runOrders⟩ hR rfl hl rfl hcat hf hdg kk
/-! X7_undo -/
def f_X7_undo (N : Nat) (x0 : Int) (μ : Mm) : Rs :=
  ck (μ x0 (-2) = 9) <|
  ck (μ x0 (-2) = 9) <|
  ck (μ (μ x0 1) (-2) = 3) <|
  bd (f_X1_takeBack N (μ x0 1) (μ x0 0) μ) fun a4 μ5 =>
  if a4 = 0 then
    (some ((-100000005), μ5))
  else
  ck (μ5 x0 (-2) = 9) <|
  ck (μ5 (μ5 x0 1) (-2) = 3) <|
  some (μ5 (μ5 x0 1) 2, μ5)
set_option maxHeartbeats 4000000 in
set_option maxRecDepth 100000 in
theorem c_X7_undo (l : Launch) (E : gE) (N : Nat) (x0 : Int) (μ μ' : Mm) (r : Int) (h : f_X7_undo N x0 μ = some (r, μ')) : gMet l E yX7_undo cX7_undo 1 (some .int) 4 104 [vr E x0] (some (vi r)) (R32 r) μ μ' 0 0 := by
  refine g_ofW [1] (by first | (simp only [List.map_cons, List.map_nil, vr_cat]; done) | (simp only [List.map_cons, List.map_nil, vr_cat]; rfl)) (by decide) (by decide) (fun p e s m below meth c ls C hM hl => ?_)
  replace C : gCx p s m _ meth c cX7_undo 1 (some .int) "undo" RX7 := C
  replace hl : lv_has ls 1 [(0, vr E x0)] := hl
  unfold f_X7_undo at h
  refine m_aload_n (pc := 0) C dX7_undo_0 rfl (lv_at hl 0 rfl) ?_
  obtain ⟨q1, h⟩ := ck_some h
  refine G_X7_history (pc := 1) C hM bw_2_64 q1 dX7_undo_1 ?_
  refine m_aload_n (pc := 4) C dX7_undo_4 rfl (lv_at hl 0 rfl) ?_
  obtain ⟨q2, h⟩ := ck_some h
  refine G_X7_now (pc := 5) C hM bw_2_63 q2 dX7_undo_5 ?_
  obtain ⟨q3, h⟩ := ck_some h
  obtain ⟨a4, μ5, ca4, h⟩ := bd_some h
  refine V_X1_takeBack (pc := 8) C hM ca4 q3 bw_2_212 ⟨Nat.le_of_ble_eq_true rfl, Nat.le_of_ble_eq_true rfl⟩ hl.1 rc0 ⟨Nat.le_refl _, Nat.le_refl _⟩ dX7_undo_8 (fun ra4 H locs hM => ?_)
  refine m_if_eq (tgt := 24) (pc := 11) C ra4 dX7_undo_11 (by decide) (fun c6 => ?_) (fun c6 => ?_)
  · have h := if_t h c6
    refine m_ldc (n := -100000005) (pc := 24) C bw_2_216 rfl dX7_undo_24 ?_
    cases h
    exact m_iret (pc := 26) C hM rk_m100000005 dX7_undo_26
  · have h := if_f h c6
    refine m_aload_n (pc := 14) C dX7_undo_14 rfl (lv_at hl 0 rfl) ?_
    obtain ⟨q7, h⟩ := ck_some h
    refine G_X7_history (pc := 15) C hM bw_2_64 q7 dX7_undo_15 ?_
    obtain ⟨q8, h⟩ := ck_some h
    have gq8 := Gr_X1_size hM q8
    refine G_X1_size (pc := 18) C hM bw_1_236 q8 dX7_undo_18 ?_
    refine m_goto (tgt := 26) (pc := 21) C dX7_undo_21 (by decide) ?_
    cases h
    exact m_iret (pc := 26) C hM gq8 dX7_undo_26
theorem hd_X7_undo : yX7_undo.cls ≠ "java/lang/invoke/MethodHandle" ∧ yX7_undo.cls ≠ "java/lang/invoke/VarHandle" ∧ (parseMethodDescriptor yX7_undo.desc).map (fun d => d.parameters.length) = some 0 := by decide +kernel

theorem V_X7_undo {p : Program} {l : Launch} {e : Env} {R : Room} {s : State} {m : MethodId} {args : Array Value} {below : List Frame} {meth : Method} {c : Code} {H : Heap} {locs : List Loc} {cells slots : Nat} {Q : State → Prop} {cc : ByteArray} {pc nL : Nat} {ls : Array Slot} {rest : List Value} {ret : Option FieldType} {nmm own : String} {E : gE} {μ μ1 : Mm} {index : Nat} (C : gCx p s m args meth c cc nL ret nmm own) (hM : MS E μ s H locs) {N : Nat} {x0 v : Int} (hc : f_X7_undo N x0 μ = some (v, μ1)) (hck : μ x0 (-2) = 9) (h1 : Cond.methodLink own index yX7_undo ∈ bigL) (hR : 5 ≤ R.frames ∧ 124 ≤ R.locals) (hl : ls.size = nL) (hcat : RC rest 8) (hf : cells + 0 ≤ R.cells ∧ slots + 0 ≤ R.slots) (hdg : decode cc pc = .ok (.invokevirtual index, 3)) (kk : (R32 v) → ∀ (H1 : Heap) (locs1 : List Loc), MS E μ1 s H1 locs1 → W p l e R s m args below meth c H1 locs1 (cells + 0) (slots + 0) Q (F0 m (pc + 3) ls (vi v :: rest))) : W p l e R s m args below meth c H locs cells slots Q (F0 m pc ls (vr E x0 :: rest)) := g_callV C KF_X7 hM (c_X7_undo l E N x0 μ μ1 v hc) hck (gV h1 bw_2_209 bw_2_210 bw_1_1 bw_2_211) ⟨rfl, hd_X7_undo⟩ hR rfl hl rfl hcat hf hdg kk
/-! X7_keep -/
def f_X7_keep (N : Nat) (x0 x1 : Int) (μ : Mm) : Rs :=
  bd (f_X7_outside N x1 0 1 μ) fun a1 μ2 =>
  if a1 = 0 then
    (ck (μ2 x0 (-2) = 9) <|
     ck (μ2 (μ2 x0 2) (-2) = 26 ∧ (0 : Int) ≤ x1 ∧ x1 < μ2 (μ2 x0 2) (-1)) <|
     ck (μ2 x0 (-2) = 9) <|
     ck (μ2 (μ2 (μ2 x0 2) x1) (-2) = 8) <|
     bd (f_X6_copyFrom N (μ2 (μ2 x0 2) x1) (μ2 x0 0) μ2) fun a8 μ9 =>
     ck (μ9 x0 (-2) = 9) <|
     ck (μ9 (μ9 x0 3) (-2) = 25 ∧ (0 : Int) ≤ x1 ∧ x1 < μ9 (μ9 x0 3) (-1) ∧ (0 : Int) ≤ 1 ∧ 1 ≤ (1 : Int)) <|
     nm (mset μ9 (μ9 x0 3) x1 1) fun μ12 =>
     ck (μ12 x0 (-2) = 9) <|
     ck (μ12 (μ12 x0 0) (-2) = 8) <|
     some (μ12 (μ12 x0 0) 5, μ12))
  else
  some ((-100000001), μ2)
set_option maxHeartbeats 4000000 in
set_option maxRecDepth 100000 in
theorem c_X7_keep (l : Launch) (E : gE) (N : Nat) (x0 x1 : Int) (μ μ' : Mm) (r : Int) (h : f_X7_keep N x0 x1 μ = some (r, μ')) (rx1 : R32 x1) : gMet l E yX7_keep cX7_keep 2 (some .int) 3 83 [vr E x0, vi x1] (some (vi r)) (R32 r) μ μ' 0 0 := by
  refine g_ofW [1, 1] (by first | (simp only [List.map_cons, List.map_nil, vr_cat]; done) | (simp only [List.map_cons, List.map_nil, vr_cat]; rfl)) (by decide) (by decide) (fun p e s m below meth c ls C hM hl => ?_)
  replace C : gCx p s m _ meth c cX7_keep 2 (some .int) "keep" RX7 := C
  replace hl : lv_has ls 2 [(0, vr E x0), (1, vi x1)] := hl
  unfold f_X7_keep at h
  refine m_iload_n (pc := 0) C dX7_keep_0 rfl (lv_at hl 1 rfl) ?_
  refine m_iconst (pc := 1) C dX7_keep_1 ?_
  refine m_iconst (pc := 2) C dX7_keep_2 ?_
  obtain ⟨a1, μ2, ca1, h⟩ := bd_some h
  refine V_X7_outside (pc := 3) C hM ca1 rx1 rk_0 rk_1 bw_2_89 ⟨Nat.le_of_ble_eq_true rfl, Nat.le_of_ble_eq_true rfl⟩ hl.1 rc0 ⟨Nat.le_refl _, Nat.le_refl _⟩ dX7_keep_3 (fun ra1 H locs hM => ?_)
  refine m_if_eq (tgt := 12) (pc := 6) C ra1 dX7_keep_6 (by decide) (fun c3 => ?_) (fun c3 => ?_)
  · have h := if_t h c3
    refine m_aload_n (pc := 12) C dX7_keep_12 rfl (lv_at hl 0 rfl) ?_
    obtain ⟨q4, h⟩ := ck_some h
    refine G_X7_slots (pc := 13) C hM bw_2_65 q4 dX7_keep_13 ?_
    refine m_iload_n (pc := 16) C dX7_keep_16 rfl (lv_at hl 1 rfl) ?_
    obtain ⟨q5, h⟩ := ck_some h
    refine m_aald (pc := 17) C hM q5.1 (by decide) (by decide) q5.2.1 q5.2.2 dX7_keep_17 ?_
    refine m_aload_n (pc := 18) C dX7_keep_18 rfl (lv_at hl 0 rfl) ?_
    obtain ⟨q6, h⟩ := ck_some h
    refine G_X7_now (pc := 19) C hM bw_2_63 q6 dX7_keep_19 ?_
    obtain ⟨q7, h⟩ := ck_some h
    obtain ⟨a8, μ9, ca8, h⟩ := bd_some h
    refine V_X6_copyFrom (pc := 22) C hM ca8 q7 bw_2_221 ⟨Nat.le_of_ble_eq_true rfl, Nat.le_of_ble_eq_true rfl⟩ hl.1 rc0 ⟨Nat.le_refl _, Nat.le_refl _⟩ dX7_keep_22 (fun _ H locs hM => ?_)
    refine m_aload_n (pc := 25) C dX7_keep_25 rfl (lv_at hl 0 rfl) ?_
    obtain ⟨q10, h⟩ := ck_some h
    refine G_X7_filled (pc := 26) C hM bw_2_66 q10 dX7_keep_26 ?_
    refine m_iload_n (pc := 29) C dX7_keep_29 rfl (lv_at hl 1 rfl) ?_
    refine m_iconst (pc := 30) C dX7_keep_30 ?_
    obtain ⟨q11, h⟩ := ck_some h
    obtain ⟨μ12, eμ12, h⟩ := nm_some h
    refine m_zast (pc := 31) C hM q11.1 q11.2.1  q11.2.2.1 q11.2.2.2.1 q11.2.2.2.2 eμ12 dX7_keep_31 (fun H locs hM => ?_)
    refine m_aload_n (pc := 32) C dX7_keep_32 rfl (lv_at hl 0 rfl) ?_
    obtain ⟨q13, h⟩ := ck_some h
    refine G_X7_now (pc := 33) C hM bw_2_63 q13 dX7_keep_33 ?_
    obtain ⟨q14, h⟩ := ck_some h
    have gq14 := Gr_X6_lotCount hM q14
    refine G_X6_lotCount (pc := 36) C hM bw_1_190 q14 dX7_keep_36 ?_
    cases h
    exact m_iret (pc := 39) C hM gq14 dX7_keep_39
  · have h := if_f h c3
    refine m_ldc (n := -100000001) (pc := 9) C bw_2_92 rfl dX7_keep_9 ?_
    cases h
    exact m_iret (pc := 11) C hM rk_m100000001 dX7_keep_11
theorem hd_X7_keep : yX7_keep.cls ≠ "java/lang/invoke/MethodHandle" ∧ yX7_keep.cls ≠ "java/lang/invoke/VarHandle" ∧ (parseMethodDescriptor yX7_keep.desc).map (fun d => d.parameters.length) = some 1 := by decide +kernel

theorem V_X7_keep {p : Program} {l : Launch} {e : Env} {R : Room} {s : State} {m : MethodId} {args : Array Value} {below : List Frame} {meth : Method} {c : Code} {H : Heap} {locs : List Loc} {cells slots : Nat} {Q : State → Prop} {cc : ByteArray} {pc nL : Nat} {ls : Array Slot} {rest : List Value} {ret : Option FieldType} {nmm own : String} {E : gE} {μ μ1 : Mm} {index : Nat} (C : gCx p s m args meth c cc nL ret nmm own) (hM : MS E μ s H locs) {N : Nat} {x0 x1 v : Int} (hc : f_X7_keep N x0 x1 μ = some (v, μ1)) (rx1 : R32 x1) (hck : μ x0 (-2) = 9) (h1 : Cond.methodLink own index yX7_keep ∈ bigL) (hR : 4 ≤ R.frames ∧ 104 ≤ R.locals) (hl : ls.size = nL) (hcat : RC rest 8) (hf : cells + 0 ≤ R.cells ∧ slots + 0 ≤ R.slots) (hdg : decode cc pc = .ok (.invokevirtual index, 3)) (kk : (R32 v) → ∀ (H1 : Heap) (locs1 : List Loc), MS E μ1 s H1 locs1 → W p l e R s m args below meth c H1 locs1 (cells + 0) (slots + 0) Q (F0 m (pc + 3) ls (vi v :: rest))) : W p l e R s m args below meth c H locs cells slots Q (F0 m pc ls (vi x1 :: vr E x0 :: rest)) := g_callV C KF_X7 hM (c_X7_keep l E N x0 x1 μ μ1 v hc rx1) hck (gV h1 bw_2_218 bw_2_219 bw_1_1 bw_2_220) ⟨rfl, hd_X7_keep⟩ hR rfl hl rfl hcat hf hdg kk
/-! X7_restore -/
def f_X7_restore (N : Nat) (x0 x1 : Int) (μ : Mm) : Rs :=
  bd (f_X7_outside N x1 0 1 μ) fun a1 μ2 =>
  if a1 = 0 then
    (ck (μ2 x0 (-2) = 9) <|
     ck (μ2 (μ2 x0 3) (-2) = 25 ∧ (0 : Int) ≤ x1 ∧ x1 < μ2 (μ2 x0 3) (-1)) <|
     if ¬ (μ2 (μ2 x0 3) x1) = 0 then
       (ck (μ2 x0 (-2) = 9) <|
        ck (μ2 x0 (-2) = 9) <|
        ck (μ2 (μ2 x0 1) (-2) = 3) <|
        bd (f_X1_prepare N (μ2 x0 1) (μ2 x0 0) μ2) fun a10 μ11 =>
        ck (μ11 x0 (-2) = 9) <|
        ck (μ11 x0 (-2) = 9) <|
        ck (μ11 (μ11 x0 2) (-2) = 26 ∧ (0 : Int) ≤ x1 ∧ x1 < μ11 (μ11 x0 2) (-1)) <|
        ck (μ11 (μ11 x0 0) (-2) = 8) <|
        bd (f_X6_copyFrom N (μ11 x0 0) (μ11 (μ11 x0 2) x1) μ11) fun a16 μ17 =>
        ck (μ17 x0 (-2) = 9) <|
        ck (μ17 (μ17 x0 0) (-2) = 8) <|
        ck (μ17 x0 (-2) = 9) <|
        bd (f_X7_finishAct N x0 (μ17 (μ17 x0 0) 5) μ17) fun a21 μ22 =>
        some (a21, μ22))
     else
     some ((-100000005), μ2))
  else
  some ((-100000001), μ2)
set_option maxHeartbeats 4000000 in
set_option maxRecDepth 100000 in
theorem c_X7_restore (l : Launch) (E : gE) (N : Nat) (x0 x1 : Int) (μ μ' : Mm) (r : Int) (h : f_X7_restore N x0 x1 μ = some (r, μ')) (rx1 : R32 x1) : gMet l E yX7_restore cX7_restore 2 (some .int) 4 104 [vr E x0, vi x1] (some (vi r)) (R32 r) μ μ' 0 0 := by
  refine g_ofW [1, 1] (by first | (simp only [List.map_cons, List.map_nil, vr_cat]; done) | (simp only [List.map_cons, List.map_nil, vr_cat]; rfl)) (by decide) (by decide) (fun p e s m below meth c ls C hM hl => ?_)
  replace C : gCx p s m _ meth c cX7_restore 2 (some .int) "restore" RX7 := C
  replace hl : lv_has ls 2 [(0, vr E x0), (1, vi x1)] := hl
  unfold f_X7_restore at h
  refine m_iload_n (pc := 0) C dX7_restore_0 rfl (lv_at hl 1 rfl) ?_
  refine m_iconst (pc := 1) C dX7_restore_1 ?_
  refine m_iconst (pc := 2) C dX7_restore_2 ?_
  obtain ⟨a1, μ2, ca1, h⟩ := bd_some h
  refine V_X7_outside (pc := 3) C hM ca1 rx1 rk_0 rk_1 bw_2_89 ⟨Nat.le_of_ble_eq_true rfl, Nat.le_of_ble_eq_true rfl⟩ hl.1 rc0 ⟨Nat.le_refl _, Nat.le_refl _⟩ dX7_restore_3 (fun ra1 H locs hM => ?_)
  refine m_if_eq (tgt := 12) (pc := 6) C ra1 dX7_restore_6 (by decide) (fun c3 => ?_) (fun c3 => ?_)
  · have h := if_t h c3
    refine m_aload_n (pc := 12) C dX7_restore_12 rfl (lv_at hl 0 rfl) ?_
    obtain ⟨q4, h⟩ := ck_some h
    refine G_X7_filled (pc := 13) C hM bw_2_66 q4 dX7_restore_13 ?_
    refine m_iload_n (pc := 16) C dX7_restore_16 rfl (lv_at hl 1 rfl) ?_
    obtain ⟨q5, h⟩ := ck_some h
    have gq5 := Ar_zald hM q5.1 q5.2.1 q5.2.2
    refine m_zald (pc := 17) C hM q5.1 q5.2.1 q5.2.2 dX7_restore_17 ?_
    refine m_if_ne (tgt := 24) (pc := 18) C gq5 dX7_restore_18 (by decide) (fun c6 => ?_) (fun c6 => ?_)
    · have h := if_t h c6
      refine m_aload_n (pc := 24) C dX7_restore_24 rfl (lv_at hl 0 rfl) ?_
      obtain ⟨q7, h⟩ := ck_some h
      refine G_X7_history (pc := 25) C hM bw_2_64 q7 dX7_restore_25 ?_
      refine m_aload_n (pc := 28) C dX7_restore_28 rfl (lv_at hl 0 rfl) ?_
      obtain ⟨q8, h⟩ := ck_some h
      refine G_X7_now (pc := 29) C hM bw_2_63 q8 dX7_restore_29 ?_
      obtain ⟨q9, h⟩ := ck_some h
      obtain ⟨a10, μ11, ca10, h⟩ := bd_some h
      refine V_X1_prepare (pc := 32) C hM ca10 q9 bw_2_94 ⟨Nat.le_of_ble_eq_true rfl, Nat.le_of_ble_eq_true rfl⟩ hl.1 rc0 ⟨Nat.le_refl _, Nat.le_refl _⟩ dX7_restore_32 (fun _ H locs hM => ?_)
      refine m_aload_n (pc := 35) C dX7_restore_35 rfl (lv_at hl 0 rfl) ?_
      obtain ⟨q12, h⟩ := ck_some h
      refine G_X7_now (pc := 36) C hM bw_2_63 q12 dX7_restore_36 ?_
      refine m_aload_n (pc := 39) C dX7_restore_39 rfl (lv_at hl 0 rfl) ?_
      obtain ⟨q13, h⟩ := ck_some h
      refine G_X7_slots (pc := 40) C hM bw_2_65 q13 dX7_restore_40 ?_
      refine m_iload_n (pc := 43) C dX7_restore_43 rfl (lv_at hl 1 rfl) ?_
      obtain ⟨q14, h⟩ := ck_some h
      refine m_aald (pc := 44) C hM q14.1 (by decide) (by decide) q14.2.1 q14.2.2 dX7_restore_44 ?_
      obtain ⟨q15, h⟩ := ck_some h
      obtain ⟨a16, μ17, ca16, h⟩ := bd_some h
      refine V_X6_copyFrom (pc := 45) C hM ca16 q15 bw_2_221 ⟨Nat.le_of_ble_eq_true rfl, Nat.le_of_ble_eq_true rfl⟩ hl.1 rc0 ⟨Nat.le_refl _, Nat.le_refl _⟩ dX7_restore_45 (fun _ H locs hM => ?_)
      refine m_aload_n (pc := 48) C dX7_restore_48 rfl (lv_at hl 0 rfl) ?_
      refine m_aload_n (pc := 49) C dX7_restore_49 rfl (lv_at hl 0 rfl) ?_
      obtain ⟨q18, h⟩ := ck_some h
      refine G_X7_now (pc := 50) C hM bw_2_63 q18 dX7_restore_50 ?_
      obtain ⟨q19, h⟩ := ck_some h
      have gq19 := Gr_X6_lotCount hM q19
      refine G_X6_lotCount (pc := 53) C hM bw_1_190 q19 dX7_restore_53 ?_
      obtain ⟨q20, h⟩ := ck_some h
      obtain ⟨a21, μ22, ca21, h⟩ := bd_some h
      refine V_X7_finishAct (pc := 56) C hM ca21 gq19 q20 bw_2_121 ⟨Nat.le_of_ble_eq_true rfl, Nat.le_of_ble_eq_true rfl⟩ hl.1 rc0 ⟨Nat.le_refl _, Nat.le_refl _⟩ dX7_restore_56 (fun ra21 H locs hM => ?_)
      cases h
      exact m_iret (pc := 59) C hM ra21 dX7_restore_59
    · have h := if_f h c6
      refine m_ldc (n := -100000005) (pc := 21) C bw_2_216 rfl dX7_restore_21 ?_
      cases h
      exact m_iret (pc := 23) C hM rk_m100000005 dX7_restore_23
  · have h := if_f h c3
    refine m_ldc (n := -100000001) (pc := 9) C bw_2_92 rfl dX7_restore_9 ?_
    cases h
    exact m_iret (pc := 11) C hM rk_m100000001 dX7_restore_11
theorem hd_X7_restore : yX7_restore.cls ≠ "java/lang/invoke/MethodHandle" ∧ yX7_restore.cls ≠ "java/lang/invoke/VarHandle" ∧ (parseMethodDescriptor yX7_restore.desc).map (fun d => d.parameters.length) = some 1 := by decide +kernel

theorem V_X7_restore {p : Program} {l : Launch} {e : Env} {R : Room} {s : State} {m : MethodId} {args : Array Value} {below : List Frame} {meth : Method} {c : Code} {H : Heap} {locs : List Loc} {cells slots : Nat} {Q : State → Prop} {cc : ByteArray} {pc nL : Nat} {ls : Array Slot} {rest : List Value} {ret : Option FieldType} {nmm own : String} {E : gE} {μ μ1 : Mm} {index : Nat} (C : gCx p s m args meth c cc nL ret nmm own) (hM : MS E μ s H locs) {N : Nat} {x0 x1 v : Int} (hc : f_X7_restore N x0 x1 μ = some (v, μ1)) (rx1 : R32 x1) (hck : μ x0 (-2) = 9) (h1 : Cond.methodLink own index yX7_restore ∈ bigL) (hR : 5 ≤ R.frames ∧ 125 ≤ R.locals) (hl : ls.size = nL) (hcat : RC rest 8) (hf : cells + 0 ≤ R.cells ∧ slots + 0 ≤ R.slots) (hdg : decode cc pc = .ok (.invokevirtual index, 3)) (kk : (R32 v) → ∀ (H1 : Heap) (locs1 : List Loc), MS E μ1 s H1 locs1 → W p l e R s m args below meth c H1 locs1 (cells + 0) (slots + 0) Q (F0 m (pc + 3) ls (vi v :: rest))) : W p l e R s m args below meth c H locs cells slots Q (F0 m pc ls (vi x1 :: vr E x0 :: rest)) := g_callV C KF_X7 hM (c_X7_restore l E N x0 x1 μ μ1 v hc rx1) hck (gV h1 bw_2_223 bw_2_224 bw_1_1 bw_2_225) ⟨rfl, hd_X7_restore⟩ hR rfl hl rfl hcat hf hdg kk
/-! X7_owner -/
def f_X7_owner_b60 (N : Nat) (x3 : Int) (μ : Mm) : Rs :=
  ck (μ x3 (-2) = 6) <|
  some (μ x3 0, μ)
def f_X7_owner_b65 (N : Nat) (x3 : Int) (μ : Mm) : Rs :=
  ck (μ x3 (-2) = 6) <|
  some (μ x3 1, μ)
def f_X7_owner_b71 (N : Nat) (x3 : Int) (μ : Mm) : Rs :=
  ck (μ x3 (-2) = 6) <|
  some (μ x3 2, μ)
def f_X7_owner_b77 (N : Nat) (x0 x1 : Int) (μ : Mm) : Rs :=
  ck (μ x0 (-2) = 9) <|
  ck (μ (μ x0 0) (-2) = 8) <|
  bd (f_X6_useOf N (μ x0 0) x1 μ) fun a3 μ4 =>
  some (a3, μ4)
def f_X7_owner_b87 (N : Nat) (x0 x1 x3 : Int) (μ : Mm) : Rs :=
  ck (μ x0 (-2) = 9) <|
  ck (μ (μ x0 0) (-2) = 8) <|
  ck (μ x3 (-2) = 6) <|
  ck (μ x0 (-2) = 9) <|
  ck (μ (μ x0 0) (-2) = 8) <|
  bd (f_X6_useOf N (μ x0 0) x1 μ) fun a6 μ7 =>
  ck (μ7 (μ (μ x0 0) 0) (-2) = 7) <|
  bd (f_X5_covers N (μ (μ x0 0) 0) (μ x3 1) a6 μ7) fun a9 μ10 =>
  if a9 = 0 then
    (some (0, μ10))
  else
  some (1, μ10)
def f_X7_owner_b118 (N : Nat) (x0 x1 : Int) (μ : Mm) : Rs :=
  ck (μ x0 (-2) = 9) <|
  ck (μ (μ x0 0) (-2) = 8) <|
  bd (f_X6_storedLotsOf N (μ x0 0) x1 μ) fun a3 μ4 =>
  some (a3, μ4)
def f_X7_owner_b128 (N : Nat) (x3 : Int) (μ : Mm) : Rs :=
  ck (μ x3 (-2) = 6) <|
  some (μ x3 3, μ)
def f_X7_owner_b134 (N : Nat) (μ : Mm) : Rs :=
  some ((-100000002), μ)
def f_X7_owner (N : Nat) (x0 x1 x2 : Int) (μ : Mm) : Rs :=
  ck (μ x0 (-2) = 9) <|
  ck (μ (μ x0 0) (-2) = 8) <|
  bd (f_X6_findOwner N (μ x0 0) x1 μ) fun a3 μ4 =>
  ck ((0 : Int) ≤ a3) <|
  if ¬ a3 = 0 then
    (if x2 = 0 then
       (f_X7_owner_b60 N a3 μ4)
     else
     if x2 = 1 then
       (f_X7_owner_b65 N a3 μ4)
     else
     if x2 = 2 then
       (f_X7_owner_b71 N a3 μ4)
     else
     if x2 = 3 then
       (f_X7_owner_b77 N x0 x1 μ4)
     else
     if x2 = 4 then
       (f_X7_owner_b87 N x0 x1 a3 μ4)
     else
     if x2 = 5 then
       (f_X7_owner_b118 N x0 x1 μ4)
     else
     if x2 = 6 then
       (f_X7_owner_b128 N a3 μ4)
     else
     f_X7_owner_b134 N μ4)
  else
  some ((-100000001), μ4)
set_option maxHeartbeats 4000000 in
set_option maxRecDepth 100000 in
theorem k_X7_owner_b60 (C : gCx p s m args meth c cX7_owner 4 (some .long) "owner" RX7) (N : Nat) {r : Int} {μ' : Mm} : ∀ (x3 : Int) (μ : Mm), f_X7_owner_b60 N x3 μ = some (r, μ') → ∀ (H : Heap) (locs : List Loc) (ls : Array Slot), MS E μ s H locs → lv_has ls 4 [(3, vr E x3)] → W p l e ({ frames := 2, cells := 0, slots := 0, locals := 43 } : Room) s m args below meth c H locs 0 0 (MQ below (gQ E (some (vl r)) (R64 r) μ') args s 0 0 (gA E)) (F0 m 60 ls []) := by
  intro x3 μ h H locs ls hM hl
  unfold f_X7_owner_b60 at h
  refine m_aload_n (pc := 60) C dX7_owner_60 rfl (lv_at hl 0 rfl) ?_
  obtain ⟨q1, h⟩ := ck_some h
  have gq1 := Gr_X4_cash hM q1
  refine G_X4_cash (pc := 61) C hM bw_1_74 q1 dX7_owner_61 ?_
  cases h
  exact m_lret (pc := 64) C hM gq1 dX7_owner_64
set_option maxHeartbeats 4000000 in
set_option maxRecDepth 100000 in
theorem k_X7_owner_b65 (C : gCx p s m args meth c cX7_owner 4 (some .long) "owner" RX7) (N : Nat) {r : Int} {μ' : Mm} : ∀ (x3 : Int) (μ : Mm), f_X7_owner_b65 N x3 μ = some (r, μ') → ∀ (H : Heap) (locs : List Loc) (ls : Array Slot), MS E μ s H locs → lv_has ls 4 [(3, vr E x3)] → W p l e ({ frames := 2, cells := 0, slots := 0, locals := 43 } : Room) s m args below meth c H locs 0 0 (MQ below (gQ E (some (vl r)) (R64 r) μ') args s 0 0 (gA E)) (F0 m 65 ls []) := by
  intro x3 μ h H locs ls hM hl
  unfold f_X7_owner_b65 at h
  refine m_aload_n (pc := 65) C dX7_owner_65 rfl (lv_at hl 0 rfl) ?_
  obtain ⟨q1, h⟩ := ck_some h
  have gq1 := Gr_X4_guarantee hM q1
  refine G_X4_guarantee (pc := 66) C hM bw_1_76 q1 dX7_owner_66 ?_
  refine m_i2l (pc := 69) C gq1 dX7_owner_69 ?_
  cases h
  exact m_lret (pc := 70) C hM (R32.to64 gq1) dX7_owner_70
set_option maxHeartbeats 4000000 in
set_option maxRecDepth 100000 in
theorem k_X7_owner_b71 (C : gCx p s m args meth c cX7_owner 4 (some .long) "owner" RX7) (N : Nat) {r : Int} {μ' : Mm} : ∀ (x3 : Int) (μ : Mm), f_X7_owner_b71 N x3 μ = some (r, μ') → ∀ (H : Heap) (locs : List Loc) (ls : Array Slot), MS E μ s H locs → lv_has ls 4 [(3, vr E x3)] → W p l e ({ frames := 2, cells := 0, slots := 0, locals := 43 } : Room) s m args below meth c H locs 0 0 (MQ below (gQ E (some (vl r)) (R64 r) μ') args s 0 0 (gA E)) (F0 m 71 ls []) := by
  intro x3 μ h H locs ls hM hl
  unfold f_X7_owner_b71 at h
  refine m_aload_n (pc := 71) C dX7_owner_71 rfl (lv_at hl 0 rfl) ?_
  obtain ⟨q1, h⟩ := ck_some h
  have gq1 := Gr_X4_debt hM q1
  refine G_X4_debt (pc := 72) C hM bw_1_78 q1 dX7_owner_72 ?_
  refine m_i2l (pc := 75) C gq1 dX7_owner_75 ?_
  cases h
  exact m_lret (pc := 76) C hM (R32.to64 gq1) dX7_owner_76
set_option maxHeartbeats 4000000 in
set_option maxRecDepth 100000 in
theorem k_X7_owner_b77 (C : gCx p s m args meth c cX7_owner 4 (some .long) "owner" RX7) (N : Nat) {r : Int} {μ' : Mm} : ∀ (x0 x1 : Int) (μ : Mm), f_X7_owner_b77 N x0 x1 μ = some (r, μ') → R32 x1 → ∀ (H : Heap) (locs : List Loc) (ls : Array Slot), MS E μ s H locs → lv_has ls 4 [(0, vr E x0), (1, vi x1)] → W p l e ({ frames := 2, cells := 0, slots := 0, locals := 43 } : Room) s m args below meth c H locs 0 0 (MQ below (gQ E (some (vl r)) (R64 r) μ') args s 0 0 (gA E)) (F0 m 77 ls []) := by
  intro x0 x1 μ h rx1 H locs ls hM hl
  unfold f_X7_owner_b77 at h
  refine m_aload_n (pc := 77) C dX7_owner_77 rfl (lv_at hl 0 rfl) ?_
  obtain ⟨q1, h⟩ := ck_some h
  refine G_X7_now (pc := 78) C hM bw_2_63 q1 dX7_owner_78 ?_
  refine m_iload_n (pc := 81) C dX7_owner_81 rfl (lv_at hl 1 rfl) ?_
  obtain ⟨q2, h⟩ := ck_some h
  obtain ⟨a3, μ4, ca3, h⟩ := bd_some h
  refine V_X6_useOf (pc := 82) C hM ca3 rx1 q2 bw_3_36 ⟨Nat.le_of_ble_eq_true rfl, Nat.le_of_ble_eq_true rfl⟩ hl.1 rc0 ⟨Nat.le_refl _, Nat.le_refl _⟩ dX7_owner_82 (fun ra3 H locs hM => ?_)
  refine m_i2l (pc := 85) C ra3 dX7_owner_85 ?_
  cases h
  exact m_lret (pc := 86) C hM (R32.to64 ra3) dX7_owner_86
set_option maxHeartbeats 4000000 in
set_option maxRecDepth 100000 in
theorem k_X7_owner_b87 (C : gCx p s m args meth c cX7_owner 4 (some .long) "owner" RX7) (N : Nat) {r : Int} {μ' : Mm} : ∀ (x0 x1 x3 : Int) (μ : Mm), f_X7_owner_b87 N x0 x1 x3 μ = some (r, μ') → R32 x1 → ∀ (H : Heap) (locs : List Loc) (ls : Array Slot), MS E μ s H locs → lv_has ls 4 [(0, vr E x0), (1, vi x1), (3, vr E x3)] → W p l e ({ frames := 2, cells := 0, slots := 0, locals := 43 } : Room) s m args below meth c H locs 0 0 (MQ below (gQ E (some (vl r)) (R64 r) μ') args s 0 0 (gA E)) (F0 m 87 ls []) := by
  intro x0 x1 x3 μ h rx1 H locs ls hM hl
  unfold f_X7_owner_b87 at h
  refine m_aload_n (pc := 87) C dX7_owner_87 rfl (lv_at hl 0 rfl) ?_
  obtain ⟨q1, h⟩ := ck_some h
  refine G_X7_now (pc := 88) C hM bw_2_63 q1 dX7_owner_88 ?_
  obtain ⟨q2, h⟩ := ck_some h
  refine G_X6_settings (pc := 91) C hM bw_1_181 q2 dX7_owner_91 ?_
  refine m_aload_n (pc := 94) C dX7_owner_94 rfl (lv_at hl 2 rfl) ?_
  obtain ⟨q3, h⟩ := ck_some h
  have gq3 := Gr_X4_guarantee hM q3
  refine G_X4_guarantee (pc := 95) C hM bw_1_76 q3 dX7_owner_95 ?_
  refine m_aload_n (pc := 98) C dX7_owner_98 rfl (lv_at hl 0 rfl) ?_
  obtain ⟨q4, h⟩ := ck_some h
  refine G_X7_now (pc := 99) C hM bw_2_63 q4 dX7_owner_99 ?_
  refine m_iload_n (pc := 102) C dX7_owner_102 rfl (lv_at hl 1 rfl) ?_
  obtain ⟨q5, h⟩ := ck_some h
  obtain ⟨a6, μ7, ca6, h⟩ := bd_some h
  refine V_X6_useOf (pc := 103) C hM ca6 rx1 q5 bw_3_36 ⟨Nat.le_of_ble_eq_true rfl, Nat.le_of_ble_eq_true rfl⟩ hl.1 (rcI (rcR rc0)) ⟨Nat.le_refl _, Nat.le_refl _⟩ dX7_owner_103 (fun ra6 H locs hM => ?_)
  obtain ⟨q8, h⟩ := ck_some h
  obtain ⟨a9, μ10, ca9, h⟩ := bd_some h
  refine V_X5_covers (pc := 106) C hM ca9 gq3 ra6 q8 bw_3_44 ⟨Nat.le_of_ble_eq_true rfl, Nat.le_of_ble_eq_true rfl⟩ hl.1 rc0 ⟨Nat.le_refl _, Nat.le_refl _⟩ dX7_owner_106 (fun ra9 H locs hM => ?_)
  refine m_if_eq (tgt := 116) (pc := 109) C ra9 dX7_owner_109 (by decide) (fun c11 => ?_) (fun c11 => ?_)
  · have h := if_t h c11
    refine m_lconst (v := 0) (pc := 116) C dX7_owner_116 rfl ?_
    cases h
    exact m_lret (pc := 117) C hM rl_0 dX7_owner_117
  · have h := if_f h c11
    refine m_lconst (v := 1) (pc := 112) C dX7_owner_112 rfl ?_
    refine m_goto (tgt := 117) (pc := 113) C dX7_owner_113 (by decide) ?_
    cases h
    exact m_lret (pc := 117) C hM rl_1 dX7_owner_117
set_option maxHeartbeats 4000000 in
set_option maxRecDepth 100000 in
theorem k_X7_owner_b118 (C : gCx p s m args meth c cX7_owner 4 (some .long) "owner" RX7) (N : Nat) {r : Int} {μ' : Mm} : ∀ (x0 x1 : Int) (μ : Mm), f_X7_owner_b118 N x0 x1 μ = some (r, μ') → R32 x1 → ∀ (H : Heap) (locs : List Loc) (ls : Array Slot), MS E μ s H locs → lv_has ls 4 [(0, vr E x0), (1, vi x1)] → W p l e ({ frames := 2, cells := 0, slots := 0, locals := 43 } : Room) s m args below meth c H locs 0 0 (MQ below (gQ E (some (vl r)) (R64 r) μ') args s 0 0 (gA E)) (F0 m 118 ls []) := by
  intro x0 x1 μ h rx1 H locs ls hM hl
  unfold f_X7_owner_b118 at h
  refine m_aload_n (pc := 118) C dX7_owner_118 rfl (lv_at hl 0 rfl) ?_
  obtain ⟨q1, h⟩ := ck_some h
  refine G_X7_now (pc := 119) C hM bw_2_63 q1 dX7_owner_119 ?_
  refine m_iload_n (pc := 122) C dX7_owner_122 rfl (lv_at hl 1 rfl) ?_
  obtain ⟨q2, h⟩ := ck_some h
  obtain ⟨a3, μ4, ca3, h⟩ := bd_some h
  refine V_X6_storedLotsOf (pc := 123) C hM ca3 rx1 q2 bw_3_49 ⟨Nat.le_of_ble_eq_true rfl, Nat.le_of_ble_eq_true rfl⟩ hl.1 rc0 ⟨Nat.le_refl _, Nat.le_refl _⟩ dX7_owner_123 (fun ra3 H locs hM => ?_)
  refine m_i2l (pc := 126) C ra3 dX7_owner_126 ?_
  cases h
  exact m_lret (pc := 127) C hM (R32.to64 ra3) dX7_owner_127
set_option maxHeartbeats 4000000 in
set_option maxRecDepth 100000 in
theorem k_X7_owner_b128 (C : gCx p s m args meth c cX7_owner 4 (some .long) "owner" RX7) (N : Nat) {r : Int} {μ' : Mm} : ∀ (x3 : Int) (μ : Mm), f_X7_owner_b128 N x3 μ = some (r, μ') → ∀ (H : Heap) (locs : List Loc) (ls : Array Slot), MS E μ s H locs → lv_has ls 4 [(3, vr E x3)] → W p l e ({ frames := 2, cells := 0, slots := 0, locals := 43 } : Room) s m args below meth c H locs 0 0 (MQ below (gQ E (some (vl r)) (R64 r) μ') args s 0 0 (gA E)) (F0 m 128 ls []) := by
  intro x3 μ h H locs ls hM hl
  unfold f_X7_owner_b128 at h
  refine m_aload_n (pc := 128) C dX7_owner_128 rfl (lv_at hl 0 rfl) ?_
  obtain ⟨q1, h⟩ := ck_some h
  have gq1 := Gr_X4_called hM q1
  refine G_X4_called (pc := 129) C hM bw_1_81 q1 dX7_owner_129 ?_
  refine m_i2l (pc := 132) C gq1 dX7_owner_132 ?_
  cases h
  exact m_lret (pc := 133) C hM (R32.to64 gq1) dX7_owner_133
set_option maxHeartbeats 4000000 in
set_option maxRecDepth 100000 in
theorem k_X7_owner_b134 (C : gCx p s m args meth c cX7_owner 4 (some .long) "owner" RX7) (N : Nat) {r : Int} {μ' : Mm} : ∀ (μ : Mm), f_X7_owner_b134 N μ = some (r, μ') → ∀ (H : Heap) (locs : List Loc) (ls : Array Slot), MS E μ s H locs → lv_has ls 4 [] → W p l e ({ frames := 2, cells := 0, slots := 0, locals := 43 } : Room) s m args below meth c H locs 0 0 (MQ below (gQ E (some (vl r)) (R64 r) μ') args s 0 0 (gA E)) (F0 m 134 ls []) := by
  intro μ h H locs ls hM hl
  unfold f_X7_owner_b134 at h
  refine m_ldc2 (n := -100000002) (pc := 134) C bw_3_53 rfl dX7_owner_134 ?_
  cases h
  exact m_lret (pc := 137) C hM rl_m100000002 dX7_owner_137
set_option maxHeartbeats 4000000 in
set_option maxRecDepth 100000 in
theorem c_X7_owner (l : Launch) (E : gE) (N : Nat) (x0 x1 x2 : Int) (μ μ' : Mm) (r : Int) (h : f_X7_owner N x0 x1 x2 μ = some (r, μ')) (rx1 : R32 x1) (rx2 : R32 x2) : gMet l E yX7_owner cX7_owner 4 (some .long) 2 43 [vr E x0, vi x1, vi x2] (some (vl r)) (R64 r) μ μ' 0 0 := by
  refine g_ofW [1, 1, 1] (by first | (simp only [List.map_cons, List.map_nil, vr_cat]; done) | (simp only [List.map_cons, List.map_nil, vr_cat]; rfl)) (by decide) (by decide) (fun p e s m below meth c ls C hM hl => ?_)
  replace C : gCx p s m _ meth c cX7_owner 4 (some .long) "owner" RX7 := C
  replace hl : lv_has ls 4 [(0, vr E x0), (1, vi x1), (2, vi x2)] := hl
  unfold f_X7_owner at h
  refine m_aload_n (pc := 0) C dX7_owner_0 rfl (lv_at hl 0 rfl) ?_
  obtain ⟨q1, h⟩ := ck_some h
  refine G_X7_now (pc := 1) C hM bw_2_63 q1 dX7_owner_1 ?_
  refine m_iload_n (pc := 4) C dX7_owner_4 rfl (lv_at hl 1 rfl) ?_
  obtain ⟨q2, h⟩ := ck_some h
  obtain ⟨a3, μ4, ca3, h⟩ := bd_some h
  refine V_X6_findOwner (pc := 5) C hM ca3 rx1 q2 bw_3_34 ⟨Nat.le_of_ble_eq_true rfl, Nat.le_of_ble_eq_true rfl⟩ hl.1 rc0 ⟨Nat.le_refl _, Nat.le_refl _⟩ dX7_owner_5 (fun _ H locs hM => ?_)
  refine m_astore_n (pc := 8) C dX7_owner_8 rfl hl (by decide) (lvK1 0 rfl (Nat.ne_of_beq_eq_false rfl) (Nat.ne_of_beq_eq_false rfl) (lvK1 1 rfl (Nat.ne_of_beq_eq_false rfl) (Nat.ne_of_beq_eq_false rfl) (lvK2 2 rfl (Nat.ne_of_beq_eq_false rfl) rfl lvK0))) (fun ls hl => ?_)
  refine m_aload_n (pc := 9) C dX7_owner_9 rfl (lv_at hl 0 rfl) ?_
  obtain ⟨q6, h⟩ := ck_some h
  refine m_ifnonnull (tgt := 17) (pc := 10) C q6 dX7_owner_10 (by decide) (fun c5 => ?_) (fun c5 => ?_)
  · have h := if_t h c5
    refine m_iload_n (pc := 17) C dX7_owner_17 rfl (lv_at hl 3 rfl) ?_
    by_cases c7 : x2 = 0
    · have h := if_t h c7
      refine m_tab (pc := 18) (tgt := 60) C rx2 c7 dX7_owner_18 (by decide) (by decide) rfl (by decide) ?_
      exact k_X7_owner_b60 C N _ _ h _ _ _ hM (lv_sub hl [0] rfl)
    replace h := if_f h c7
    by_cases c8 : x2 = 1
    · have h := if_t h c8
      refine m_tab (pc := 18) (tgt := 65) C rx2 c8 dX7_owner_18 (by decide) (by decide) rfl (by decide) ?_
      exact k_X7_owner_b65 C N _ _ h _ _ _ hM (lv_sub hl [0] rfl)
    replace h := if_f h c8
    by_cases c9 : x2 = 2
    · have h := if_t h c9
      refine m_tab (pc := 18) (tgt := 71) C rx2 c9 dX7_owner_18 (by decide) (by decide) rfl (by decide) ?_
      exact k_X7_owner_b71 C N _ _ h _ _ _ hM (lv_sub hl [0] rfl)
    replace h := if_f h c9
    by_cases c10 : x2 = 3
    · have h := if_t h c10
      refine m_tab (pc := 18) (tgt := 77) C rx2 c10 dX7_owner_18 (by decide) (by decide) rfl (by decide) ?_
      exact k_X7_owner_b77 C N _ _ _ h rx1 _ _ _ hM (lv_sub hl [1, 2] rfl)
    replace h := if_f h c10
    by_cases c11 : x2 = 4
    · have h := if_t h c11
      refine m_tab (pc := 18) (tgt := 87) C rx2 c11 dX7_owner_18 (by decide) (by decide) rfl (by decide) ?_
      exact k_X7_owner_b87 C N _ _ _ _ h rx1 _ _ _ hM (lv_sub hl [1, 2, 0] rfl)
    replace h := if_f h c11
    by_cases c12 : x2 = 5
    · have h := if_t h c12
      refine m_tab (pc := 18) (tgt := 118) C rx2 c12 dX7_owner_18 (by decide) (by decide) rfl (by decide) ?_
      exact k_X7_owner_b118 C N _ _ _ h rx1 _ _ _ hM (lv_sub hl [1, 2] rfl)
    replace h := if_f h c12
    by_cases c13 : x2 = 6
    · have h := if_t h c13
      refine m_tab (pc := 18) (tgt := 128) C rx2 c13 dX7_owner_18 (by decide) (by decide) rfl (by decide) ?_
      exact k_X7_owner_b128 C N _ _ h _ _ _ hM (lv_sub hl [0] rfl)
    replace h := if_f h c13
    refine m_tabD (pc := 18) (tgt := 134) C rx2 dX7_owner_18 (by omega) (by decide) ?_
    exact k_X7_owner_b134 C N _ h _ _ _ hM (lv_sub hl [] rfl)
  · have h := if_f h c5
    refine m_ldc2 (n := -100000001) (pc := 13) C bw_3_35 rfl dX7_owner_13 ?_
    cases h
    exact m_lret (pc := 16) C hM rl_m100000001 dX7_owner_16
theorem hd_X7_owner : yX7_owner.cls ≠ "java/lang/invoke/MethodHandle" ∧ yX7_owner.cls ≠ "java/lang/invoke/VarHandle" ∧ (parseMethodDescriptor yX7_owner.desc).map (fun d => d.parameters.length) = some 2 := by decide +kernel

theorem V_X7_owner {p : Program} {l : Launch} {e : Env} {R : Room} {s : State} {m : MethodId} {args : Array Value} {below : List Frame} {meth : Method} {c : Code} {H : Heap} {locs : List Loc} {cells slots : Nat} {Q : State → Prop} {cc : ByteArray} {pc nL : Nat} {ls : Array Slot} {rest : List Value} {ret : Option FieldType} {nmm own : String} {E : gE} {μ μ1 : Mm} {index : Nat} (C : gCx p s m args meth c cc nL ret nmm own) (hM : MS E μ s H locs) {N : Nat} {x0 x1 x2 v : Int} (hc : f_X7_owner N x0 x1 x2 μ = some (v, μ1)) (rx1 : R32 x1) (rx2 : R32 x2) (hck : μ x0 (-2) = 9) (h1 : Cond.methodLink own index yX7_owner ∈ bigL) (hR : 3 ≤ R.frames ∧ 66 ≤ R.locals) (hl : ls.size = nL) (hcat : RC rest 8) (hf : cells + 0 ≤ R.cells ∧ slots + 0 ≤ R.slots) (hdg : decode cc pc = .ok (.invokevirtual index, 3)) (kk : (R64 v) → ∀ (H1 : Heap) (locs1 : List Loc), MS E μ1 s H1 locs1 → W p l e R s m args below meth c H1 locs1 (cells + 0) (slots + 0) Q (F0 m (pc + 3) ls (vl v :: rest))) : W p l e R s m args below meth c H locs cells slots Q (F0 m pc ls (vi x2 :: vi x1 :: vr E x0 :: rest)) := g_callV C KF_X7 hM (c_X7_owner l E N x0 x1 x2 μ μ1 v hc rx1 rx2) hck (gV h1 bw_3_31 bw_3_32 bw_1_1 bw_3_33) ⟨rfl, hd_X7_owner⟩ hR rfl hl rfl hcat hf hdg kk
/-! X7_lot -/
def f_X7_lot_b84 (N : Nat) (x3 : Int) (μ : Mm) : Rs :=
  ck (μ x3 (-2) = 4) <|
  some (μ x3 0, μ)
def f_X7_lot_b89 (N : Nat) (x3 : Int) (μ : Mm) : Rs :=
  ck (μ x3 (-2) = 4) <|
  some (μ x3 1, μ)
def f_X7_lot_b94 (N : Nat) (x3 : Int) (μ : Mm) : Rs :=
  ck (μ x3 (-2) = 4) <|
  some (μ x3 2, μ)
def f_X7_lot_b99 (N : Nat) (x3 : Int) (μ : Mm) : Rs :=
  ck (μ x3 (-2) = 4) <|
  some (μ x3 3, μ)
def f_X7_lot_b104 (N : Nat) (x3 : Int) (μ : Mm) : Rs :=
  ck (μ x3 (-2) = 4) <|
  some (μ x3 4, μ)
def f_X7_lot_b109 (N : Nat) (x3 : Int) (μ : Mm) : Rs :=
  ck (μ x3 (-2) = 4) <|
  some (μ x3 5, μ)
def f_X7_lot_b114 (N : Nat) (x3 : Int) (μ : Mm) : Rs :=
  ck (μ x3 (-2) = 4) <|
  some (μ x3 6, μ)
def f_X7_lot_b119 (N : Nat) (x3 : Int) (μ : Mm) : Rs :=
  ck (μ x3 (-2) = 4) <|
  some (μ x3 7, μ)
def f_X7_lot_b124 (N : Nat) (x3 : Int) (μ : Mm) : Rs :=
  ck (μ x3 (-2) = 4) <|
  bd (f_X2_suspended N x3 μ) fun a2 μ3 =>
  some (a2, μ3)
def f_X7_lot_b129 (N : Nat) (x3 : Int) (μ : Mm) : Rs :=
  ck (μ x3 (-2) = 4) <|
  some (μ x3 8, μ)
def f_X7_lot_b134 (N : Nat) (x3 : Int) (μ : Mm) : Rs :=
  ck (μ x3 (-2) = 4) <|
  some (μ x3 9, μ)
def f_X7_lot_b139 (N : Nat) (x3 : Int) (μ : Mm) : Rs :=
  ck (μ x3 (-2) = 4) <|
  some (μ x3 10, μ)
def f_X7_lot_b144 (N : Nat) (x0 x1 : Int) (μ : Mm) : Rs :=
  ck (μ x0 (-2) = 9) <|
  ck (μ (μ x0 0) (-2) = 8) <|
  bd (f_X6_waitingUnitsOf N (μ x0 0) x1 μ) fun a3 μ4 =>
  some (a3, μ4)
def f_X7_lot_b153 (N : Nat) (μ : Mm) : Rs :=
  some ((-100000002), μ)
def f_X7_lot (N : Nat) (x0 x1 x2 : Int) (μ : Mm) : Rs :=
  ck (μ x0 (-2) = 9) <|
  ck (μ (μ x0 0) (-2) = 8) <|
  bd (f_X6_findLot N (μ x0 0) x1 μ) fun a3 μ4 =>
  ck ((0 : Int) ≤ a3) <|
  if ¬ a3 = 0 then
    (if x2 = 0 then
       (f_X7_lot_b84 N a3 μ4)
     else
     if x2 = 1 then
       (f_X7_lot_b89 N a3 μ4)
     else
     if x2 = 2 then
       (f_X7_lot_b94 N a3 μ4)
     else
     if x2 = 3 then
       (f_X7_lot_b99 N a3 μ4)
     else
     if x2 = 4 then
       (f_X7_lot_b104 N a3 μ4)
     else
     if x2 = 5 then
       (f_X7_lot_b109 N a3 μ4)
     else
     if x2 = 6 then
       (f_X7_lot_b114 N a3 μ4)
     else
     if x2 = 7 then
       (f_X7_lot_b119 N a3 μ4)
     else
     if x2 = 8 then
       (f_X7_lot_b124 N a3 μ4)
     else
     if x2 = 9 then
       (f_X7_lot_b129 N a3 μ4)
     else
     if x2 = 10 then
       (f_X7_lot_b134 N a3 μ4)
     else
     if x2 = 11 then
       (f_X7_lot_b139 N a3 μ4)
     else
     if x2 = 12 then
       (f_X7_lot_b144 N x0 x1 μ4)
     else
     f_X7_lot_b153 N μ4)
  else
  some ((-100000001), μ4)
set_option maxHeartbeats 4000000 in
set_option maxRecDepth 100000 in
theorem k_X7_lot_b84 (C : gCx p s m args meth c cX7_lot 4 (some .int) "lot" RX7) (N : Nat) {r : Int} {μ' : Mm} : ∀ (x3 : Int) (μ : Mm), f_X7_lot_b84 N x3 μ = some (r, μ') → ∀ (H : Heap) (locs : List Loc) (ls : Array Slot), MS E μ s H locs → lv_has ls 4 [(3, vr E x3)] → W p l e ({ frames := 2, cells := 0, slots := 0, locals := 43 } : Room) s m args below meth c H locs 0 0 (MQ below (gQ E (some (vi r)) (R32 r) μ') args s 0 0 (gA E)) (F0 m 84 ls []) := by
  intro x3 μ h H locs ls hM hl
  unfold f_X7_lot_b84 at h
  refine m_aload_n (pc := 84) C dX7_lot_84 rfl (lv_at hl 0 rfl) ?_
  obtain ⟨q1, h⟩ := ck_some h
  have gq1 := Gr_X2_owner hM q1
  refine G_X2_owner (pc := 85) C hM bw_1_100 q1 dX7_lot_85 ?_
  cases h
  exact m_iret (pc := 88) C hM gq1 dX7_lot_88
set_option maxHeartbeats 4000000 in
set_option maxRecDepth 100000 in
theorem k_X7_lot_b89 (C : gCx p s m args meth c cX7_lot 4 (some .int) "lot" RX7) (N : Nat) {r : Int} {μ' : Mm} : ∀ (x3 : Int) (μ : Mm), f_X7_lot_b89 N x3 μ = some (r, μ') → ∀ (H : Heap) (locs : List Loc) (ls : Array Slot), MS E μ s H locs → lv_has ls 4 [(3, vr E x3)] → W p l e ({ frames := 2, cells := 0, slots := 0, locals := 43 } : Room) s m args below meth c H locs 0 0 (MQ below (gQ E (some (vi r)) (R32 r) μ') args s 0 0 (gA E)) (F0 m 89 ls []) := by
  intro x3 μ h H locs ls hM hl
  unfold f_X7_lot_b89 at h
  refine m_aload_n (pc := 89) C dX7_lot_89 rfl (lv_at hl 0 rfl) ?_
  obtain ⟨q1, h⟩ := ck_some h
  have gq1 := Gr_X2_kind hM q1
  refine G_X2_kind (pc := 90) C hM bw_1_102 q1 dX7_lot_90 ?_
  cases h
  exact m_iret (pc := 93) C hM gq1 dX7_lot_93
set_option maxHeartbeats 4000000 in
set_option maxRecDepth 100000 in
theorem k_X7_lot_b94 (C : gCx p s m args meth c cX7_lot 4 (some .int) "lot" RX7) (N : Nat) {r : Int} {μ' : Mm} : ∀ (x3 : Int) (μ : Mm), f_X7_lot_b94 N x3 μ = some (r, μ') → ∀ (H : Heap) (locs : List Loc) (ls : Array Slot), MS E μ s H locs → lv_has ls 4 [(3, vr E x3)] → W p l e ({ frames := 2, cells := 0, slots := 0, locals := 43 } : Room) s m args below meth c H locs 0 0 (MQ below (gQ E (some (vi r)) (R32 r) μ') args s 0 0 (gA E)) (F0 m 94 ls []) := by
  intro x3 μ h H locs ls hM hl
  unfold f_X7_lot_b94 at h
  refine m_aload_n (pc := 94) C dX7_lot_94 rfl (lv_at hl 0 rfl) ?_
  obtain ⟨q1, h⟩ := ck_some h
  have gq1 := Gr_X2_quantity hM q1
  refine G_X2_quantity (pc := 95) C hM bw_1_105 q1 dX7_lot_95 ?_
  cases h
  exact m_iret (pc := 98) C hM gq1 dX7_lot_98
set_option maxHeartbeats 4000000 in
set_option maxRecDepth 100000 in
theorem k_X7_lot_b99 (C : gCx p s m args meth c cX7_lot 4 (some .int) "lot" RX7) (N : Nat) {r : Int} {μ' : Mm} : ∀ (x3 : Int) (μ : Mm), f_X7_lot_b99 N x3 μ = some (r, μ') → ∀ (H : Heap) (locs : List Loc) (ls : Array Slot), MS E μ s H locs → lv_has ls 4 [(3, vr E x3)] → W p l e ({ frames := 2, cells := 0, slots := 0, locals := 43 } : Room) s m args below meth c H locs 0 0 (MQ below (gQ E (some (vi r)) (R32 r) μ') args s 0 0 (gA E)) (F0 m 99 ls []) := by
  intro x3 μ h H locs ls hM hl
  unfold f_X7_lot_b99 at h
  refine m_aload_n (pc := 99) C dX7_lot_99 rfl (lv_at hl 0 rfl) ?_
  obtain ⟨q1, h⟩ := ck_some h
  have gq1 := Gr_X2_value hM q1
  refine G_X2_value (pc := 100) C hM bw_1_107 q1 dX7_lot_100 ?_
  cases h
  exact m_iret (pc := 103) C hM gq1 dX7_lot_103
set_option maxHeartbeats 4000000 in
set_option maxRecDepth 100000 in
theorem k_X7_lot_b104 (C : gCx p s m args meth c cX7_lot 4 (some .int) "lot" RX7) (N : Nat) {r : Int} {μ' : Mm} : ∀ (x3 : Int) (μ : Mm), f_X7_lot_b104 N x3 μ = some (r, μ') → ∀ (H : Heap) (locs : List Loc) (ls : Array Slot), MS E μ s H locs → lv_has ls 4 [(3, vr E x3)] → W p l e ({ frames := 2, cells := 0, slots := 0, locals := 43 } : Room) s m args below meth c H locs 0 0 (MQ below (gQ E (some (vi r)) (R32 r) μ') args s 0 0 (gA E)) (F0 m 104 ls []) := by
  intro x3 μ h H locs ls hM hl
  unfold f_X7_lot_b104 at h
  refine m_aload_n (pc := 104) C dX7_lot_104 rfl (lv_at hl 0 rfl) ?_
  obtain ⟨q1, h⟩ := ck_some h
  have gq1 := Gr_X2_entered hM q1
  refine G_X2_entered (pc := 105) C hM bw_1_109 q1 dX7_lot_105 ?_
  cases h
  exact m_iret (pc := 108) C hM gq1 dX7_lot_108
set_option maxHeartbeats 4000000 in
set_option maxRecDepth 100000 in
theorem k_X7_lot_b109 (C : gCx p s m args meth c cX7_lot 4 (some .int) "lot" RX7) (N : Nat) {r : Int} {μ' : Mm} : ∀ (x3 : Int) (μ : Mm), f_X7_lot_b109 N x3 μ = some (r, μ') → ∀ (H : Heap) (locs : List Loc) (ls : Array Slot), MS E μ s H locs → lv_has ls 4 [(3, vr E x3)] → W p l e ({ frames := 2, cells := 0, slots := 0, locals := 43 } : Room) s m args below meth c H locs 0 0 (MQ below (gQ E (some (vi r)) (R32 r) μ') args s 0 0 (gA E)) (F0 m 109 ls []) := by
  intro x3 μ h H locs ls hM hl
  unfold f_X7_lot_b109 at h
  refine m_aload_n (pc := 109) C dX7_lot_109 rfl (lv_at hl 0 rfl) ?_
  obtain ⟨q1, h⟩ := ck_some h
  have gq1 := Gr_X2_deadline hM q1
  refine G_X2_deadline (pc := 110) C hM bw_1_111 q1 dX7_lot_110 ?_
  cases h
  exact m_iret (pc := 113) C hM gq1 dX7_lot_113
set_option maxHeartbeats 4000000 in
set_option maxRecDepth 100000 in
theorem k_X7_lot_b114 (C : gCx p s m args meth c cX7_lot 4 (some .int) "lot" RX7) (N : Nat) {r : Int} {μ' : Mm} : ∀ (x3 : Int) (μ : Mm), f_X7_lot_b114 N x3 μ = some (r, μ') → ∀ (H : Heap) (locs : List Loc) (ls : Array Slot), MS E μ s H locs → lv_has ls 4 [(3, vr E x3)] → W p l e ({ frames := 2, cells := 0, slots := 0, locals := 43 } : Room) s m args below meth c H locs 0 0 (MQ below (gQ E (some (vi r)) (R32 r) μ') args s 0 0 (gA E)) (F0 m 114 ls []) := by
  intro x3 μ h H locs ls hM hl
  unfold f_X7_lot_b114 at h
  refine m_aload_n (pc := 114) C dX7_lot_114 rfl (lv_at hl 0 rfl) ?_
  obtain ⟨q1, h⟩ := ck_some h
  have gq1 := Gr_X2_due hM q1
  refine G_X2_due (pc := 115) C hM bw_1_113 q1 dX7_lot_115 ?_
  cases h
  exact m_iret (pc := 118) C hM gq1 dX7_lot_118
set_option maxHeartbeats 4000000 in
set_option maxRecDepth 100000 in
theorem k_X7_lot_b119 (C : gCx p s m args meth c cX7_lot 4 (some .int) "lot" RX7) (N : Nat) {r : Int} {μ' : Mm} : ∀ (x3 : Int) (μ : Mm), f_X7_lot_b119 N x3 μ = some (r, μ') → ∀ (H : Heap) (locs : List Loc) (ls : Array Slot), MS E μ s H locs → lv_has ls 4 [(3, vr E x3)] → W p l e ({ frames := 2, cells := 0, slots := 0, locals := 43 } : Room) s m args below meth c H locs 0 0 (MQ below (gQ E (some (vi r)) (R32 r) μ') args s 0 0 (gA E)) (F0 m 119 ls []) := by
  intro x3 μ h H locs ls hM hl
  unfold f_X7_lot_b119 at h
  refine m_aload_n (pc := 119) C dX7_lot_119 rfl (lv_at hl 0 rfl) ?_
  obtain ⟨q1, h⟩ := ck_some h
  have gq1 := Gr_X2_stored hM q1
  refine G_X2_stored (pc := 120) C hM bw_1_116 q1 dX7_lot_120 ?_
  cases h
  exact m_iret (pc := 123) C hM gq1 dX7_lot_123
set_option maxHeartbeats 4000000 in
set_option maxRecDepth 100000 in
theorem k_X7_lot_b124 (C : gCx p s m args meth c cX7_lot 4 (some .int) "lot" RX7) (N : Nat) {r : Int} {μ' : Mm} : ∀ (x3 : Int) (μ : Mm), f_X7_lot_b124 N x3 μ = some (r, μ') → ∀ (H : Heap) (locs : List Loc) (ls : Array Slot), MS E μ s H locs → lv_has ls 4 [(3, vr E x3)] → W p l e ({ frames := 2, cells := 0, slots := 0, locals := 43 } : Room) s m args below meth c H locs 0 0 (MQ below (gQ E (some (vi r)) (R32 r) μ') args s 0 0 (gA E)) (F0 m 124 ls []) := by
  intro x3 μ h H locs ls hM hl
  unfold f_X7_lot_b124 at h
  refine m_aload_n (pc := 124) C dX7_lot_124 rfl (lv_at hl 0 rfl) ?_
  obtain ⟨q1, h⟩ := ck_some h
  obtain ⟨a2, μ3, ca2, h⟩ := bd_some h
  refine V_X2_suspended (pc := 125) C hM ca2 q1 bw_3_58 ⟨Nat.le_of_ble_eq_true rfl, Nat.le_of_ble_eq_true rfl⟩ hl.1 rc0 ⟨Nat.le_refl _, Nat.le_refl _⟩ dX7_lot_125 (fun ra2 H locs hM => ?_)
  cases h
  exact m_iret (pc := 128) C hM ra2 dX7_lot_128
set_option maxHeartbeats 4000000 in
set_option maxRecDepth 100000 in
theorem k_X7_lot_b129 (C : gCx p s m args meth c cX7_lot 4 (some .int) "lot" RX7) (N : Nat) {r : Int} {μ' : Mm} : ∀ (x3 : Int) (μ : Mm), f_X7_lot_b129 N x3 μ = some (r, μ') → ∀ (H : Heap) (locs : List Loc) (ls : Array Slot), MS E μ s H locs → lv_has ls 4 [(3, vr E x3)] → W p l e ({ frames := 2, cells := 0, slots := 0, locals := 43 } : Room) s m args below meth c H locs 0 0 (MQ below (gQ E (some (vi r)) (R32 r) μ') args s 0 0 (gA E)) (F0 m 129 ls []) := by
  intro x3 μ h H locs ls hM hl
  unfold f_X7_lot_b129 at h
  refine m_aload_n (pc := 129) C dX7_lot_129 rfl (lv_at hl 0 rfl) ?_
  obtain ⟨q1, h⟩ := ck_some h
  have gq1 := Gr_X2_paid hM q1
  refine G_X2_paid (pc := 130) C hM bw_1_119 q1 dX7_lot_130 ?_
  cases h
  exact m_iret (pc := 133) C hM gq1 dX7_lot_133
set_option maxHeartbeats 4000000 in
set_option maxRecDepth 100000 in
theorem k_X7_lot_b134 (C : gCx p s m args meth c cX7_lot 4 (some .int) "lot" RX7) (N : Nat) {r : Int} {μ' : Mm} : ∀ (x3 : Int) (μ : Mm), f_X7_lot_b134 N x3 μ = some (r, μ') → ∀ (H : Heap) (locs : List Loc) (ls : Array Slot), MS E μ s H locs → lv_has ls 4 [(3, vr E x3)] → W p l e ({ frames := 2, cells := 0, slots := 0, locals := 43 } : Room) s m args below meth c H locs 0 0 (MQ below (gQ E (some (vi r)) (R32 r) μ') args s 0 0 (gA E)) (F0 m 134 ls []) := by
  intro x3 μ h H locs ls hM hl
  unfold f_X7_lot_b134 at h
  refine m_aload_n (pc := 134) C dX7_lot_134 rfl (lv_at hl 0 rfl) ?_
  obtain ⟨q1, h⟩ := ck_some h
  have gq1 := Gr_X2_discharged hM q1
  refine G_X2_discharged (pc := 135) C hM bw_1_121 q1 dX7_lot_135 ?_
  cases h
  exact m_iret (pc := 138) C hM gq1 dX7_lot_138
set_option maxHeartbeats 4000000 in
set_option maxRecDepth 100000 in
theorem k_X7_lot_b139 (C : gCx p s m args meth c cX7_lot 4 (some .int) "lot" RX7) (N : Nat) {r : Int} {μ' : Mm} : ∀ (x3 : Int) (μ : Mm), f_X7_lot_b139 N x3 μ = some (r, μ') → ∀ (H : Heap) (locs : List Loc) (ls : Array Slot), MS E μ s H locs → lv_has ls 4 [(3, vr E x3)] → W p l e ({ frames := 2, cells := 0, slots := 0, locals := 43 } : Room) s m args below meth c H locs 0 0 (MQ below (gQ E (some (vi r)) (R32 r) μ') args s 0 0 (gA E)) (F0 m 139 ls []) := by
  intro x3 μ h H locs ls hM hl
  unfold f_X7_lot_b139 at h
  refine m_aload_n (pc := 139) C dX7_lot_139 rfl (lv_at hl 0 rfl) ?_
  obtain ⟨q1, h⟩ := ck_some h
  have gq1 := Gr_X2_sampled hM q1
  refine G_X2_sampled (pc := 140) C hM bw_1_124 q1 dX7_lot_140 ?_
  cases h
  exact m_iret (pc := 143) C hM gq1 dX7_lot_143
set_option maxHeartbeats 4000000 in
set_option maxRecDepth 100000 in
theorem k_X7_lot_b144 (C : gCx p s m args meth c cX7_lot 4 (some .int) "lot" RX7) (N : Nat) {r : Int} {μ' : Mm} : ∀ (x0 x1 : Int) (μ : Mm), f_X7_lot_b144 N x0 x1 μ = some (r, μ') → R32 x1 → ∀ (H : Heap) (locs : List Loc) (ls : Array Slot), MS E μ s H locs → lv_has ls 4 [(0, vr E x0), (1, vi x1)] → W p l e ({ frames := 2, cells := 0, slots := 0, locals := 43 } : Room) s m args below meth c H locs 0 0 (MQ below (gQ E (some (vi r)) (R32 r) μ') args s 0 0 (gA E)) (F0 m 144 ls []) := by
  intro x0 x1 μ h rx1 H locs ls hM hl
  unfold f_X7_lot_b144 at h
  refine m_aload_n (pc := 144) C dX7_lot_144 rfl (lv_at hl 0 rfl) ?_
  obtain ⟨q1, h⟩ := ck_some h
  refine G_X7_now (pc := 145) C hM bw_2_63 q1 dX7_lot_145 ?_
  refine m_iload_n (pc := 148) C dX7_lot_148 rfl (lv_at hl 1 rfl) ?_
  obtain ⟨q2, h⟩ := ck_some h
  obtain ⟨a3, μ4, ca3, h⟩ := bd_some h
  refine V_X6_waitingUnitsOf (pc := 149) C hM ca3 rx1 q2 bw_3_59 ⟨Nat.le_of_ble_eq_true rfl, Nat.le_of_ble_eq_true rfl⟩ hl.1 rc0 ⟨Nat.le_refl _, Nat.le_refl _⟩ dX7_lot_149 (fun ra3 H locs hM => ?_)
  cases h
  exact m_iret (pc := 152) C hM ra3 dX7_lot_152
set_option maxHeartbeats 4000000 in
set_option maxRecDepth 100000 in
theorem k_X7_lot_b153 (C : gCx p s m args meth c cX7_lot 4 (some .int) "lot" RX7) (N : Nat) {r : Int} {μ' : Mm} : ∀ (μ : Mm), f_X7_lot_b153 N μ = some (r, μ') → ∀ (H : Heap) (locs : List Loc) (ls : Array Slot), MS E μ s H locs → lv_has ls 4 [] → W p l e ({ frames := 2, cells := 0, slots := 0, locals := 43 } : Room) s m args below meth c H locs 0 0 (MQ below (gQ E (some (vi r)) (R32 r) μ') args s 0 0 (gA E)) (F0 m 153 ls []) := by
  intro μ h H locs ls hM hl
  unfold f_X7_lot_b153 at h
  refine m_ldc (n := -100000002) (pc := 153) C bw_2_93 rfl dX7_lot_153 ?_
  cases h
  exact m_iret (pc := 155) C hM rk_m100000002 dX7_lot_155
set_option maxHeartbeats 4000000 in
set_option maxRecDepth 100000 in
theorem c_X7_lot (l : Launch) (E : gE) (N : Nat) (x0 x1 x2 : Int) (μ μ' : Mm) (r : Int) (h : f_X7_lot N x0 x1 x2 μ = some (r, μ')) (rx1 : R32 x1) (rx2 : R32 x2) : gMet l E yX7_lot cX7_lot 4 (some .int) 2 43 [vr E x0, vi x1, vi x2] (some (vi r)) (R32 r) μ μ' 0 0 := by
  refine g_ofW [1, 1, 1] (by first | (simp only [List.map_cons, List.map_nil, vr_cat]; done) | (simp only [List.map_cons, List.map_nil, vr_cat]; rfl)) (by decide) (by decide) (fun p e s m below meth c ls C hM hl => ?_)
  replace C : gCx p s m _ meth c cX7_lot 4 (some .int) "lot" RX7 := C
  replace hl : lv_has ls 4 [(0, vr E x0), (1, vi x1), (2, vi x2)] := hl
  unfold f_X7_lot at h
  refine m_aload_n (pc := 0) C dX7_lot_0 rfl (lv_at hl 0 rfl) ?_
  obtain ⟨q1, h⟩ := ck_some h
  refine G_X7_now (pc := 1) C hM bw_2_63 q1 dX7_lot_1 ?_
  refine m_iload_n (pc := 4) C dX7_lot_4 rfl (lv_at hl 1 rfl) ?_
  obtain ⟨q2, h⟩ := ck_some h
  obtain ⟨a3, μ4, ca3, h⟩ := bd_some h
  refine V_X6_findLot (pc := 5) C hM ca3 rx1 q2 bw_2_149 ⟨Nat.le_of_ble_eq_true rfl, Nat.le_of_ble_eq_true rfl⟩ hl.1 rc0 ⟨Nat.le_refl _, Nat.le_refl _⟩ dX7_lot_5 (fun _ H locs hM => ?_)
  refine m_astore_n (pc := 8) C dX7_lot_8 rfl hl (by decide) (lvK1 0 rfl (Nat.ne_of_beq_eq_false rfl) (Nat.ne_of_beq_eq_false rfl) (lvK1 1 rfl (Nat.ne_of_beq_eq_false rfl) (Nat.ne_of_beq_eq_false rfl) (lvK2 2 rfl (Nat.ne_of_beq_eq_false rfl) rfl lvK0))) (fun ls hl => ?_)
  refine m_aload_n (pc := 9) C dX7_lot_9 rfl (lv_at hl 0 rfl) ?_
  obtain ⟨q6, h⟩ := ck_some h
  refine m_ifnonnull (tgt := 16) (pc := 10) C q6 dX7_lot_10 (by decide) (fun c5 => ?_) (fun c5 => ?_)
  · have h := if_t h c5
    refine m_iload_n (pc := 16) C dX7_lot_16 rfl (lv_at hl 3 rfl) ?_
    by_cases c7 : x2 = 0
    · have h := if_t h c7
      refine m_tab (pc := 17) (tgt := 84) C rx2 c7 dX7_lot_17 (by decide) (by decide) rfl (by decide) ?_
      exact k_X7_lot_b84 C N _ _ h _ _ _ hM (lv_sub hl [0] rfl)
    replace h := if_f h c7
    by_cases c8 : x2 = 1
    · have h := if_t h c8
      refine m_tab (pc := 17) (tgt := 89) C rx2 c8 dX7_lot_17 (by decide) (by decide) rfl (by decide) ?_
      exact k_X7_lot_b89 C N _ _ h _ _ _ hM (lv_sub hl [0] rfl)
    replace h := if_f h c8
    by_cases c9 : x2 = 2
    · have h := if_t h c9
      refine m_tab (pc := 17) (tgt := 94) C rx2 c9 dX7_lot_17 (by decide) (by decide) rfl (by decide) ?_
      exact k_X7_lot_b94 C N _ _ h _ _ _ hM (lv_sub hl [0] rfl)
    replace h := if_f h c9
    by_cases c10 : x2 = 3
    · have h := if_t h c10
      refine m_tab (pc := 17) (tgt := 99) C rx2 c10 dX7_lot_17 (by decide) (by decide) rfl (by decide) ?_
      exact k_X7_lot_b99 C N _ _ h _ _ _ hM (lv_sub hl [0] rfl)
    replace h := if_f h c10
    by_cases c11 : x2 = 4
    · have h := if_t h c11
      refine m_tab (pc := 17) (tgt := 104) C rx2 c11 dX7_lot_17 (by decide) (by decide) rfl (by decide) ?_
      exact k_X7_lot_b104 C N _ _ h _ _ _ hM (lv_sub hl [0] rfl)
    replace h := if_f h c11
    by_cases c12 : x2 = 5
    · have h := if_t h c12
      refine m_tab (pc := 17) (tgt := 109) C rx2 c12 dX7_lot_17 (by decide) (by decide) rfl (by decide) ?_
      exact k_X7_lot_b109 C N _ _ h _ _ _ hM (lv_sub hl [0] rfl)
    replace h := if_f h c12
    by_cases c13 : x2 = 6
    · have h := if_t h c13
      refine m_tab (pc := 17) (tgt := 114) C rx2 c13 dX7_lot_17 (by decide) (by decide) rfl (by decide) ?_
      exact k_X7_lot_b114 C N _ _ h _ _ _ hM (lv_sub hl [0] rfl)
    replace h := if_f h c13
    by_cases c14 : x2 = 7
    · have h := if_t h c14
      refine m_tab (pc := 17) (tgt := 119) C rx2 c14 dX7_lot_17 (by decide) (by decide) rfl (by decide) ?_
      exact k_X7_lot_b119 C N _ _ h _ _ _ hM (lv_sub hl [0] rfl)
    replace h := if_f h c14
    by_cases c15 : x2 = 8
    · have h := if_t h c15
      refine m_tab (pc := 17) (tgt := 124) C rx2 c15 dX7_lot_17 (by decide) (by decide) rfl (by decide) ?_
      exact k_X7_lot_b124 C N _ _ h _ _ _ hM (lv_sub hl [0] rfl)
    replace h := if_f h c15
    by_cases c16 : x2 = 9
    · have h := if_t h c16
      refine m_tab (pc := 17) (tgt := 129) C rx2 c16 dX7_lot_17 (by decide) (by decide) rfl (by decide) ?_
      exact k_X7_lot_b129 C N _ _ h _ _ _ hM (lv_sub hl [0] rfl)
    replace h := if_f h c16
    by_cases c17 : x2 = 10
    · have h := if_t h c17
      refine m_tab (pc := 17) (tgt := 134) C rx2 c17 dX7_lot_17 (by decide) (by decide) rfl (by decide) ?_
      exact k_X7_lot_b134 C N _ _ h _ _ _ hM (lv_sub hl [0] rfl)
    replace h := if_f h c17
    by_cases c18 : x2 = 11
    · have h := if_t h c18
      refine m_tab (pc := 17) (tgt := 139) C rx2 c18 dX7_lot_17 (by decide) (by decide) rfl (by decide) ?_
      exact k_X7_lot_b139 C N _ _ h _ _ _ hM (lv_sub hl [0] rfl)
    replace h := if_f h c18
    by_cases c19 : x2 = 12
    · have h := if_t h c19
      refine m_tab (pc := 17) (tgt := 144) C rx2 c19 dX7_lot_17 (by decide) (by decide) rfl (by decide) ?_
      exact k_X7_lot_b144 C N _ _ _ h rx1 _ _ _ hM (lv_sub hl [1, 2] rfl)
    replace h := if_f h c19
    refine m_tabD (pc := 17) (tgt := 153) C rx2 dX7_lot_17 (by omega) (by decide) ?_
    exact k_X7_lot_b153 C N _ h _ _ _ hM (lv_sub hl [] rfl)
  · have h := if_f h c5
    refine m_ldc (n := -100000001) (pc := 13) C bw_2_92 rfl dX7_lot_13 ?_
    cases h
    exact m_iret (pc := 15) C hM rk_m100000001 dX7_lot_15
theorem hd_X7_lot : yX7_lot.cls ≠ "java/lang/invoke/MethodHandle" ∧ yX7_lot.cls ≠ "java/lang/invoke/VarHandle" ∧ (parseMethodDescriptor yX7_lot.desc).map (fun d => d.parameters.length) = some 2 := by decide +kernel

theorem V_X7_lot {p : Program} {l : Launch} {e : Env} {R : Room} {s : State} {m : MethodId} {args : Array Value} {below : List Frame} {meth : Method} {c : Code} {H : Heap} {locs : List Loc} {cells slots : Nat} {Q : State → Prop} {cc : ByteArray} {pc nL : Nat} {ls : Array Slot} {rest : List Value} {ret : Option FieldType} {nmm own : String} {E : gE} {μ μ1 : Mm} {index : Nat} (C : gCx p s m args meth c cc nL ret nmm own) (hM : MS E μ s H locs) {N : Nat} {x0 x1 x2 v : Int} (hc : f_X7_lot N x0 x1 x2 μ = some (v, μ1)) (rx1 : R32 x1) (rx2 : R32 x2) (hck : μ x0 (-2) = 9) (h1 : Cond.methodLink own index yX7_lot ∈ bigL) (hR : 3 ≤ R.frames ∧ 66 ≤ R.locals) (hl : ls.size = nL) (hcat : RC rest 8) (hf : cells + 0 ≤ R.cells ∧ slots + 0 ≤ R.slots) (hdg : decode cc pc = .ok (.invokevirtual index, 3)) (kk : (R32 v) → ∀ (H1 : Heap) (locs1 : List Loc), MS E μ1 s H1 locs1 → W p l e R s m args below meth c H1 locs1 (cells + 0) (slots + 0) Q (F0 m (pc + 3) ls (vi v :: rest))) : W p l e R s m args below meth c H locs cells slots Q (F0 m pc ls (vi x2 :: vi x1 :: vr E x0 :: rest)) := g_callV C KF_X7 hM (c_X7_lot l E N x0 x1 x2 μ μ1 v hc rx1 rx2) hck (gV h1 bw_3_55 bw_3_56 bw_1_1 bw_3_57) ⟨rfl, hd_X7_lot⟩ hR rfl hl rfl hcat hf hdg kk
/-! X7_exported -/
def f_X7_exported (N : Nat) (x0 x1 x2 : Int) (μ : Mm) : Rs :=
  ck (μ x0 (-2) = 9) <|
  ck (μ (μ x0 0) (-2) = 8) <|
  bd (f_X6_findExport N (μ x0 0) x1 μ) fun a3 μ4 =>
  ck ((0 : Int) ≤ a3) <|
  if ¬ a3 = 0 then
    (if x2 = 0 then
       (ck (μ4 a3 (-2) = 2) <|
        some (μ4 a3 0, μ4))
     else
     if x2 = 1 then
       (ck (μ4 a3 (-2) = 2) <|
        some (μ4 a3 1, μ4))
     else
     if x2 = 2 then
       (ck (μ4 a3 (-2) = 2) <|
        some (μ4 a3 2, μ4))
     else
     if x2 = 3 then
       (ck (μ4 a3 (-2) = 2) <|
        some (μ4 a3 3, μ4))
     else
     if x2 = 4 then
       (ck (μ4 a3 (-2) = 2) <|
        some (μ4 a3 4, μ4))
     else
     some ((-100000002), μ4))
  else
  some ((-100000001), μ4)
set_option maxHeartbeats 4000000 in
set_option maxRecDepth 100000 in
theorem c_X7_exported (l : Launch) (E : gE) (N : Nat) (x0 x1 x2 : Int) (μ μ' : Mm) (r : Int) (h : f_X7_exported N x0 x1 x2 μ = some (r, μ')) (rx1 : R32 x1) (rx2 : R32 x2) : gMet l E yX7_exported cX7_exported 4 (some .int) 1 21 [vr E x0, vi x1, vi x2] (some (vi r)) (R32 r) μ μ' 0 0 := by
  refine g_ofW [1, 1, 1] (by first | (simp only [List.map_cons, List.map_nil, vr_cat]; done) | (simp only [List.map_cons, List.map_nil, vr_cat]; rfl)) (by decide) (by decide) (fun p e s m below meth c ls C hM hl => ?_)
  replace C : gCx p s m _ meth c cX7_exported 4 (some .int) "exported" RX7 := C
  replace hl : lv_has ls 4 [(0, vr E x0), (1, vi x1), (2, vi x2)] := hl
  unfold f_X7_exported at h
  refine m_aload_n (pc := 0) C dX7_exported_0 rfl (lv_at hl 0 rfl) ?_
  obtain ⟨q1, h⟩ := ck_some h
  refine G_X7_now (pc := 1) C hM bw_2_63 q1 dX7_exported_1 ?_
  refine m_iload_n (pc := 4) C dX7_exported_4 rfl (lv_at hl 1 rfl) ?_
  obtain ⟨q2, h⟩ := ck_some h
  obtain ⟨a3, μ4, ca3, h⟩ := bd_some h
  refine V_X6_findExport (pc := 5) C hM ca3 rx1 q2 bw_2_145 ⟨Nat.le_of_ble_eq_true rfl, Nat.le_of_ble_eq_true rfl⟩ hl.1 rc0 ⟨Nat.le_refl _, Nat.le_refl _⟩ dX7_exported_5 (fun _ H locs hM => ?_)
  refine m_astore_n (pc := 8) C dX7_exported_8 rfl hl (by decide) (lvK2 2 rfl (Nat.ne_of_beq_eq_false rfl) rfl lvK0) (fun ls hl => ?_)
  refine m_aload_n (pc := 9) C dX7_exported_9 rfl (lv_at hl 0 rfl) ?_
  obtain ⟨q6, h⟩ := ck_some h
  refine m_ifnonnull (tgt := 16) (pc := 10) C q6 dX7_exported_10 (by decide) (fun c5 => ?_) (fun c5 => ?_)
  · have h := if_t h c5
    refine m_iload_n (pc := 16) C dX7_exported_16 rfl (lv_at hl 1 rfl) ?_
    by_cases c7 : x2 = 0
    · have h := if_t h c7
      refine m_tab (pc := 17) (tgt := 52) C rx2 c7 dX7_exported_17 (by decide) (by decide) rfl (by decide) ?_
      refine m_aload_n (pc := 52) C dX7_exported_52 rfl (lv_at hl 0 rfl) ?_
      obtain ⟨q8, h⟩ := ck_some h
      have gq8 := Gr_X0_lot hM q8
      refine G_X0_lot (pc := 53) C hM bw_1_157 q8 dX7_exported_53 ?_
      cases h
      exact m_iret (pc := 56) C hM gq8 dX7_exported_56
    replace h := if_f h c7
    by_cases c9 : x2 = 1
    · have h := if_t h c9
      refine m_tab (pc := 17) (tgt := 57) C rx2 c9 dX7_exported_17 (by decide) (by decide) rfl (by decide) ?_
      refine m_aload_n (pc := 57) C dX7_exported_57 rfl (lv_at hl 0 rfl) ?_
      obtain ⟨q10, h⟩ := ck_some h
      have gq10 := Gr_X0_units hM q10
      refine G_X0_units (pc := 58) C hM bw_1_160 q10 dX7_exported_58 ?_
      cases h
      exact m_iret (pc := 61) C hM gq10 dX7_exported_61
    replace h := if_f h c9
    by_cases c11 : x2 = 2
    · have h := if_t h c11
      refine m_tab (pc := 17) (tgt := 62) C rx2 c11 dX7_exported_17 (by decide) (by decide) rfl (by decide) ?_
      refine m_aload_n (pc := 62) C dX7_exported_62 rfl (lv_at hl 0 rfl) ?_
      obtain ⟨q12, h⟩ := ck_some h
      have gq12 := Gr_X0_duty hM q12
      refine G_X0_duty (pc := 63) C hM bw_1_163 q12 dX7_exported_63 ?_
      cases h
      exact m_iret (pc := 66) C hM gq12 dX7_exported_66
    replace h := if_f h c11
    by_cases c13 : x2 = 3
    · have h := if_t h c13
      refine m_tab (pc := 17) (tgt := 67) C rx2 c13 dX7_exported_17 (by decide) (by decide) rfl (by decide) ?_
      refine m_aload_n (pc := 67) C dX7_exported_67 rfl (lv_at hl 0 rfl) ?_
      obtain ⟨q14, h⟩ := ck_some h
      have gq14 := Gr_X0_deadline hM q14
      refine G_X0_deadline (pc := 68) C hM bw_1_165 q14 dX7_exported_68 ?_
      cases h
      exact m_iret (pc := 71) C hM gq14 dX7_exported_71
    replace h := if_f h c13
    by_cases c15 : x2 = 4
    · have h := if_t h c15
      refine m_tab (pc := 17) (tgt := 72) C rx2 c15 dX7_exported_17 (by decide) (by decide) rfl (by decide) ?_
      refine m_aload_n (pc := 72) C dX7_exported_72 rfl (lv_at hl 0 rfl) ?_
      obtain ⟨q16, h⟩ := ck_some h
      have gq16 := Gr_X0_state hM q16
      refine G_X0_state (pc := 73) C hM bw_1_168 q16 dX7_exported_73 ?_
      cases h
      exact m_iret (pc := 76) C hM gq16 dX7_exported_76
    replace h := if_f h c15
    refine m_tabD (pc := 17) (tgt := 77) C rx2 dX7_exported_17 (by omega) (by decide) ?_
    refine m_ldc (n := -100000002) (pc := 77) C bw_2_93 rfl dX7_exported_77 ?_
    cases h
    exact m_iret (pc := 79) C hM rk_m100000002 dX7_exported_79
  · have h := if_f h c5
    refine m_ldc (n := -100000001) (pc := 13) C bw_2_92 rfl dX7_exported_13 ?_
    cases h
    exact m_iret (pc := 15) C hM rk_m100000001 dX7_exported_15
theorem hd_X7_exported : yX7_exported.cls ≠ "java/lang/invoke/MethodHandle" ∧ yX7_exported.cls ≠ "java/lang/invoke/VarHandle" ∧ (parseMethodDescriptor yX7_exported.desc).map (fun d => d.parameters.length) = some 2 := by decide +kernel

theorem V_X7_exported {p : Program} {l : Launch} {e : Env} {R : Room} {s : State} {m : MethodId} {args : Array Value} {below : List Frame} {meth : Method} {c : Code} {H : Heap} {locs : List Loc} {cells slots : Nat} {Q : State → Prop} {cc : ByteArray} {pc nL : Nat} {ls : Array Slot} {rest : List Value} {ret : Option FieldType} {nmm own : String} {E : gE} {μ μ1 : Mm} {index : Nat} (C : gCx p s m args meth c cc nL ret nmm own) (hM : MS E μ s H locs) {N : Nat} {x0 x1 x2 v : Int} (hc : f_X7_exported N x0 x1 x2 μ = some (v, μ1)) (rx1 : R32 x1) (rx2 : R32 x2) (hck : μ x0 (-2) = 9) (h1 : Cond.methodLink own index yX7_exported ∈ bigL) (hR : 2 ≤ R.frames ∧ 44 ≤ R.locals) (hl : ls.size = nL) (hcat : RC rest 8) (hf : cells + 0 ≤ R.cells ∧ slots + 0 ≤ R.slots) (hdg : decode cc pc = .ok (.invokevirtual index, 3)) (kk : (R32 v) → ∀ (H1 : Heap) (locs1 : List Loc), MS E μ1 s H1 locs1 → W p l e R s m args below meth c H1 locs1 (cells + 0) (slots + 0) Q (F0 m (pc + 3) ls (vi v :: rest))) : W p l e R s m args below meth c H locs cells slots Q (F0 m pc ls (vi x2 :: vi x1 :: vr E x0 :: rest)) := g_callV C KF_X7 hM (c_X7_exported l E N x0 x1 x2 μ μ1 v hc rx1 rx2) hck (gV h1 bw_2_227 bw_2_228 bw_1_1 bw_2_229) ⟨rfl, hd_X7_exported⟩ hR rfl hl rfl hcat hf hdg kk
/-! J8_newLength_cabcc -/
def f_J8_newLength_cabcc (N : Nat) (x0 x1 x2 : Int) (μ : Mm) : Rs :=
  nm (max x1 x2) fun a1 =>
  nm (w32 (x0 + a1)) fun a2 =>
  if a2 ≤ (0 : Int) then
    (none)
  else
  if 2147483639 < a2 then
    (none)
  else
  some (a2, μ)
set_option maxHeartbeats 4000000 in
set_option maxRecDepth 100000 in
theorem c_J8_newLength_cabcc (l : Launch) (E : gE) (N : Nat) (x0 x1 x2 : Int) (μ μ' : Mm) (r : Int) (h : f_J8_newLength_cabcc N x0 x1 x2 μ = some (r, μ')) (rx0 : R32 x0) (rx1 : R32 x1) (rx2 : R32 x2) : gMet l E yJ8_newLength_cabcc cJ8_newLength_cabcc 4 (some .int) 1 21 [vi x0, vi x1, vi x2] (some (vi r)) (R32 r) μ μ' 0 0 := by
  refine g_ofW [1, 1, 1] rfl (by decide) (by decide) (fun p e s m below meth c ls C hM hl => ?_)
  replace C : gCx p s m _ meth c cJ8_newLength_cabcc 4 (some .int) "newLength" RJ8 := C
  replace hl : lv_has ls 4 [(0, vi x0), (1, vi x1), (2, vi x2)] := hl
  unfold f_J8_newLength_cabcc at h
  refine m_iload_n (pc := 0) C dJ8_newLength_cabcc_0 rfl (lv_at hl 0 rfl) ?_
  refine m_iload_n (pc := 1) C dJ8_newLength_cabcc_1 rfl (lv_at hl 1 rfl) ?_
  refine m_iload_n (pc := 2) C dJ8_newLength_cabcc_2 rfl (lv_at hl 2 rfl) ?_
  obtain ⟨a1, ea1, h⟩ := nm_some h
  have ra1 : R32 a1 := by rw [ea1]; exact R32_max rx1 rx2
  refine m_mmax (pc := 3) C rx1 rx2 bw_3_138 hl.1 (rcI rc0) ⟨Nat.le_of_ble_eq_true rfl, Nat.le_of_ble_eq_true rfl⟩ ⟨Nat.le_refl _, Nat.le_refl _⟩ ea1 dJ8_newLength_cabcc_3 ?_
  obtain ⟨a2, ea2, h⟩ := nm_some h
  have ra2 : R32 a2 := by rw [ea2]; exact w32_R _
  refine m_iadd (pc := 6) C dJ8_newLength_cabcc_6 ea2 ?_
  refine m_istore_n (pc := 7) C dJ8_newLength_cabcc_7 rfl hl (by decide) (lvK1 0 rfl (Nat.ne_of_beq_eq_false rfl) (Nat.ne_of_beq_eq_false rfl) (lvK1 1 rfl (Nat.ne_of_beq_eq_false rfl) (Nat.ne_of_beq_eq_false rfl) lvK0)) (fun ls hl => ?_)
  refine m_iconst (pc := 8) C dJ8_newLength_cabcc_8 ?_
  refine m_iload_n (pc := 9) C dJ8_newLength_cabcc_9 rfl (lv_at hl 0 rfl) ?_
  refine m_icmp_ge (tgt := 21) (pc := 10) C rk_0 ra2 dJ8_newLength_cabcc_10 (by decide) (fun c3 => ?_) (fun c3 => ?_)
  · have h := if_t h c3
    refine m_iload_n (pc := 21) C dJ8_newLength_cabcc_21 rfl (lv_at hl 1 rfl) ?_
    refine m_iload_n (pc := 22) C dJ8_newLength_cabcc_22 rfl (lv_at hl 2 rfl) ?_
    cases h
  · have h := if_f h c3
    refine m_iload_n (pc := 13) C dJ8_newLength_cabcc_13 rfl (lv_at hl 0 rfl) ?_
    refine m_ldc (n := 2147483639) (pc := 14) C bw_3_141 rfl dJ8_newLength_cabcc_14 ?_
    refine m_icmp_gt (tgt := 21) (pc := 16) C ra2 rk_2147483639 dJ8_newLength_cabcc_16 (by decide) (fun c4 => ?_) (fun c4 => ?_)
    · have h := if_t h c4
      refine m_iload_n (pc := 21) C dJ8_newLength_cabcc_21 rfl (lv_at hl 1 rfl) ?_
      refine m_iload_n (pc := 22) C dJ8_newLength_cabcc_22 rfl (lv_at hl 2 rfl) ?_
      cases h
    · have h := if_f h c4
      refine m_iload_n (pc := 19) C dJ8_newLength_cabcc_19 rfl (lv_at hl 0 rfl) ?_
      cases h
      exact m_iret (pc := 20) C hM ra2 dJ8_newLength_cabcc_20
theorem hd_J8_newLength_cabcc : yJ8_newLength_cabcc.cls ≠ "java/lang/invoke/MethodHandle" ∧ yJ8_newLength_cabcc.cls ≠ "java/lang/invoke/VarHandle" ∧ (parseMethodDescriptor yJ8_newLength_cabcc.desc).map (fun d => d.parameters.length) = some 3 := by decide +kernel

theorem V_J8_newLength_cabcc {p : Program} {l : Launch} {e : Env} {R : Room} {s : State} {m : MethodId} {args : Array Value} {below : List Frame} {meth : Method} {c : Code} {H : Heap} {locs : List Loc} {cells slots : Nat} {Q : State → Prop} {cc : ByteArray} {pc nL : Nat} {ls : Array Slot} {rest : List Value} {ret : Option FieldType} {nmm own : String} {E : gE} {μ μ1 : Mm} {index : Nat} (C : gCx p s m args meth c cc nL ret nmm own) (hM : MS E μ s H locs) {N : Nat} {x0 x1 x2 v : Int} (hc : f_J8_newLength_cabcc N x0 x1 x2 μ = some (v, μ1)) (rx0 : R32 x0) (rx1 : R32 x1) (rx2 : R32 x2) (h1 : Cond.methodLink own index yJ8_newLength_cabcc ∈ bigL) (hR : 2 ≤ R.frames ∧ 44 ≤ R.locals) (hl : ls.size = nL) (hcat : RC rest 8) (hf : cells + 0 ≤ R.cells ∧ slots + 0 ≤ R.slots) (hdg : decode cc pc = .ok (.invokestatic index, 3)) (kk : (R32 v) → ∀ (H1 : Heap) (locs1 : List Loc), MS E μ1 s H1 locs1 → W p l e R s m args below meth c H1 locs1 (cells + 0) (slots + 0) Q (F0 m (pc + 3) ls (vi v :: rest))) : W p l e R s m args below meth c H locs cells slots Q (F0 m pc ls (vi x2 :: vi x1 :: vi x0 :: rest)) := g_callS C hM (c_J8_newLength_cabcc l E N x0 x1 x2 μ μ1 v hc rx0 rx1 rx2) (gS h1 bw_3_136 bw_1_15 bw_3_137) hd_J8_newLength_cabcc hR rfl hl rfl hcat hf hdg kk
/-! J5_newCapacity_0f7a4 -/
def f_J5_newCapacity_0f7a4 (N : Nat) (x0 x1 : Int) (μ : Mm) : Rs :=
  ck (μ x0 (-2) = 1) <|
  ck (μ (μ x0 0) (-2) = 21) <|
  ck (μ x0 (-2) = 1) <|
  nm (o_shl x1 (μ x0 1)) fun a4 =>
  nm (w32 (a4 - (μ (μ x0 0) (-1)))) fun a5 =>
  ck (μ x0 (-2) = 1) <|
  nm (o_shl 2 (μ x0 1)) fun a7 =>
  nm (w32 ((μ (μ x0 0) (-1)) + a7)) fun a8 =>
  bd (f_J8_newLength_cabcc N (μ (μ x0 0) (-1)) a5 a8 μ) fun a9 μ10 =>
  if ¬ a9 = 2147483647 then
    (ck (μ10 x0 (-2) = 1) <|
     nm (o_shr a9 (μ10 x0 1)) fun a13 =>
     some (a13, μ10))
  else
  none
set_option maxHeartbeats 4000000 in
set_option maxRecDepth 100000 in
theorem c_J5_newCapacity_0f7a4 (l : Launch) (E : gE) (N : Nat) (x0 x1 : Int) (μ μ' : Mm) (r : Int) (h : f_J5_newCapacity_0f7a4 N x0 x1 μ = some (r, μ')) (rx1 : R32 x1) : gMet l E yJ5_newCapacity_0f7a4 cJ5_newCapacity_0f7a4 6 (some .int) 2 44 [vr E x0, vi x1] (some (vi r)) (R32 r) μ μ' 0 0 := by
  refine g_ofW [1, 1] (by first | (simp only [List.map_cons, List.map_nil, vr_cat]; done) | (simp only [List.map_cons, List.map_nil, vr_cat]; rfl)) (by decide) (by decide) (fun p e s m below meth c ls C hM hl => ?_)
  replace C : gCx p s m _ meth c cJ5_newCapacity_0f7a4 6 (some .int) "newCapacity" RJ5 := C
  replace hl : lv_has ls 6 [(0, vr E x0), (1, vi x1)] := hl
  unfold f_J5_newCapacity_0f7a4 at h
  refine m_aload_n (pc := 0) C dJ5_newCapacity_0f7a4_0 rfl (lv_at hl 0 rfl) ?_
  obtain ⟨q1, h⟩ := ck_some h
  refine G_J4_value (pc := 1) C hM bw_2_49 q1 dJ5_newCapacity_0f7a4_1 ?_
  obtain ⟨q2, h⟩ := ck_some h
  have gq2 := Al_b hM q2
  refine m_alenB (pc := 4) C hM q2 dJ5_newCapacity_0f7a4_4 ?_
  refine m_istore_n (pc := 5) C dJ5_newCapacity_0f7a4_5 rfl hl (by decide) (lvK1 0 rfl (Nat.ne_of_beq_eq_false rfl) (Nat.ne_of_beq_eq_false rfl) (lvK2 1 rfl (Nat.ne_of_beq_eq_false rfl) rfl lvK0)) (fun ls hl => ?_)
  refine m_iload_n (pc := 6) C dJ5_newCapacity_0f7a4_6 rfl (lv_at hl 2 rfl) ?_
  refine m_aload_n (pc := 7) C dJ5_newCapacity_0f7a4_7 rfl (lv_at hl 1 rfl) ?_
  obtain ⟨q3, h⟩ := ck_some h
  have gq3 := Gr_J4_coder hM q3
  refine G_J4_coder (pc := 8) C hM bw_2_50 q3 dJ5_newCapacity_0f7a4_8 ?_
  obtain ⟨a4, ea4, h⟩ := nm_some h
  have ra4 : R32 a4 := by rw [ea4]; exact R32_of _
  refine m_ishl (pc := 11) C dJ5_newCapacity_0f7a4_11 ea4 ?_
  refine m_istore_n (pc := 12) C dJ5_newCapacity_0f7a4_12 rfl hl (by decide) (lvK2 0 rfl (Nat.ne_of_beq_eq_false rfl) rfl (lvK1 1 rfl (Nat.ne_of_beq_eq_false rfl) (Nat.ne_of_beq_eq_false rfl) lvK0)) (fun ls hl => ?_)
  refine m_iload_n (pc := 13) C dJ5_newCapacity_0f7a4_13 rfl (lv_at hl 0 rfl) ?_
  refine m_iload_n (pc := 14) C dJ5_newCapacity_0f7a4_14 rfl (lv_at hl 1 rfl) ?_
  obtain ⟨a5, ea5, h⟩ := nm_some h
  have ra5 : R32 a5 := by rw [ea5]; exact w32_R _
  refine m_isub (pc := 15) C dJ5_newCapacity_0f7a4_15 ea5 ?_
  refine m_istore (pc := 16) C dJ5_newCapacity_0f7a4_16 hl (by decide) (lvK1 1 rfl (Nat.ne_of_beq_eq_false rfl) (Nat.ne_of_beq_eq_false rfl) (lvK1 2 rfl (Nat.ne_of_beq_eq_false rfl) (Nat.ne_of_beq_eq_false rfl) lvK0)) (fun ls hl => ?_)
  refine m_iload_n (pc := 18) C dJ5_newCapacity_0f7a4_18 rfl (lv_at hl 1 rfl) ?_
  refine m_iload (pc := 19) C dJ5_newCapacity_0f7a4_19 (lv_at hl 0 rfl) ?_
  refine m_iload_n (pc := 21) C dJ5_newCapacity_0f7a4_21 rfl (lv_at hl 1 rfl) ?_
  refine m_iconst (pc := 22) C dJ5_newCapacity_0f7a4_22 ?_
  refine m_aload_n (pc := 23) C dJ5_newCapacity_0f7a4_23 rfl (lv_at hl 2 rfl) ?_
  obtain ⟨q6, h⟩ := ck_some h
  have gq6 := Gr_J4_coder hM q6
  refine G_J4_coder (pc := 24) C hM bw_2_50 q6 dJ5_newCapacity_0f7a4_24 ?_
  obtain ⟨a7, ea7, h⟩ := nm_some h
  have ra7 : R32 a7 := by rw [ea7]; exact R32_of _
  refine m_ishl (pc := 27) C dJ5_newCapacity_0f7a4_27 ea7 ?_
  obtain ⟨a8, ea8, h⟩ := nm_some h
  have ra8 : R32 a8 := by rw [ea8]; exact w32_R _
  refine m_iadd (pc := 28) C dJ5_newCapacity_0f7a4_28 ea8 ?_
  obtain ⟨a9, μ10, ca9, h⟩ := bd_some h
  refine V_J8_newLength_cabcc (pc := 29) C hM ca9 gq2 ra5 ra8 bw_3_135 ⟨Nat.le_of_ble_eq_true rfl, Nat.le_of_ble_eq_true rfl⟩ hl.1 rc0 ⟨Nat.le_refl _, Nat.le_refl _⟩ dJ5_newCapacity_0f7a4_29 (fun ra9 H locs hM => ?_)
  refine m_istore (pc := 32) C dJ5_newCapacity_0f7a4_32 hl (by decide) (lvK1 2 rfl (Nat.ne_of_beq_eq_false rfl) (Nat.ne_of_beq_eq_false rfl) lvK0) (fun ls hl => ?_)
  refine m_iload (pc := 34) C dJ5_newCapacity_0f7a4_34 (lv_at hl 0 rfl) ?_
  refine m_ldc (n := 2147483647) (pc := 36) C bw_3_145 rfl dJ5_newCapacity_0f7a4_36 ?_
  refine m_icmp_ne (tgt := 51) (pc := 38) C ra9 rk_2147483647 dJ5_newCapacity_0f7a4_38 (by decide) (fun c11 => ?_) (fun c11 => ?_)
  · have h := if_t h c11
    refine m_iload (pc := 51) C dJ5_newCapacity_0f7a4_51 (lv_at hl 0 rfl) ?_
    refine m_aload_n (pc := 53) C dJ5_newCapacity_0f7a4_53 rfl (lv_at hl 1 rfl) ?_
    obtain ⟨q12, h⟩ := ck_some h
    have gq12 := Gr_J4_coder hM q12
    refine G_J4_coder (pc := 54) C hM bw_2_50 q12 dJ5_newCapacity_0f7a4_54 ?_
    obtain ⟨a13, ea13, h⟩ := nm_some h
    have ra13 : R32 a13 := by rw [ea13]; exact R32_of _
    refine m_ishr (pc := 57) C dJ5_newCapacity_0f7a4_57 ea13 ?_
    cases h
    exact m_iret (pc := 58) C hM ra13 dJ5_newCapacity_0f7a4_58
  · have h := if_f h c11
    cases h
theorem hd_J5_newCapacity_0f7a4 : yJ5_newCapacity_0f7a4.cls ≠ "java/lang/invoke/MethodHandle" ∧ yJ5_newCapacity_0f7a4.cls ≠ "java/lang/invoke/VarHandle" ∧ (parseMethodDescriptor yJ5_newCapacity_0f7a4.desc).map (fun d => d.parameters.length) = some 1 := by decide +kernel

theorem VU_J5_newCapacity_0f7a4 {p : Program} {l : Launch} {e : Env} {R : Room} {s : State} {m : MethodId} {args : Array Value} {below : List Frame} {meth : Method} {c : Code} {H : Heap} {locs : List Loc} {cells slots : Nat} {Q : State → Prop} {cc : ByteArray} {pc nL : Nat} {ls : Array Slot} {rest : List Value} {ret : Option FieldType} {nmm own : String} {E : gE} {μ μ1 : Mm} {index : Nat} (C : gCx p s m args meth c cc nL ret nmm own) (hM : MS E μ s H locs) {N : Nat} {x0 x1 v : Int} (hc : f_J5_newCapacity_0f7a4 N x0 x1 μ = some (v, μ1)) (rx1 : R32 x1) (hck : μ x0 (-2) = 1) (h1 : Cond.methodLink own index yJ5_newCapacity_0f7a4 ∈ bigL) (hR : 3 ≤ R.frames ∧ 69 ≤ R.locals) (hl : ls.size = nL) (hcat : RC rest 8) (hf : cells + 0 ≤ R.cells ∧ slots + 0 ≤ R.slots) (hdg : decode cc pc = .ok (.invokevirtual index, 3)) (kk : (R32 v) → ∀ (H1 : Heap) (locs1 : List Loc), MS E μ1 s H1 locs1 → W p l e R s m args below meth c H1 locs1 (cells + 0) (slots + 0) Q (F0 m (pc + 3) ls (vi v :: rest))) : W p l e R s m args below meth c H locs cells slots Q (F0 m pc ls (vi x1 :: vr E x0 :: rest)) := g_callVU C hM (c_J5_newCapacity_0f7a4 l E N x0 x1 μ μ1 v hc rx1) hck h1 bw_5_32 (SE_new hM) bw_3_133 bw_1_9 bw_3_134 hd_J5_newCapacity_0f7a4 hR rfl hl rfl hcat hf hdg kk
/-! J7_copyOf_9075b -/
def f_J7_copyOf_9075b (N : Nat) (x0 x1 : Int) (μ : Mm) : Rs :=
  ck (μ x0 (-2) = 21) <|
  if ¬ x1 = (μ x0 (-1)) then
    (ck ((1 : Int) ≤ 1 ∧ (0 : Int) ≤ x1 ∧ (x1 : Int) ≤ 200 ∧ (x1 : Int) ≤ 4096) <|
     nm (μ 0 0 + 1) fun o5 =>
     nm (mnew μ 21 x1 x1) fun μ4 =>
     ck (μ4 x0 (-2) = 21) <|
     nm (min (μ4 x0 (-1)) x1) fun a7 =>
     ck (μ4 x0 (-2) = 21 ∧ μ4 o5 (-2) = 21 ∧ (0 : Int) ≤ x0 ∧ (0 : Int) ≤ o5 ∧ (0 : Int) ≤ 0 ∧ (0 : Int) ≤ 0 ∧ (0 : Int) ≤ a7 ∧ 0 + a7 ≤ μ4 x0 (-1) ∧ 0 + a7 ≤ μ4 o5 (-1)) <|
     nm (mcpy μ4 x0 0 o5 0 a7) fun μ9 =>
     some (o5, μ9))
  else
  none
set_option maxHeartbeats 4000000 in
set_option maxRecDepth 100000 in
theorem c_J7_copyOf_9075b (l : Launch) (E : gE) (N : Nat) (x0 x1 : Int) (μ μ' : Mm) (r : Int) (h : f_J7_copyOf_9075b N x0 x1 μ = some (r, μ')) (rx1 : R32 x1) : gMet l E yJ7_copyOf_9075b cJ7_copyOf_9075b 3 (some (.array .byte)) 1 40 [vr E x0, vi x1] (some (vr E r)) True μ μ' 1 200 := by
  refine g_ofW [1, 1] (by first | (simp only [List.map_cons, List.map_nil, vr_cat]; done) | (simp only [List.map_cons, List.map_nil, vr_cat]; rfl)) (by decide) (by decide) (fun p e s m below meth c ls C hM hl => ?_)
  replace C : gCx p s m _ meth c cJ7_copyOf_9075b 3 (some (.array .byte)) "copyOf" RJ7 := C
  replace hl : lv_has ls 3 [(0, vr E x0), (1, vi x1)] := hl
  unfold f_J7_copyOf_9075b at h
  have hb : ((0 : Nat) : Int) + 1 ≤ 1 ∧ (0 : Int) ≤ 1 ∧ ((0 : Nat) : Int) + 200 ≤ 200 ∧ (0 : Int) ≤ 200 := by decide
  refine m_iload_n (pc := 0) C dJ7_copyOf_9075b_0 rfl (lv_at hl 1 rfl) ?_
  refine m_aload_n (pc := 1) C dJ7_copyOf_9075b_1 rfl (lv_at hl 0 rfl) ?_
  obtain ⟨q1, h⟩ := ck_some h
  have gq1 := Al_b hM q1
  refine m_alenB (pc := 2) C hM q1 dJ7_copyOf_9075b_2 ?_
  refine m_icmp_ne (tgt := 14) (pc := 3) C rx1 gq1 dJ7_copyOf_9075b_3 (by decide) (fun c2 => ?_) (fun c2 => ?_)
  · have h := if_t h c2
    refine m_iload_n (pc := 14) C dJ7_copyOf_9075b_14 rfl (lv_at hl 1 rfl) ?_
    obtain ⟨q3, h⟩ := ck_some h
    obtain ⟨o5, eo5, h⟩ := nm_some h
    obtain ⟨μ4, eμ4, h⟩ := nm_some h
    have po5 : 1 ≤ o5 := by have := hM.wf.1; omega
    refine m_newa (atype := .byte) (kc := 21) (t0 := 0) (pc := 15) C hM rfl (by decide) rfl (fun C => by intro q; cases q) bw_2_62 rx1 q3.2.1 (nb8 q3.2.2.2 (by decide)) (by show _ + 1 ≤ 1; omega) (by show _ + (x1 : Int).toNat ≤ 200; omega) eμ4 dJ7_copyOf_9075b_15 (fun H hM => ?_)
    rw [← eo5]
    replace hb : ((0 + 1 : Nat) : Int) + (1 - 1) ≤ 1 ∧ (0 : Int) ≤ 1 - 1 ∧ ((0 + (x1 : Int).toNat : Nat) : Int) + (200 - x1) ≤ 200 ∧ (0 : Int) ≤ 200 - x1 := by omega
    refine m_astore_n (pc := 17) C dJ7_copyOf_9075b_17 rfl hl (by decide) (lvK1 0 rfl (Nat.ne_of_beq_eq_false rfl) (Nat.ne_of_beq_eq_false rfl) (lvK2 1 rfl (Nat.ne_of_beq_eq_false rfl) rfl lvK0)) (fun ls hl => ?_)
    refine m_aload_n (pc := 18) C dJ7_copyOf_9075b_18 rfl (lv_at hl 1 rfl) ?_
    refine m_iconst (pc := 19) C dJ7_copyOf_9075b_19 ?_
    refine m_aload_n (pc := 20) C dJ7_copyOf_9075b_20 rfl (lv_at hl 0 rfl) ?_
    refine m_iconst (pc := 21) C dJ7_copyOf_9075b_21 ?_
    refine m_aload_n (pc := 22) C dJ7_copyOf_9075b_22 rfl (lv_at hl 1 rfl) ?_
    obtain ⟨q6, h⟩ := ck_some h
    have gq6 := Al_b hM q6
    refine m_alenB (pc := 23) C hM q6 dJ7_copyOf_9075b_23 ?_
    refine m_iload_n (pc := 24) C dJ7_copyOf_9075b_24 rfl (lv_at hl 2 rfl) ?_
    obtain ⟨a7, ea7, h⟩ := nm_some h
    have ra7 : R32 a7 := by rw [ea7]; exact R32_min gq6 rx1
    refine m_mmin (pc := 25) C gq6 rx1 bw_3_156 hl.1 (rcI (rcR (rcI (rcR rc0)))) ⟨Nat.le_of_ble_eq_true rfl, Nat.le_of_ble_eq_true rfl⟩ ⟨by show _ + 0 ≤ 1; omega, by show _ + 0 ≤ 200; omega⟩ ea7 dJ7_copyOf_9075b_25 ?_
    obtain ⟨q8, h⟩ := ck_some h
    obtain ⟨μ9, eμ9, h⟩ := nm_some h
    refine m_acopy (kc := 21) (pc := 28) C hM bw_3_159 (Or.inl rfl) q8 rk_0 rk_0 ra7 hl.1 rc0 ⟨Nat.le_of_ble_eq_true rfl, Nat.le_of_ble_eq_true rfl⟩ eμ9 dJ7_copyOf_9075b_28 (fun H locs hM => ?_)
    refine m_aload_n (pc := 31) C dJ7_copyOf_9075b_31 rfl (lv_at hl 0 rfl) ?_
    cases h
    refine W.widen (k := 1) (n := 200) (by omega) (by omega) ?_
    exact m_aret (pc := 32) C (Or.inr ⟨_, rfl⟩) hM trivial dJ7_copyOf_9075b_32
  · have h := if_f h c2
    refine m_aload_n (pc := 6) C dJ7_copyOf_9075b_6 rfl (lv_at hl 0 rfl) ?_
    cases h
theorem hd_J7_copyOf_9075b : yJ7_copyOf_9075b.cls ≠ "java/lang/invoke/MethodHandle" ∧ yJ7_copyOf_9075b.cls ≠ "java/lang/invoke/VarHandle" ∧ (parseMethodDescriptor yJ7_copyOf_9075b.desc).map (fun d => d.parameters.length) = some 2 := by decide +kernel

theorem V_J7_copyOf_9075b {p : Program} {l : Launch} {e : Env} {R : Room} {s : State} {m : MethodId} {args : Array Value} {below : List Frame} {meth : Method} {c : Code} {H : Heap} {locs : List Loc} {cells slots : Nat} {Q : State → Prop} {cc : ByteArray} {pc nL : Nat} {ls : Array Slot} {rest : List Value} {ret : Option FieldType} {nmm own : String} {E : gE} {μ μ1 : Mm} {index : Nat} (C : gCx p s m args meth c cc nL ret nmm own) (hM : MS E μ s H locs) {N : Nat} {x0 x1 v : Int} (hc : f_J7_copyOf_9075b N x0 x1 μ = some (v, μ1)) (rx1 : R32 x1) (h1 : Cond.methodLink own index yJ7_copyOf_9075b ∈ bigL) (hR : 2 ≤ R.frames ∧ 62 ≤ R.locals) (hl : ls.size = nL) (hcat : RC rest 8) (hf : cells + 1 ≤ R.cells ∧ slots + 200 ≤ R.slots) (hdg : decode cc pc = .ok (.invokestatic index, 3)) (kk : True → ∀ (H1 : Heap) (locs1 : List Loc), MS E μ1 s H1 locs1 → W p l e R s m args below meth c H1 locs1 (cells + 1) (slots + 200) Q (F0 m (pc + 3) ls (vr E v :: rest))) : W p l e R s m args below meth c H locs cells slots Q (F0 m pc ls (vi x1 :: vr E x0 :: rest)) := g_callS C hM (c_J7_copyOf_9075b l E N x0 x1 μ μ1 v hc rx1) (gS h1 bw_3_147 bw_1_16 bw_3_148) hd_J7_copyOf_9075b hR rfl hl rfl hcat hf hdg kk
/-! J5_ensureCapacityInternal_d00df -/
def f_J5_ensureCapacityInternal_d00df (N : Nat) (x0 x1 : Int) (μ : Mm) : Rs :=
  ck (μ x0 (-2) = 1) <|
  ck (μ (μ x0 0) (-2) = 21) <|
  ck (μ x0 (-2) = 1) <|
  nm (o_shr (μ (μ x0 0) (-1)) (μ x0 1)) fun a4 =>
  nm (w32 (x1 - a4)) fun a5 =>
  if a5 ≤ 0 then
    (some (0, μ))
  else
  ck (μ x0 (-2) = 1) <|
  ck (μ x0 (-2) = 1) <|
  bd (f_J5_newCapacity_0f7a4 N x0 x1 μ) fun a9 μ10 =>
  ck (μ10 x0 (-2) = 1) <|
  nm (o_shl a9 (μ10 x0 1)) fun a12 =>
  ck ((1 : Int) ≤ 1 ∧ (200 : Int) ≤ 200) <|
  bd (f_J7_copyOf_9075b N (μ x0 0) a12 μ10) fun a14 μ15 =>
  ck (μ15 x0 (-2) = 1) <|
  nm (mset μ15 x0 0 a14) fun μ17 =>
  some (0, μ17)
set_option maxHeartbeats 4000000 in
set_option maxRecDepth 100000 in
theorem c_J5_ensureCapacityInternal_d00df (l : Launch) (E : gE) (N : Nat) (x0 x1 : Int) (μ μ' : Mm) (r : Int) (h : f_J5_ensureCapacityInternal_d00df N x0 x1 μ = some (r, μ')) (rx1 : R32 x1) : gMet l E yJ5_ensureCapacityInternal_d00df cJ5_ensureCapacityInternal_d00df 3 none 3 69 [vr E x0, vi x1] none True μ μ' 1 200 := by
  refine g_ofW [1, 1] (by first | (simp only [List.map_cons, List.map_nil, vr_cat]; done) | (simp only [List.map_cons, List.map_nil, vr_cat]; rfl)) (by decide) (by decide) (fun p e s m below meth c ls C hM hl => ?_)
  replace C : gCx p s m _ meth c cJ5_ensureCapacityInternal_d00df 3 none "ensureCapacityInternal" RJ5 := C
  replace hl : lv_has ls 3 [(0, vr E x0), (1, vi x1)] := hl
  unfold f_J5_ensureCapacityInternal_d00df at h
  have hb : ((0 : Nat) : Int) + 1 ≤ 1 ∧ (0 : Int) ≤ 1 ∧ ((0 : Nat) : Int) + 200 ≤ 200 ∧ (0 : Int) ≤ 200 := by decide
  refine m_aload_n (pc := 0) C dJ5_ensureCapacityInternal_d00df_0 rfl (lv_at hl 0 rfl) ?_
  obtain ⟨q1, h⟩ := ck_some h
  refine G_J4_value (pc := 1) C hM bw_2_49 q1 dJ5_ensureCapacityInternal_d00df_1 ?_
  obtain ⟨q2, h⟩ := ck_some h
  have gq2 := Al_b hM q2
  refine m_alenB (pc := 4) C hM q2 dJ5_ensureCapacityInternal_d00df_4 ?_
  refine m_aload_n (pc := 5) C dJ5_ensureCapacityInternal_d00df_5 rfl (lv_at hl 0 rfl) ?_
  obtain ⟨q3, h⟩ := ck_some h
  have gq3 := Gr_J4_coder hM q3
  refine G_J4_coder (pc := 6) C hM bw_2_50 q3 dJ5_ensureCapacityInternal_d00df_6 ?_
  obtain ⟨a4, ea4, h⟩ := nm_some h
  have ra4 : R32 a4 := by rw [ea4]; exact R32_of _
  refine m_ishr (pc := 9) C dJ5_ensureCapacityInternal_d00df_9 ea4 ?_
  refine m_istore_n (pc := 10) C dJ5_ensureCapacityInternal_d00df_10 rfl hl (by decide) (lvK1 0 rfl (Nat.ne_of_beq_eq_false rfl) (Nat.ne_of_beq_eq_false rfl) (lvK2 1 rfl (Nat.ne_of_beq_eq_false rfl) rfl lvK0)) (fun ls hl => ?_)
  refine m_iload_n (pc := 11) C dJ5_ensureCapacityInternal_d00df_11 rfl (lv_at hl 2 rfl) ?_
  refine m_iload_n (pc := 12) C dJ5_ensureCapacityInternal_d00df_12 rfl (lv_at hl 0 rfl) ?_
  obtain ⟨a5, ea5, h⟩ := nm_some h
  have ra5 : R32 a5 := by rw [ea5]; exact w32_R _
  refine m_isub (pc := 13) C dJ5_ensureCapacityInternal_d00df_13 ea5 ?_
  refine m_if_le (tgt := 38) (pc := 14) C ra5 dJ5_ensureCapacityInternal_d00df_14 (by decide) (fun c6 => ?_) (fun c6 => ?_)
  · have h := if_t h c6
    cases h
    refine W.widen (k := 1) (n := 200) (by omega) (by omega) ?_
    exact m_vret (pc := 38) C hM trivial dJ5_ensureCapacityInternal_d00df_38
  · have h := if_f h c6
    refine m_aload_n (pc := 17) C dJ5_ensureCapacityInternal_d00df_17 rfl (lv_at hl 1 rfl) ?_
    refine m_aload_n (pc := 18) C dJ5_ensureCapacityInternal_d00df_18 rfl (lv_at hl 1 rfl) ?_
    obtain ⟨q7, h⟩ := ck_some h
    refine G_J4_value (pc := 19) C hM bw_2_49 q7 dJ5_ensureCapacityInternal_d00df_19 ?_
    refine m_aload_n (pc := 22) C dJ5_ensureCapacityInternal_d00df_22 rfl (lv_at hl 1 rfl) ?_
    refine m_iload_n (pc := 23) C dJ5_ensureCapacityInternal_d00df_23 rfl (lv_at hl 2 rfl) ?_
    obtain ⟨q8, h⟩ := ck_some h
    obtain ⟨a9, μ10, ca9, h⟩ := bd_some h
    refine VU_J5_newCapacity_0f7a4 (pc := 24) C hM ca9 rx1 q8 bw_3_131 ⟨Nat.le_of_ble_eq_true rfl, Nat.le_of_ble_eq_true rfl⟩ hl.1 (rcR (rcR rc0)) ⟨by show _ + 0 ≤ 1; omega, by show _ + 0 ≤ 200; omega⟩ dJ5_ensureCapacityInternal_d00df_24 (fun ra9 H locs hM => ?_)
    refine m_aload_n (pc := 27) C dJ5_ensureCapacityInternal_d00df_27 rfl (lv_at hl 1 rfl) ?_
    obtain ⟨q11, h⟩ := ck_some h
    have gq11 := Gr_J4_coder hM q11
    refine G_J4_coder (pc := 28) C hM bw_2_50 q11 dJ5_ensureCapacityInternal_d00df_28 ?_
    obtain ⟨a12, ea12, h⟩ := nm_some h
    have ra12 : R32 a12 := by rw [ea12]; exact R32_of _
    refine m_ishl (pc := 31) C dJ5_ensureCapacityInternal_d00df_31 ea12 ?_
    obtain ⟨q13, h⟩ := ck_some h
    obtain ⟨a14, μ15, ca14, h⟩ := bd_some h
    refine V_J7_copyOf_9075b (pc := 32) C hM ca14 ra12 bw_3_146 ⟨Nat.le_of_ble_eq_true rfl, Nat.le_of_ble_eq_true rfl⟩ hl.1 (rcR rc0) ⟨by show _ + 1 ≤ 1; omega, by show _ + 200 ≤ 200; omega⟩ dJ5_ensureCapacityInternal_d00df_32 (fun _ H locs hM => ?_)
    replace hb : ((0 + 1 : Nat) : Int) + (1 - 1) ≤ 1 ∧ (0 : Int) ≤ 1 - 1 ∧ ((0 + 200 : Nat) : Int) + (200 - 200) ≤ 200 ∧ (0 : Int) ≤ 200 - 200 := by omega
    obtain ⟨q16, h⟩ := ck_some h
    obtain ⟨μ17, eμ17, h⟩ := nm_some h
    refine P_J4_value (pc := 35) C hM bw_2_49 q16 eμ17 dJ5_ensureCapacityInternal_d00df_35 (fun H locs hM => ?_)
    cases h
    refine W.widen (k := 1) (n := 200) (by omega) (by omega) ?_
    exact m_vret (pc := 38) C hM trivial dJ5_ensureCapacityInternal_d00df_38
theorem hd_J5_ensureCapacityInternal_d00df : yJ5_ensureCapacityInternal_d00df.cls ≠ "java/lang/invoke/MethodHandle" ∧ yJ5_ensureCapacityInternal_d00df.cls ≠ "java/lang/invoke/VarHandle" ∧ (parseMethodDescriptor yJ5_ensureCapacityInternal_d00df.desc).map (fun d => d.parameters.length) = some 1 := by decide +kernel

theorem VU_J5_ensureCapacityInternal_d00df {p : Program} {l : Launch} {e : Env} {R : Room} {s : State} {m : MethodId} {args : Array Value} {below : List Frame} {meth : Method} {c : Code} {H : Heap} {locs : List Loc} {cells slots : Nat} {Q : State → Prop} {cc : ByteArray} {pc nL : Nat} {ls : Array Slot} {rest : List Value} {ret : Option FieldType} {nmm own : String} {E : gE} {μ μ1 : Mm} {index : Nat} (C : gCx p s m args meth c cc nL ret nmm own) (hM : MS E μ s H locs) {N : Nat} {x0 x1 v : Int} (hc : f_J5_ensureCapacityInternal_d00df N x0 x1 μ = some (v, μ1)) (rx1 : R32 x1) (hck : μ x0 (-2) = 1) (h1 : Cond.methodLink own index yJ5_ensureCapacityInternal_d00df ∈ bigL) (hR : 4 ≤ R.frames ∧ 91 ≤ R.locals) (hl : ls.size = nL) (hcat : RC rest 8) (hf : cells + 1 ≤ R.cells ∧ slots + 200 ≤ R.slots) (hdg : decode cc pc = .ok (.invokevirtual index, 3)) (kk : True → ∀ (H1 : Heap) (locs1 : List Loc), MS E μ1 s H1 locs1 → W p l e R s m args below meth c H1 locs1 (cells + 1) (slots + 200) Q (F0 m (pc + 3) ls rest)) : W p l e R s m args below meth c H locs cells slots Q (F0 m pc ls (vi x1 :: vr E x0 :: rest)) := g_callVU C hM (c_J5_ensureCapacityInternal_d00df l E N x0 x1 μ μ1 v hc rx1) hck h1 bw_5_31 (SE_ens hM) bw_3_129 bw_1_9 bw_3_130 hd_J5_ensureCapacityInternal_d00df hR rfl hl rfl hcat hf hdg kk
/-! J5_isLatin1_aae02 -/
def f_J5_isLatin1_aae02 (N : Nat) (x0 : Int) (μ : Mm) : Rs :=
  if (1 : Int) = 0 then
    (some (0, μ))
  else
  ck (μ x0 (-2) = 1) <|
  if ¬ (μ x0 1) = 0 then
    (some (0, μ))
  else
  some (1, μ)
set_option maxHeartbeats 4000000 in
set_option maxRecDepth 100000 in
theorem c_J5_isLatin1_aae02 (l : Launch) (E : gE) (N : Nat) (x0 : Int) (μ μ' : Mm) (r : Int) (h : f_J5_isLatin1_aae02 N x0 μ = some (r, μ')) : gMet l E yJ5_isLatin1_aae02 cJ5_isLatin1_aae02 1 (some .boolean) 0 0 [vr E x0] (some (vi r)) (R32 r) μ μ' 0 0 := by
  refine g_ofW [1] (by first | (simp only [List.map_cons, List.map_nil, vr_cat]; done) | (simp only [List.map_cons, List.map_nil, vr_cat]; rfl)) (by decide) (by decide) (fun p e s m below meth c ls C hM hl => ?_)
  replace C : gCx p s m _ meth c cJ5_isLatin1_aae02 1 (some .boolean) "isLatin1" RJ5 := C
  replace hl : lv_has ls 1 [(0, vr E x0)] := hl
  unfold f_J5_isLatin1_aae02 at h
  refine m_compact (pc := 0) C hM bw_2_40 dJ5_isLatin1_aae02_0 ?_
  refine m_if_eq (tgt := 17) (pc := 3) C rk_1 dJ5_isLatin1_aae02_3 (by decide) (fun c1 => ?_) (fun c1 => ?_)
  · have h := if_t h c1
    refine m_iconst (pc := 17) C dJ5_isLatin1_aae02_17 ?_
    cases h
    exact m_zret (pc := 18) C rfl hM rk_0 dJ5_isLatin1_aae02_18
  · have h := if_f h c1
    refine m_aload_n (pc := 6) C dJ5_isLatin1_aae02_6 rfl (lv_at hl 0 rfl) ?_
    obtain ⟨q2, h⟩ := ck_some h
    have gq2 := Gr_J4_coder hM q2
    refine G_J4_coder (pc := 7) C hM bw_2_50 q2 dJ5_isLatin1_aae02_7 ?_
    refine m_if_ne (tgt := 17) (pc := 10) C gq2 dJ5_isLatin1_aae02_10 (by decide) (fun c3 => ?_) (fun c3 => ?_)
    · have h := if_t h c3
      refine m_iconst (pc := 17) C dJ5_isLatin1_aae02_17 ?_
      cases h
      exact m_zret (pc := 18) C rfl hM rk_0 dJ5_isLatin1_aae02_18
    · have h := if_f h c3
      refine m_iconst (pc := 13) C dJ5_isLatin1_aae02_13 ?_
      refine m_goto (tgt := 18) (pc := 14) C dJ5_isLatin1_aae02_14 (by decide) ?_
      cases h
      exact m_zret (pc := 18) C rfl hM rk_1 dJ5_isLatin1_aae02_18
theorem hd_J5_isLatin1_aae02 : yJ5_isLatin1_aae02.cls ≠ "java/lang/invoke/MethodHandle" ∧ yJ5_isLatin1_aae02.cls ≠ "java/lang/invoke/VarHandle" ∧ (parseMethodDescriptor yJ5_isLatin1_aae02.desc).map (fun d => d.parameters.length) = some 0 := by decide +kernel

theorem VU_J5_isLatin1_aae02 {p : Program} {l : Launch} {e : Env} {R : Room} {s : State} {m : MethodId} {args : Array Value} {below : List Frame} {meth : Method} {c : Code} {H : Heap} {locs : List Loc} {cells slots : Nat} {Q : State → Prop} {cc : ByteArray} {pc nL : Nat} {ls : Array Slot} {rest : List Value} {ret : Option FieldType} {nmm own : String} {E : gE} {μ μ1 : Mm} {index : Nat} (C : gCx p s m args meth c cc nL ret nmm own) (hM : MS E μ s H locs) {N : Nat} {x0 v : Int} (hc : f_J5_isLatin1_aae02 N x0 μ = some (v, μ1)) (hck : μ x0 (-2) = 1) (h1 : Cond.methodLink own index yJ5_isLatin1_aae02 ∈ bigL) (hR : 1 ≤ R.frames ∧ 20 ≤ R.locals) (hl : ls.size = nL) (hcat : RC rest 8) (hf : cells + 0 ≤ R.cells ∧ slots + 0 ≤ R.slots) (hdg : decode cc pc = .ok (.invokevirtual index, 3)) (kk : (R32 v) → ∀ (H1 : Heap) (locs1 : List Loc), MS E μ1 s H1 locs1 → W p l e R s m args below meth c H1 locs1 (cells + 0) (slots + 0) Q (F0 m (pc + 3) ls (vi v :: rest))) : W p l e R s m args below meth c H locs cells slots Q (F0 m pc ls (vr E x0 :: rest)) := g_callVU C hM (c_J5_isLatin1_aae02 l E N x0 μ μ1 v hc) hck h1 bw_3_162 (C.w bw_3_163) bw_3_161 bw_1_9 bw_3_164 hd_J5_isLatin1_aae02 hR rfl hl rfl hcat hf hdg kk
end G07
