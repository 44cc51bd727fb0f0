section G03
variable {p : Program} {l : Launch} {e : Env} {R : Room} {s : State} {m : MethodId} {args : Array Value} {below : List Frame} {meth : Method} {c : Code} {E : gE}
/-! X5_dutyOf -/
def f_X5_dutyOf (N : Nat) (x0 x1 x2 : Int) (μ : Mm) : Rs :=
  if x1 < 0 then
    (some (0, μ))
  else
  if x1 < 6 then
    (ck (μ x0 (-2) = 7) <|
     ck (μ (μ x0 0) (-2) = 23 ∧ (0 : Int) ≤ x1 ∧ x1 < μ (μ x0 0) (-1)) <|
     nm (w64 (x2 * (μ (μ x0 0) x1))) fun a5 =>
     nm (w64 (Int.tdiv a5 1000)) fun a6 =>
     nm (w32 a6) fun a8 =>
     some (a8, μ))
  else
  some (0, μ)
set_option maxHeartbeats 4000000 in
set_option maxRecDepth 100000 in
theorem c_X5_dutyOf (l : Launch) (E : gE) (N : Nat) (x0 x1 x2 : Int) (μ μ' : Mm) (r : Int) (h : f_X5_dutyOf N x0 x1 x2 μ = some (r, μ')) (rx1 : R32 x1) (rx2 : R32 x2) : gMet l E yX5_dutyOf cX5_dutyOf 3 (some .int) 0 0 [vr E x0, vi x1, vi x2] (some (vi r)) (R32 r) μ μ' 0 0 := by
  refine g_ofW [1, 1, 1] (by first | (simp only [List.map_cons, List.map_nil, vr_cat]; done) | (simp only [List.map_cons, List.map_nil, vr_cat]; rfl)) (by decide) (by decide) (fun p e s m below meth c ls C hM hl => ?_)
  replace C : gCx p s m _ meth c cX5_dutyOf 3 (some .int) "dutyOf" RX5 := C
  replace hl : lv_has ls 3 [(0, vr E x0), (1, vi x1), (2, vi x2)] := hl
  unfold f_X5_dutyOf at h
  refine m_iload_n (pc := 0) C dX5_dutyOf_0 rfl (lv_at hl 1 rfl) ?_
  refine m_if_lt (tgt := 10) (pc := 1) C rx1 dX5_dutyOf_1 (by decide) (fun c1 => ?_) (fun c1 => ?_)
  · have h := if_t h c1
    refine m_iconst (pc := 10) C dX5_dutyOf_10 ?_
    cases h
    exact m_iret (pc := 11) C hM rk_0 dX5_dutyOf_11
  · have h := if_f h c1
    refine m_iload_n (pc := 4) C dX5_dutyOf_4 rfl (lv_at hl 1 rfl) ?_
    refine m_bipush (pc := 5) C dX5_dutyOf_5 rfl ?_
    refine m_icmp_lt (tgt := 12) (pc := 7) C rx1 rk_6 dX5_dutyOf_7 (by decide) (fun c2 => ?_) (fun c2 => ?_)
    · have h := if_t h c2
      refine m_iload_n (pc := 12) C dX5_dutyOf_12 rfl (lv_at hl 2 rfl) ?_
      refine m_i2l (pc := 13) C rx2 dX5_dutyOf_13 ?_
      refine m_aload_n (pc := 14) C dX5_dutyOf_14 rfl (lv_at hl 0 rfl) ?_
      obtain ⟨q3, h⟩ := ck_some h
      refine G_X5_rates (pc := 15) C hM bw_1_40 q3 dX5_dutyOf_15 ?_
      refine m_iload_n (pc := 18) C dX5_dutyOf_18 rfl (lv_at hl 1 rfl) ?_
      obtain ⟨q4, h⟩ := ck_some h
      have gq4 := Ar_iald hM q4.1 q4.2.1 q4.2.2
      refine m_iald (pc := 19) C hM q4.1 q4.2.1 q4.2.2 dX5_dutyOf_19 ?_
      refine m_i2l (pc := 20) C gq4 dX5_dutyOf_20 ?_
      obtain ⟨a5, ea5, h⟩ := nm_some h
      have ra5 : R64 a5 := by rw [ea5]; exact w64_R _
      refine m_lmul (pc := 21) C dX5_dutyOf_21 ea5 ?_
      refine m_ldc2 (n := 1000) (pc := 22) C bw_3_101 rfl dX5_dutyOf_22 ?_
      obtain ⟨a6, ea6, h⟩ := nm_some h
      have ra6 : R64 a6 := by rw [ea6]; exact w64_R _
      refine m_ldiv (pc := 25) C ra5 rl_1000 (by decide) dX5_dutyOf_25 ea6 ?_
      obtain ⟨a8, ea8, h⟩ := nm_some h
      have ra8 : R32 a8 := by rw [ea8]; exact w32_R _
      refine m_l2i (pc := 26) C dX5_dutyOf_26 ea8 ?_
      cases h
      exact m_iret (pc := 27) C hM ra8 dX5_dutyOf_27
    · have h := if_f h c2
      refine m_iconst (pc := 10) C dX5_dutyOf_10 ?_
      cases h
      exact m_iret (pc := 11) C hM rk_0 dX5_dutyOf_11
theorem hd_X5_dutyOf : yX5_dutyOf.cls ≠ "java/lang/invoke/MethodHandle" ∧ yX5_dutyOf.cls ≠ "java/lang/invoke/VarHandle" ∧ (parseMethodDescriptor yX5_dutyOf.desc).map (fun d => d.parameters.length) = some 2 := by decide +kernel

theorem V_X5_dutyOf {p : Program} {l : Launch} {e : Env} {R : Room} {s : State} {m : MethodId} {args : Array Value} {below : List Frame} {meth : Method} {c : Code} {H : Heap} {locs : List Loc} {cells slots : Nat} {Q : State → Prop} {cc : ByteArray} {pc nL : Nat} {ls : Array Slot} {rest : List Value} {ret : Option FieldType} {nmm own : String} {E : gE} {μ μ1 : Mm} {index : Nat} (C : gCx p s m args meth c cc nL ret nmm own) (hM : MS E μ s H locs) {N : Nat} {x0 x1 x2 v : Int} (hc : f_X5_dutyOf N x0 x1 x2 μ = some (v, μ1)) (rx1 : R32 x1) (rx2 : R32 x2) (hck : μ x0 (-2) = 7) (h1 : Cond.methodLink own index yX5_dutyOf ∈ bigL) (hR : 1 ≤ R.frames ∧ 22 ≤ R.locals) (hl : ls.size = nL) (hcat : RC rest 8) (hf : cells + 0 ≤ R.cells ∧ slots + 0 ≤ R.slots) (hdg : decode cc pc = .ok (.invokevirtual index, 3)) (kk : (R32 v) → ∀ (H1 : Heap) (locs1 : List Loc), MS E μ1 s H1 locs1 → W p l e R s m args below meth c H1 locs1 (cells + 0) (slots + 0) Q (F0 m (pc + 3) ls (vi v :: rest))) : W p l e R s m args below meth c H locs cells slots Q (F0 m pc ls (vi x2 :: vi x1 :: vr E x0 :: rest)) := g_callV C KF_X5 hM (c_X5_dutyOf l E N x0 x1 x2 μ μ1 v hc rx1 rx2) hck (gV h1 bw_3_98 bw_3_99 bw_1_3 bw_3_100) ⟨rfl, hd_X5_dutyOf⟩ hR rfl hl rfl hcat hf hdg kk
/-! X5_covers -/
def f_X5_covers (N : Nat) (x0 x1 x2 : Int) (μ : Mm) : Rs :=
  ck (μ x0 (-2) = 7) <|
  nm (w64 (x2 * (μ x0 3))) fun a2 =>
  nm (w64 (Int.tdiv a2 100)) fun a3 =>
  if x1 < a3 then
    (some (0, μ))
  else
  some (1, μ)
set_option maxHeartbeats 4000000 in
set_option maxRecDepth 100000 in
theorem c_X5_covers (l : Launch) (E : gE) (N : Nat) (x0 x1 x2 : Int) (μ μ' : Mm) (r : Int) (h : f_X5_covers N x0 x1 x2 μ = some (r, μ')) (rx1 : R32 x1) (rx2 : R32 x2) : gMet l E yX5_covers cX5_covers 3 (some .boolean) 0 0 [vr E x0, vi x1, vi x2] (some (vi r)) (R32 r) μ μ' 0 0 := by
  refine g_ofW [1, 1, 1] (by first | (simp only [List.map_cons, List.map_nil, vr_cat]; done) | (simp only [List.map_cons, List.map_nil, vr_cat]; rfl)) (by decide) (by decide) (fun p e s m below meth c ls C hM hl => ?_)
  replace C : gCx p s m _ meth c cX5_covers 3 (some .boolean) "covers" RX5 := C
  replace hl : lv_has ls 3 [(0, vr E x0), (1, vi x1), (2, vi x2)] := hl
  unfold f_X5_covers at h
  refine m_iload_n (pc := 0) C dX5_covers_0 rfl (lv_at hl 2 rfl) ?_
  refine m_i2l (pc := 1) C rx2 dX5_covers_1 ?_
  refine m_aload_n (pc := 2) C dX5_covers_2 rfl (lv_at hl 0 rfl) ?_
  obtain ⟨q1, h⟩ := ck_some h
  have gq1 := Gr_X5_cover hM q1
  refine G_X5_cover (pc := 3) C hM bw_1_46 q1 dX5_covers_3 ?_
  refine m_i2l (pc := 6) C gq1 dX5_covers_6 ?_
  obtain ⟨a2, ea2, h⟩ := nm_some h
  have ra2 : R64 a2 := by rw [ea2]; exact w64_R _
  refine m_lmul (pc := 7) C dX5_covers_7 ea2 ?_
  refine m_ldc2 (n := 100) (pc := 8) C bw_3_48 rfl dX5_covers_8 ?_
  obtain ⟨a3, ea3, h⟩ := nm_some h
  have ra3 : R64 a3 := by rw [ea3]; exact w64_R _
  refine m_ldiv (pc := 11) C ra2 rl_100 (by decide) dX5_covers_11 ea3 ?_
  refine m_iload_n (pc := 12) C dX5_covers_12 rfl (lv_at hl 1 rfl) ?_
  refine m_i2l (pc := 13) C rx1 dX5_covers_13 ?_
  refine m_lcmp_gt (tgt := 22) (pc := 14) C ra3 (R32.to64 rx1) dX5_covers_14 dX5_covers_15 (by decide) (fun c5 => ?_) (fun c5 => ?_)
  · have h := if_t h c5
    refine m_iconst (pc := 22) C dX5_covers_22 ?_
    cases h
    exact m_zret (pc := 23) C rfl hM rk_0 dX5_covers_23
  · have h := if_f h c5
    refine m_iconst (pc := 18) C dX5_covers_18 ?_
    refine m_goto (tgt := 23) (pc := 19) C dX5_covers_19 (by decide) ?_
    cases h
    exact m_zret (pc := 23) C rfl hM rk_1 dX5_covers_23
theorem hd_X5_covers : yX5_covers.cls ≠ "java/lang/invoke/MethodHandle" ∧ yX5_covers.cls ≠ "java/lang/invoke/VarHandle" ∧ (parseMethodDescriptor yX5_covers.desc).map (fun d => d.parameters.length) = some 2 := by decide +kernel

theorem V_X5_covers {p : Program} {l : Launch} {e : Env} {R : Room} {s : State} {m : MethodId} {args : Array Value} {below : List Frame} {meth : Method} {c : Code} {H : Heap} {locs : List Loc} {cells slots : Nat} {Q : State → Prop} {cc : ByteArray} {pc nL : Nat} {ls : Array Slot} {rest : List Value} {ret : Option FieldType} {nmm own : String} {E : gE} {μ μ1 : Mm} {index : Nat} (C : gCx p s m args meth c cc nL ret nmm own) (hM : MS E μ s H locs) {N : Nat} {x0 x1 x2 v : Int} (hc : f_X5_covers N x0 x1 x2 μ = some (v, μ1)) (rx1 : R32 x1) (rx2 : R32 x2) (hck : μ x0 (-2) = 7) (h1 : Cond.methodLink own index yX5_covers ∈ bigL) (hR : 1 ≤ R.frames ∧ 22 ≤ R.locals) (hl : ls.size = nL) (hcat : RC rest 8) (hf : cells + 0 ≤ R.cells ∧ slots + 0 ≤ R.slots) (hdg : decode cc pc = .ok (.invokevirtual index, 3)) (kk : (R32 v) → ∀ (H1 : Heap) (locs1 : List Loc), MS E μ1 s H1 locs1 → W p l e R s m args below meth c H1 locs1 (cells + 0) (slots + 0) Q (F0 m (pc + 3) ls (vi v :: rest))) : W p l e R s m args below meth c H locs cells slots Q (F0 m pc ls (vi x2 :: vi x1 :: vr E x0 :: rest)) := g_callV C KF_X5 hM (c_X5_covers l E N x0 x1 x2 μ μ1 v hc rx1 rx2) hck (gV h1 bw_3_45 bw_3_46 bw_1_3 bw_3_47) ⟨rfl, hd_X5_covers⟩ hR rfl hl rfl hcat hf hdg kk
/-! X5_freeUnitsOf -/
def f_X5_freeUnitsOf (N : Nat) (x0 x1 : Int) (μ : Mm) : Rs :=
  ck (μ x1 (-2) = 4) <|
  ck (μ x0 (-2) = 7) <|
  nm (w64 ((μ x1 2) * (μ x0 4))) fun a3 =>
  nm (w64 (Int.tdiv a3 1000)) fun a4 =>
  nm (w32 a4) fun a6 =>
  ck (μ x1 (-2) = 4) <|
  nm (w32 (a6 - (μ x1 10))) fun a8 =>
  nm (max 0 a8) fun a9 =>
  some (a9, μ)
set_option maxHeartbeats 4000000 in
set_option maxRecDepth 100000 in
theorem c_X5_freeUnitsOf (l : Launch) (E : gE) (N : Nat) (x0 x1 : Int) (μ μ' : Mm) (r : Int) (h : f_X5_freeUnitsOf N x0 x1 μ = some (r, μ')) : gMet l E yX5_freeUnitsOf cX5_freeUnitsOf 3 (some .int) 1 21 [vr E x0, vr E x1] (some (vi r)) (R32 r) μ μ' 0 0 := by
  refine g_ofW [1, 1] (by first | (simp only [List.map_cons, List.map_nil, vr_cat]; done) | (simp only [List.map_cons, List.map_nil, vr_cat]; rfl)) (by decide) (by decide) (fun p e s m below meth c ls C hM hl => ?_)
  replace C : gCx p s m _ meth c cX5_freeUnitsOf 3 (some .int) "freeUnitsOf" RX5 := C
  replace hl : lv_has ls 3 [(0, vr E x0), (1, vr E x1)] := hl
  unfold f_X5_freeUnitsOf at h
  refine m_aload_n (pc := 0) C dX5_freeUnitsOf_0 rfl (lv_at hl 1 rfl) ?_
  obtain ⟨q1, h⟩ := ck_some h
  have gq1 := Gr_X2_quantity hM q1
  refine G_X2_quantity (pc := 1) C hM bw_1_104 q1 dX5_freeUnitsOf_1 ?_
  refine m_i2l (pc := 4) C gq1 dX5_freeUnitsOf_4 ?_
  refine m_aload_n (pc := 5) C dX5_freeUnitsOf_5 rfl (lv_at hl 0 rfl) ?_
  obtain ⟨q2, h⟩ := ck_some h
  have gq2 := Gr_X5_allowance hM q2
  refine G_X5_allowance (pc := 6) C hM bw_1_48 q2 dX5_freeUnitsOf_6 ?_
  refine m_i2l (pc := 9) C gq2 dX5_freeUnitsOf_9 ?_
  obtain ⟨a3, ea3, h⟩ := nm_some h
  have ra3 : R64 a3 := by rw [ea3]; exact w64_R _
  refine m_lmul (pc := 10) C dX5_freeUnitsOf_10 ea3 ?_
  refine m_ldc2 (n := 1000) (pc := 11) C bw_3_101 rfl dX5_freeUnitsOf_11 ?_
  obtain ⟨a4, ea4, h⟩ := nm_some h
  have ra4 : R64 a4 := by rw [ea4]; exact w64_R _
  refine m_ldiv (pc := 14) C ra3 rl_1000 (by decide) dX5_freeUnitsOf_14 ea4 ?_
  obtain ⟨a6, ea6, h⟩ := nm_some h
  have ra6 : R32 a6 := by rw [ea6]; exact w32_R _
  refine m_l2i (pc := 15) C dX5_freeUnitsOf_15 ea6 ?_
  refine m_istore_n (pc := 16) C dX5_freeUnitsOf_16 rfl hl (by decide) (lvK2 1 rfl (Nat.ne_of_beq_eq_false rfl) (vr_cat _ _) lvK0) (fun ls hl => ?_)
  refine m_iconst (pc := 17) C dX5_freeUnitsOf_17 ?_
  refine m_iload_n (pc := 18) C dX5_freeUnitsOf_18 rfl (lv_at hl 0 rfl) ?_
  refine m_aload_n (pc := 19) C dX5_freeUnitsOf_19 rfl (lv_at hl 1 rfl) ?_
  obtain ⟨q7, h⟩ := ck_some h
  have gq7 := Gr_X2_sampled hM q7
  refine G_X2_sampled (pc := 20) C hM bw_1_123 q7 dX5_freeUnitsOf_20 ?_
  obtain ⟨a8, ea8, h⟩ := nm_some h
  have ra8 : R32 a8 := by rw [ea8]; exact w32_R _
  refine m_isub (pc := 23) C dX5_freeUnitsOf_23 ea8 ?_
  obtain ⟨a9, ea9, h⟩ := nm_some h
  have ra9 : R32 a9 := by rw [ea9]; exact R32_max rk_0 ra8
  refine m_mmax (pc := 24) C rk_0 ra8 bw_4_83 hl.1 rc0 ⟨Nat.le_of_ble_eq_true rfl, Nat.le_of_ble_eq_true rfl⟩ ⟨Nat.le_refl _, Nat.le_refl _⟩ ea9 dX5_freeUnitsOf_24 ?_
  cases h
  exact m_iret (pc := 27) C hM ra9 dX5_freeUnitsOf_27
theorem hd_X5_freeUnitsOf : yX5_freeUnitsOf.cls ≠ "java/lang/invoke/MethodHandle" ∧ yX5_freeUnitsOf.cls ≠ "java/lang/invoke/VarHandle" ∧ (parseMethodDescriptor yX5_freeUnitsOf.desc).map (fun d => d.parameters.length) = some 1 := by decide +kernel

theorem V_X5_freeUnitsOf {p : Program} {l : Launch} {e : Env} {R : Room} {s : State} {m : MethodId} {args : Array Value} {below : List Frame} {meth : Method} {c : Code} {H : Heap} {locs : List Loc} {cells slots : Nat} {Q : State → Prop} {cc : ByteArray} {pc nL : Nat} {ls : Array Slot} {rest : List Value} {ret : Option FieldType} {nmm own : String} {E : gE} {μ μ1 : Mm} {index : Nat} (C : gCx p s m args meth c cc nL ret nmm own) (hM : MS E μ s H locs) {N : Nat} {x0 x1 v : Int} (hc : f_X5_freeUnitsOf N x0 x1 μ = some (v, μ1)) (hck : μ x0 (-2) = 7) (h1 : Cond.methodLink own index yX5_freeUnitsOf ∈ bigL) (hR : 2 ≤ R.frames ∧ 43 ≤ R.locals) (hl : ls.size = nL) (hcat : RC rest 8) (hf : cells + 0 ≤ R.cells ∧ slots + 0 ≤ R.slots) (hdg : decode cc pc = .ok (.invokevirtual index, 3)) (kk : (R32 v) → ∀ (H1 : Heap) (locs1 : List Loc), MS E μ1 s H1 locs1 → W p l e R s m args below meth c H1 locs1 (cells + 0) (slots + 0) Q (F0 m (pc + 3) ls (vi v :: rest))) : W p l e R s m args below meth c H locs cells slots Q (F0 m pc ls (vr E x1 :: vr E x0 :: rest)) := g_callV C KF_X5 hM (c_X5_freeUnitsOf l E N x0 x1 μ μ1 v hc) hck (gV h1 bw_4_80 bw_4_81 bw_1_3 bw_4_82) ⟨rfl, hd_X5_freeUnitsOf⟩ hR rfl hl rfl hcat hf hdg kk
/-! X6_findOwner -/
def f_X6_findOwner (N : Nat) (x0 x1 : Int) (μ : Mm) : Rs :=
  if x1 < 0 then
    (some (0, μ))
  else
  ck (μ x0 (-2) = 8) <|
  if x1 < (μ x0 4) then
    (ck (μ x0 (-2) = 8) <|
     ck (μ (μ x0 1) (-2) = 27 ∧ (0 : Int) ≤ x1 ∧ x1 < μ (μ x0 1) (-1)) <|
     some (μ (μ x0 1) x1, μ))
  else
  some (0, μ)
set_option maxHeartbeats 4000000 in
set_option maxRecDepth 100000 in
theorem c_X6_findOwner (l : Launch) (E : gE) (N : Nat) (x0 x1 : Int) (μ μ' : Mm) (r : Int) (h : f_X6_findOwner N x0 x1 μ = some (r, μ')) (rx1 : R32 x1) : gMet l E yX6_findOwner cX6_findOwner 2 (some (.object "BondedStore$Owner")) 0 0 [vr E x0, vi x1] (some (vr E r)) True μ μ' 0 0 := by
  refine g_ofW [1, 1] (by first | (simp only [List.map_cons, List.map_nil, vr_cat]; done) | (simp only [List.map_cons, List.map_nil, vr_cat]; rfl)) (by decide) (by decide) (fun p e s m below meth c ls C hM hl => ?_)
  replace C : gCx p s m _ meth c cX6_findOwner 2 (some (.object "BondedStore$Owner")) "findOwner" RX6 := C
  replace hl : lv_has ls 2 [(0, vr E x0), (1, vi x1)] := hl
  unfold f_X6_findOwner at h
  refine m_iload_n (pc := 0) C dX6_findOwner_0 rfl (lv_at hl 1 rfl) ?_
  refine m_if_lt (tgt := 12) (pc := 1) C rx1 dX6_findOwner_1 (by decide) (fun c1 => ?_) (fun c1 => ?_)
  · have h := if_t h c1
    refine m_null (pc := 12) C E dX6_findOwner_12 ?_
    refine m_goto (tgt := 22) (pc := 13) C dX6_findOwner_13 (by decide) ?_
    cases h
    exact m_aret (pc := 22) C (Or.inl ⟨_, rfl⟩) hM trivial dX6_findOwner_22
  · have h := if_f h c1
    refine m_iload_n (pc := 4) C dX6_findOwner_4 rfl (lv_at hl 1 rfl) ?_
    refine m_aload_n (pc := 5) C dX6_findOwner_5 rfl (lv_at hl 0 rfl) ?_
    obtain ⟨q2, h⟩ := ck_some h
    have gq2 := Gr_X6_ownerCount hM q2
    refine G_X6_ownerCount (pc := 6) C hM bw_1_188 q2 dX6_findOwner_6 ?_
    refine m_icmp_lt (tgt := 16) (pc := 9) C rx1 gq2 dX6_findOwner_9 (by decide) (fun c3 => ?_) (fun c3 => ?_)
    · have h := if_t h c3
      refine m_aload_n (pc := 16) C dX6_findOwner_16 rfl (lv_at hl 0 rfl) ?_
      obtain ⟨q4, h⟩ := ck_some h
      refine G_X6_owners (pc := 17) C hM bw_1_182 q4 dX6_findOwner_17 ?_
      refine m_iload_n (pc := 20) C dX6_findOwner_20 rfl (lv_at hl 1 rfl) ?_
      obtain ⟨q5, h⟩ := ck_some h
      refine m_aald (pc := 21) C hM q5.1 (by decide) (by decide) q5.2.1 q5.2.2 dX6_findOwner_21 ?_
      cases h
      exact m_aret (pc := 22) C (Or.inl ⟨_, rfl⟩) hM trivial dX6_findOwner_22
    · have h := if_f h c3
      refine m_null (pc := 12) C E dX6_findOwner_12 ?_
      refine m_goto (tgt := 22) (pc := 13) C dX6_findOwner_13 (by decide) ?_
      cases h
      exact m_aret (pc := 22) C (Or.inl ⟨_, rfl⟩) hM trivial dX6_findOwner_22
theorem hd_X6_findOwner : yX6_findOwner.cls ≠ "java/lang/invoke/MethodHandle" ∧ yX6_findOwner.cls ≠ "java/lang/invoke/VarHandle" ∧ (parseMethodDescriptor yX6_findOwner.desc).map (fun d => d.parameters.length) = some 1 := by decide +kernel

theorem V_X6_findOwner {p : Program} {l : Launch} {e : Env} {R : Room} {s : State} {m : MethodId} {args : Array Value} {below : List Frame} {meth : Method} {c : Code} {H : Heap} {locs : List Loc} {cells slots : Nat} {Q : State → Prop} {cc : ByteArray} {pc nL : Nat} {ls : Array Slot} {rest : List Value} {ret : Option FieldType} {nmm own : String} {E : gE} {μ μ1 : Mm} {index : Nat} (C : gCx p s m args meth c cc nL ret nmm own) (hM : MS E μ s H locs) {N : Nat} {x0 x1 v : Int} (hc : f_X6_findOwner N x0 x1 μ = some (v, μ1)) (rx1 : R32 x1) (hck : μ x0 (-2) = 8) (h1 : Cond.methodLink own index yX6_findOwner ∈ bigL) (hR : 1 ≤ R.frames ∧ 21 ≤ R.locals) (hl : ls.size = nL) (hcat : RC rest 8) (hf : cells + 0 ≤ R.cells ∧ slots + 0 ≤ R.slots) (hdg : decode cc pc = .ok (.invokevirtual index, 3)) (kk : True → ∀ (H1 : Heap) (locs1 : List Loc), MS E μ1 s H1 locs1 → W p l e R s m args below meth c H1 locs1 (cells + 0) (slots + 0) Q (F0 m (pc + 3) ls (vr E v :: rest))) : W p l e R s m args below meth c H locs cells slots Q (F0 m pc ls (vi x1 :: vr E x0 :: rest)) := g_callV C KF_X6 hM (c_X6_findOwner l E N x0 x1 μ μ1 v hc rx1) hck (gV h1 bw_2_185 bw_2_186 bw_1_2 bw_2_187) ⟨rfl, hd_X6_findOwner⟩ hR rfl hl rfl hcat hf hdg kk
/-! X6_findLot -/
def f_X6_findLot (N : Nat) (x0 x1 : Int) (μ : Mm) : Rs :=
  if x1 < 0 then
    (some (0, μ))
  else
  ck (μ x0 (-2) = 8) <|
  if x1 < (μ x0 5) then
    (ck (μ x0 (-2) = 8) <|
     ck (μ (μ x0 2) (-2) = 28 ∧ (0 : Int) ≤ x1 ∧ x1 < μ (μ x0 2) (-1)) <|
     some (μ (μ x0 2) x1, μ))
  else
  some (0, μ)
set_option maxHeartbeats 4000000 in
set_option maxRecDepth 100000 in
theorem c_X6_findLot (l : Launch) (E : gE) (N : Nat) (x0 x1 : Int) (μ μ' : Mm) (r : Int) (h : f_X6_findLot N x0 x1 μ = some (r, μ')) (rx1 : R32 x1) : gMet l E yX6_findLot cX6_findLot 2 (some (.object "BondedStore$Lot")) 0 0 [vr E x0, vi x1] (some (vr E r)) True μ μ' 0 0 := by
  refine g_ofW [1, 1] (by first | (simp only [List.map_cons, List.map_nil, vr_cat]; done) | (simp only [List.map_cons, List.map_nil, vr_cat]; rfl)) (by decide) (by decide) (fun p e s m below meth c ls C hM hl => ?_)
  replace C : gCx p s m _ meth c cX6_findLot 2 (some (.object "BondedStore$Lot")) "findLot" RX6 := C
  replace hl : lv_has ls 2 [(0, vr E x0), (1, vi x1)] := hl
  unfold f_X6_findLot at h
  refine m_iload_n (pc := 0) C dX6_findLot_0 rfl (lv_at hl 1 rfl) ?_
  refine m_if_lt (tgt := 12) (pc := 1) C rx1 dX6_findLot_1 (by decide) (fun c1 => ?_) (fun c1 => ?_)
  · have h := if_t h c1
    refine m_null (pc := 12) C E dX6_findLot_12 ?_
    refine m_goto (tgt := 22) (pc := 13) C dX6_findLot_13 (by decide) ?_
    cases h
    exact m_aret (pc := 22) C (Or.inl ⟨_, rfl⟩) hM trivial dX6_findLot_22
  · have h := if_f h c1
    refine m_iload_n (pc := 4) C dX6_findLot_4 rfl (lv_at hl 1 rfl) ?_
    refine m_aload_n (pc := 5) C dX6_findLot_5 rfl (lv_at hl 0 rfl) ?_
    obtain ⟨q2, h⟩ := ck_some h
    have gq2 := Gr_X6_lotCount hM q2
    refine G_X6_lotCount (pc := 6) C hM bw_1_189 q2 dX6_findLot_6 ?_
    refine m_icmp_lt (tgt := 16) (pc := 9) C rx1 gq2 dX6_findLot_9 (by decide) (fun c3 => ?_) (fun c3 => ?_)
    · have h := if_t h c3
      refine m_aload_n (pc := 16) C dX6_findLot_16 rfl (lv_at hl 0 rfl) ?_
      obtain ⟨q4, h⟩ := ck_some h
      refine G_X6_lots (pc := 17) C hM bw_1_183 q4 dX6_findLot_17 ?_
      refine m_iload_n (pc := 20) C dX6_findLot_20 rfl (lv_at hl 1 rfl) ?_
      obtain ⟨q5, h⟩ := ck_some h
      refine m_aald (pc := 21) C hM q5.1 (by decide) (by decide) q5.2.1 q5.2.2 dX6_findLot_21 ?_
      cases h
      exact m_aret (pc := 22) C (Or.inl ⟨_, rfl⟩) hM trivial dX6_findLot_22
    · have h := if_f h c3
      refine m_null (pc := 12) C E dX6_findLot_12 ?_
      refine m_goto (tgt := 22) (pc := 13) C dX6_findLot_13 (by decide) ?_
      cases h
      exact m_aret (pc := 22) C (Or.inl ⟨_, rfl⟩) hM trivial dX6_findLot_22
theorem hd_X6_findLot : yX6_findLot.cls ≠ "java/lang/invoke/MethodHandle" ∧ yX6_findLot.cls ≠ "java/lang/invoke/VarHandle" ∧ (parseMethodDescriptor yX6_findLot.desc).map (fun d => d.parameters.length) = some 1 := by decide +kernel

theorem V_X6_findLot {p : Program} {l : Launch} {e : Env} {R : Room} {s : State} {m : MethodId} {args : Array Value} {below : List Frame} {meth : Method} {c : Code} {H : Heap} {locs : List Loc} {cells slots : Nat} {Q : State → Prop} {cc : ByteArray} {pc nL : Nat} {ls : Array Slot} {rest : List Value} {ret : Option FieldType} {nmm own : String} {E : gE} {μ μ1 : Mm} {index : Nat} (C : gCx p s m args meth c cc nL ret nmm own) (hM : MS E μ s H locs) {N : Nat} {x0 x1 v : Int} (hc : f_X6_findLot N x0 x1 μ = some (v, μ1)) (rx1 : R32 x1) (hck : μ x0 (-2) = 8) (h1 : Cond.methodLink own index yX6_findLot ∈ bigL) (hR : 1 ≤ R.frames ∧ 21 ≤ R.locals) (hl : ls.size = nL) (hcat : RC rest 8) (hf : cells + 0 ≤ R.cells ∧ slots + 0 ≤ R.slots) (hdg : decode cc pc = .ok (.invokevirtual index, 3)) (kk : True → ∀ (H1 : Heap) (locs1 : List Loc), MS E μ1 s H1 locs1 → W p l e R s m args below meth c H1 locs1 (cells + 0) (slots + 0) Q (F0 m (pc + 3) ls (vr E v :: rest))) : W p l e R s m args below meth c H locs cells slots Q (F0 m pc ls (vi x1 :: vr E x0 :: rest)) := g_callV C KF_X6 hM (c_X6_findLot l E N x0 x1 μ μ1 v hc rx1) hck (gV h1 bw_2_150 bw_2_151 bw_1_2 bw_2_152) ⟨rfl, hd_X6_findLot⟩ hR rfl hl rfl hcat hf hdg kk
/-! X6_findExport -/
def f_X6_findExport (N : Nat) (x0 x1 : Int) (μ : Mm) : Rs :=
  if x1 < 0 then
    (some (0, μ))
  else
  ck (μ x0 (-2) = 8) <|
  if x1 < (μ x0 6) then
    (ck (μ x0 (-2) = 8) <|
     ck (μ (μ x0 3) (-2) = 29 ∧ (0 : Int) ≤ x1 ∧ x1 < μ (μ x0 3) (-1)) <|
     some (μ (μ x0 3) x1, μ))
  else
  some (0, μ)
set_option maxHeartbeats 4000000 in
set_option maxRecDepth 100000 in
theorem c_X6_findExport (l : Launch) (E : gE) (N : Nat) (x0 x1 : Int) (μ μ' : Mm) (r : Int) (h : f_X6_findExport N x0 x1 μ = some (r, μ')) (rx1 : R32 x1) : gMet l E yX6_findExport cX6_findExport 2 (some (.object "BondedStore$Export")) 0 0 [vr E x0, vi x1] (some (vr E r)) True μ μ' 0 0 := by
  refine g_ofW [1, 1] (by first | (simp only [List.map_cons, List.map_nil, vr_cat]; done) | (simp only [List.map_cons, List.map_nil, vr_cat]; rfl)) (by decide) (by decide) (fun p e s m below meth c ls C hM hl => ?_)
  replace C : gCx p s m _ meth c cX6_findExport 2 (some (.object "BondedStore$Export")) "findExport" RX6 := C
  replace hl : lv_has ls 2 [(0, vr E x0), (1, vi x1)] := hl
  unfold f_X6_findExport at h
  refine m_iload_n (pc := 0) C dX6_findExport_0 rfl (lv_at hl 1 rfl) ?_
  refine m_if_lt (tgt := 12) (pc := 1) C rx1 dX6_findExport_1 (by decide) (fun c1 => ?_) (fun c1 => ?_)
  · have h := if_t h c1
    refine m_null (pc := 12) C E dX6_findExport_12 ?_
    refine m_goto (tgt := 22) (pc := 13) C dX6_findExport_13 (by decide) ?_
    cases h
    exact m_aret (pc := 22) C (Or.inl ⟨_, rfl⟩) hM trivial dX6_findExport_22
  · have h := if_f h c1
    refine m_iload_n (pc := 4) C dX6_findExport_4 rfl (lv_at hl 1 rfl) ?_
    refine m_aload_n (pc := 5) C dX6_findExport_5 rfl (lv_at hl 0 rfl) ?_
    obtain ⟨q2, h⟩ := ck_some h
    have gq2 := Gr_X6_exportCount hM q2
    refine G_X6_exportCount (pc := 6) C hM bw_1_191 q2 dX6_findExport_6 ?_
    refine m_icmp_lt (tgt := 16) (pc := 9) C rx1 gq2 dX6_findExport_9 (by decide) (fun c3 => ?_) (fun c3 => ?_)
    · have h := if_t h c3
      refine m_aload_n (pc := 16) C dX6_findExport_16 rfl (lv_at hl 0 rfl) ?_
      obtain ⟨q4, h⟩ := ck_some h
      refine G_X6_exports (pc := 17) C hM bw_1_185 q4 dX6_findExport_17 ?_
      refine m_iload_n (pc := 20) C dX6_findExport_20 rfl (lv_at hl 1 rfl) ?_
      obtain ⟨q5, h⟩ := ck_some h
      refine m_aald (pc := 21) C hM q5.1 (by decide) (by decide) q5.2.1 q5.2.2 dX6_findExport_21 ?_
      cases h
      exact m_aret (pc := 22) C (Or.inl ⟨_, rfl⟩) hM trivial dX6_findExport_22
    · have h := if_f h c3
      refine m_null (pc := 12) C E dX6_findExport_12 ?_
      refine m_goto (tgt := 22) (pc := 13) C dX6_findExport_13 (by decide) ?_
      cases h
      exact m_aret (pc := 22) C (Or.inl ⟨_, rfl⟩) hM trivial dX6_findExport_22
theorem hd_X6_findExport : yX6_findExport.cls ≠ "java/lang/invoke/MethodHandle" ∧ yX6_findExport.cls ≠ "java/lang/invoke/VarHandle" ∧ (parseMethodDescriptor yX6_findExport.desc).map (fun d => d.parameters.length) = some 1 := by decide +kernel

theorem V_X6_findExport {p : Program} {l : Launch} {e : Env} {R : Room} {s : State} {m : MethodId} {args : Array Value} {below : List Frame} {meth : Method} {c : Code} {H : Heap} {locs : List Loc} {cells slots : Nat} {Q : State → Prop} {cc : ByteArray} {pc nL : Nat} {ls : Array Slot} {rest : List Value} {ret : Option FieldType} {nmm own : String} {E : gE} {μ μ1 : Mm} {index : Nat} (C : gCx p s m args meth c cc nL ret nmm own) (hM : MS E μ s H locs) {N : Nat} {x0 x1 v : Int} (hc : f_X6_findExport N x0 x1 μ = some (v, μ1)) (rx1 : R32 x1) (hck : μ x0 (-2) = 8) (h1 : Cond.methodLink own index yX6_findExport ∈ bigL) (hR : 1 ≤ R.frames ∧ 21 ≤ R.locals) (hl : ls.size = nL) (hcat : RC rest 8) (hf : cells + 0 ≤ R.cells ∧ slots + 0 ≤ R.slots) (hdg : decode cc pc = .ok (.invokevirtual index, 3)) (kk : True → ∀ (H1 : Heap) (locs1 : List Loc), MS E μ1 s H1 locs1 → W p l e R s m args below meth c H1 locs1 (cells + 0) (slots + 0) Q (F0 m (pc + 3) ls (vr E v :: rest))) : W p l e R s m args below meth c H locs cells slots Q (F0 m pc ls (vi x1 :: vr E x0 :: rest)) := g_callV C KF_X6 hM (c_X6_findExport l E N x0 x1 μ μ1 v hc rx1) hck (gV h1 bw_2_146 bw_2_147 bw_1_2 bw_2_148) ⟨rfl, hd_X6_findExport⟩ hR rfl hl rfl hcat hf hdg kk
/-! X6_useOf -/
def f_X6_useOf_b4 (N : Nat) : Nat → Int → Int → Int → Int → Mm → Rs
  | 0, _, _, _, _, _ => none
  | n + 1, x0, x1, x2, x3, μ =>
    ck (μ x0 (-2) = 8) <|
    if (μ x0 5) ≤ x3 then
      (some (x2, μ))
    else
    ck (μ x0 (-2) = 8) <|
    ck (μ (μ x0 2) (-2) = 28 ∧ (0 : Int) ≤ x3 ∧ x3 < μ (μ x0 2) (-1)) <|
    ck (μ (μ (μ x0 2) x3) (-2) = 4) <|
    if ¬ (μ (μ (μ x0 2) x3) 0) = x1 then
      (nm (w32 (x3 + 1)) fun a7 =>
       f_X6_useOf_b4 N n x0 x1 x2 a7 μ)
    else
    ck (μ x0 (-2) = 8) <|
    ck (μ (μ x0 2) (-2) = 28 ∧ (0 : Int) ≤ x3 ∧ x3 < μ (μ x0 2) (-1)) <|
    ck (μ (μ (μ x0 2) x3) (-2) = 4) <|
    bd (f_X2_suspended N (μ (μ x0 2) x3) μ) fun a11 μ12 =>
    nm (w32 (x2 + a11)) fun a13 =>
    nm (w32 (x3 + 1)) fun a14 =>
    f_X6_useOf_b4 N n x0 x1 a13 a14 μ12
def f_X6_useOf (N : Nat) (x0 x1 : Int) (μ : Mm) : Rs :=
  f_X6_useOf_b4 N N x0 x1 0 0 μ
set_option maxHeartbeats 4000000 in
set_option maxRecDepth 100000 in
theorem k_X6_useOf_b4 (C : gCx p s m args meth c cX6_useOf 4 (some .int) "useOf" RX6) (N : Nat) {r : Int} {μ' : Mm} : ∀ (n : Nat), ∀ (x0 x1 x2 x3 : Int) (μ : Mm), f_X6_useOf_b4 N n x0 x1 x2 x3 μ = some (r, μ') → R32 x1 → R32 x2 → R32 x3 → ∀ (H : Heap) (locs : List Loc) (ls : Array Slot), MS E μ s H locs → lv_has ls 4 [(0, vr E x0), (1, vi x1), (2, vi x2), (3, vi x3)] → W p l e ({ frames := 1, cells := 0, slots := 0, locals := 20 } : Room) s m args below meth c H locs 0 0 (MQ below (gQ E (some (vi r)) (R32 r) μ') args s 0 0 (gA E)) (F0 m 4 ls []) := by
  intro n
  induction n with
  | zero => intro x0 x1 x2 x3 μ h; simp [f_X6_useOf_b4] at h
  | succ n ih =>
    intro x0 x1 x2 x3 μ h rx1 rx2 rx3 H locs ls hM hl
    rw [f_X6_useOf_b4] at h
    refine m_iload_n (pc := 4) C dX6_useOf_4 rfl (lv_at hl 3 rfl) ?_
    refine m_aload_n (pc := 5) C dX6_useOf_5 rfl (lv_at hl 0 rfl) ?_
    obtain ⟨q1, h⟩ := ck_some h
    have gq1 := Gr_X6_lotCount hM q1
    refine G_X6_lotCount (pc := 6) C hM bw_1_189 q1 dX6_useOf_6 ?_
    refine m_icmp_ge (tgt := 43) (pc := 9) C rx3 gq1 dX6_useOf_9 (by decide) (fun c2 => ?_) (fun c2 => ?_)
    · have h := if_t h c2
      refine m_iload_n (pc := 43) C dX6_useOf_43 rfl (lv_at hl 2 rfl) ?_
      cases h
      exact m_iret (pc := 44) C hM rx2 dX6_useOf_44
    · have h := if_f h c2
      refine m_aload_n (pc := 12) C dX6_useOf_12 rfl (lv_at hl 0 rfl) ?_
      obtain ⟨q3, h⟩ := ck_some h
      refine G_X6_lots (pc := 13) C hM bw_1_183 q3 dX6_useOf_13 ?_
      refine m_iload_n (pc := 16) C dX6_useOf_16 rfl (lv_at hl 3 rfl) ?_
      obtain ⟨q4, h⟩ := ck_some h
      refine m_aald (pc := 17) C hM q4.1 (by decide) (by decide) q4.2.1 q4.2.2 dX6_useOf_17 ?_
      obtain ⟨q5, h⟩ := ck_some h
      have gq5 := Gr_X2_owner hM q5
      refine G_X2_owner (pc := 18) C hM bw_1_99 q5 dX6_useOf_18 ?_
      refine m_iload_n (pc := 21) C dX6_useOf_21 rfl (lv_at hl 1 rfl) ?_
      refine m_icmp_ne (tgt := 37) (pc := 22) C gq5 rx1 dX6_useOf_22 (by decide) (fun c6 => ?_) (fun c6 => ?_)
      · have h := if_t h c6
        obtain ⟨a7, ea7, h⟩ := nm_some h
        have ra7 : R32 a7 := by rw [ea7]; exact w32_R _
        refine m_iinc (k := 3) (pc := 37) C dX6_useOf_37 hl rfl (by decide) ea7 (lvK1 0 rfl (Nat.ne_of_beq_eq_false rfl) (Nat.ne_of_beq_eq_false rfl) (lvK1 1 rfl (Nat.ne_of_beq_eq_false rfl) (Nat.ne_of_beq_eq_false rfl) (lvK2 2 rfl (Nat.ne_of_beq_eq_false rfl) rfl lvK0))) (fun ls hl => ?_)
        refine m_goto (tgt := 4) (pc := 40) C dX6_useOf_40 (by decide) ?_
        exact ih _ _ _ _ _ h rx1 rx2 ra7 _ _ _ hM (lv_sub hl [1, 2, 3, 0] rfl)
      · have h := if_f h c6
        refine m_iload_n (pc := 25) C dX6_useOf_25 rfl (lv_at hl 2 rfl) ?_
        refine m_aload_n (pc := 26) C dX6_useOf_26 rfl (lv_at hl 0 rfl) ?_
        obtain ⟨q8, h⟩ := ck_some h
        refine G_X6_lots (pc := 27) C hM bw_1_183 q8 dX6_useOf_27 ?_
        refine m_iload_n (pc := 30) C dX6_useOf_30 rfl (lv_at hl 3 rfl) ?_
        obtain ⟨q9, h⟩ := ck_some h
        refine m_aald (pc := 31) C hM q9.1 (by decide) (by decide) q9.2.1 q9.2.2 dX6_useOf_31 ?_
        obtain ⟨q10, h⟩ := ck_some h
        obtain ⟨a11, μ12, ca11, h⟩ := bd_some h
        refine V_X2_suspended (pc := 32) C hM ca11 q10 bw_3_40 ⟨Nat.le_of_ble_eq_true rfl, Nat.le_of_ble_eq_true rfl⟩ hl.1 (rcI rc0) ⟨Nat.le_refl _, Nat.le_refl _⟩ dX6_useOf_32 (fun ra11 H locs hM => ?_)
        obtain ⟨a13, ea13, h⟩ := nm_some h
        have ra13 : R32 a13 := by rw [ea13]; exact w32_R _
        refine m_iadd (pc := 35) C dX6_useOf_35 ea13 ?_
        refine m_istore_n (pc := 36) C dX6_useOf_36 rfl hl (by decide) (lvK1 0 rfl (Nat.ne_of_beq_eq_false rfl) (Nat.ne_of_beq_eq_false rfl) (lvK2 1 rfl (Nat.ne_of_beq_eq_false rfl) rfl (lvK1 3 rfl (Nat.ne_of_beq_eq_false rfl) (Nat.ne_of_beq_eq_false rfl) lvK0))) (fun ls hl => ?_)
        obtain ⟨a14, ea14, h⟩ := nm_some h
        have ra14 : R32 a14 := by rw [ea14]; exact w32_R _
        refine m_iinc (k := 3) (pc := 37) C dX6_useOf_37 hl rfl (by decide) ea14 (lvK2 0 rfl (Nat.ne_of_beq_eq_false rfl) rfl (lvK1 1 rfl (Nat.ne_of_beq_eq_false rfl) (Nat.ne_of_beq_eq_false rfl) (lvK1 2 rfl (Nat.ne_of_beq_eq_false rfl) (Nat.ne_of_beq_eq_false rfl) lvK0))) (fun ls hl => ?_)
        refine m_goto (tgt := 4) (pc := 40) C dX6_useOf_40 (by decide) ?_
        exact ih _ _ _ _ _ h rx1 ra13 ra14 _ _ _ hM (lv_sub hl [2, 3, 1, 0] rfl)
set_option maxHeartbeats 4000000 in
set_option maxRecDepth 100000 in
theorem c_X6_useOf (l : Launch) (E : gE) (N : Nat) (x0 x1 : Int) (μ μ' : Mm) (r : Int) (h : f_X6_useOf N x0 x1 μ = some (r, μ')) (rx1 : R32 x1) : gMet l E yX6_useOf cX6_useOf 4 (some .int) 1 20 [vr E x0, vi x1] (some (vi r)) (R32 r) μ μ' 0 0 := by
  refine g_ofW [1, 1] (by first | (simp only [List.map_cons, List.map_nil, vr_cat]; done) | (simp only [List.map_cons, List.map_nil, vr_cat]; rfl)) (by decide) (by decide) (fun p e s m below meth c ls C hM hl => ?_)
  replace C : gCx p s m _ meth c cX6_useOf 4 (some .int) "useOf" RX6 := C
  replace hl : lv_has ls 4 [(0, vr E x0), (1, vi x1)] := hl
  unfold f_X6_useOf at h
  refine m_iconst (pc := 0) C dX6_useOf_0 ?_
  refine m_istore_n (pc := 1) C dX6_useOf_1 rfl hl (by decide) (lvK1 0 rfl (Nat.ne_of_beq_eq_false rfl) (Nat.ne_of_beq_eq_false rfl) (lvK2 1 rfl (Nat.ne_of_beq_eq_false rfl) rfl lvK0)) (fun ls hl => ?_)
  refine m_iconst (pc := 2) C dX6_useOf_2 ?_
  refine m_istore_n (pc := 3) C dX6_useOf_3 rfl hl (by decide) (lvK2 0 rfl (Nat.ne_of_beq_eq_false rfl) rfl (lvK1 1 rfl (Nat.ne_of_beq_eq_false rfl) (Nat.ne_of_beq_eq_false rfl) (lvK1 2 rfl (Nat.ne_of_beq_eq_false rfl) (Nat.ne_of_beq_eq_false rfl) lvK0))) (fun ls hl => ?_)
  exact k_X6_useOf_b4 C N N _ _ _ _ _ h rx1 rk_0 rk_0 _ _ _ hM (lv_sub hl [2, 3, 1, 0] rfl)
theorem hd_X6_useOf : yX6_useOf.cls ≠ "java/lang/invoke/MethodHandle" ∧ yX6_useOf.cls ≠ "java/lang/invoke/VarHandle" ∧ (parseMethodDescriptor yX6_useOf.desc).map (fun d => d.parameters.length) = some 1 := by decide +kernel

theorem V_X6_useOf {p : Program} {l : Launch} {e : Env} {R : Room} {s : State} {m : MethodId} {args : Array Value} {below : List Frame} {meth : Method} {c : Code} {H : Heap} {locs : List Loc} {cells slots : Nat} {Q : State → Prop} {cc : ByteArray} {pc nL : Nat} {ls : Array Slot} {rest : List Value} {ret : Option FieldType} {nmm own : String} {E : gE} {μ μ1 : Mm} {index : Nat} (C : gCx p s m args meth c cc nL ret nmm own) (hM : MS E μ s H locs) {N : Nat} {x0 x1 v : Int} (hc : f_X6_useOf N x0 x1 μ = some (v, μ1)) (rx1 : R32 x1) (hck : μ x0 (-2) = 8) (h1 : Cond.methodLink own index yX6_useOf ∈ bigL) (hR : 2 ≤ R.frames ∧ 43 ≤ R.locals) (hl : ls.size = nL) (hcat : RC rest 8) (hf : cells + 0 ≤ R.cells ∧ slots + 0 ≤ R.slots) (hdg : decode cc pc = .ok (.invokevirtual index, 3)) (kk : (R32 v) → ∀ (H1 : Heap) (locs1 : List Loc), MS E μ1 s H1 locs1 → W p l e R s m args below meth c H1 locs1 (cells + 0) (slots + 0) Q (F0 m (pc + 3) ls (vi v :: rest))) : W p l e R s m args below meth c H locs cells slots Q (F0 m pc ls (vi x1 :: vr E x0 :: rest)) := g_callV C KF_X6 hM (c_X6_useOf l E N x0 x1 μ μ1 v hc rx1) hck (gV h1 bw_3_37 bw_3_38 bw_1_2 bw_3_39) ⟨rfl, hd_X6_useOf⟩ hR rfl hl rfl hcat hf hdg kk
/-! X6_storedLotsOf -/
def f_X6_storedLotsOf_b4 (N : Nat) : Nat → Int → Int → Int → Int → Mm → Rs
  | 0, _, _, _, _, _ => none
  | n + 1, x0, x1, x2, x3, μ =>
    ck (μ x0 (-2) = 8) <|
    if (μ x0 5) ≤ x3 then
      (some (x2, μ))
    else
    ck (μ x0 (-2) = 8) <|
    ck (μ (μ x0 2) (-2) = 28 ∧ (0 : Int) ≤ x3 ∧ x3 < μ (μ x0 2) (-1)) <|
    ck (μ (μ (μ x0 2) x3) (-2) = 4) <|
    if ¬ (μ (μ (μ x0 2) x3) 0) = x1 then
      (nm (w32 (x3 + 1)) fun a7 =>
       f_X6_storedLotsOf_b4 N n x0 x1 x2 a7 μ)
    else
    ck (μ x0 (-2) = 8) <|
    ck (μ (μ x0 2) (-2) = 28 ∧ (0 : Int) ≤ x3 ∧ x3 < μ (μ x0 2) (-1)) <|
    ck (μ (μ (μ x0 2) x3) (-2) = 4) <|
    if (μ (μ (μ x0 2) x3) 7) ≤ 0 then
      (nm (w32 (x3 + 1)) fun a12 =>
       f_X6_storedLotsOf_b4 N n x0 x1 x2 a12 μ)
    else
    nm (w32 (x2 + 1)) fun a13 =>
    nm (w32 (x3 + 1)) fun a14 =>
    f_X6_storedLotsOf_b4 N n x0 x1 a13 a14 μ
def f_X6_storedLotsOf (N : Nat) (x0 x1 : Int) (μ : Mm) : Rs :=
  f_X6_storedLotsOf_b4 N N x0 x1 0 0 μ
set_option maxHeartbeats 4000000 in
set_option maxRecDepth 100000 in
theorem k_X6_storedLotsOf_b4 (C : gCx p s m args meth c cX6_storedLotsOf 4 (some .int) "storedLotsOf" RX6) (N : Nat) {r : Int} {μ' : Mm} : ∀ (n : Nat), ∀ (x0 x1 x2 x3 : Int) (μ : Mm), f_X6_storedLotsOf_b4 N n x0 x1 x2 x3 μ = some (r, μ') → R32 x1 → R32 x2 → R32 x3 → ∀ (H : Heap) (locs : List Loc) (ls : Array Slot), MS E μ s H locs → lv_has ls 4 [(0, vr E x0), (1, vi x1), (2, vi x2), (3, vi x3)] → W p l e ({ frames := 0, cells := 0, slots := 0, locals := 0 } : Room) s m args below meth c H locs 0 0 (MQ below (gQ E (some (vi r)) (R32 r) μ') args s 0 0 (gA E)) (F0 m 4 ls []) := by
  intro n
  induction n with
  | zero => intro x0 x1 x2 x3 μ h; simp [f_X6_storedLotsOf_b4] at h
  | succ n ih =>
    intro x0 x1 x2 x3 μ h rx1 rx2 rx3 H locs ls hM hl
    rw [f_X6_storedLotsOf_b4] at h
    refine m_iload_n (pc := 4) C dX6_storedLotsOf_4 rfl (lv_at hl 3 rfl) ?_
    refine m_aload_n (pc := 5) C dX6_storedLotsOf_5 rfl (lv_at hl 0 rfl) ?_
    obtain ⟨q1, h⟩ := ck_some h
    have gq1 := Gr_X6_lotCount hM q1
    refine G_X6_lotCount (pc := 6) C hM bw_1_189 q1 dX6_storedLotsOf_6 ?_
    refine m_icmp_ge (tgt := 46) (pc := 9) C rx3 gq1 dX6_storedLotsOf_9 (by decide) (fun c2 => ?_) (fun c2 => ?_)
    · have h := if_t h c2
      refine m_iload_n (pc := 46) C dX6_storedLotsOf_46 rfl (lv_at hl 2 rfl) ?_
      cases h
      exact m_iret (pc := 47) C hM rx2 dX6_storedLotsOf_47
    · have h := if_f h c2
      refine m_aload_n (pc := 12) C dX6_storedLotsOf_12 rfl (lv_at hl 0 rfl) ?_
      obtain ⟨q3, h⟩ := ck_some h
      refine G_X6_lots (pc := 13) C hM bw_1_183 q3 dX6_storedLotsOf_13 ?_
      refine m_iload_n (pc := 16) C dX6_storedLotsOf_16 rfl (lv_at hl 3 rfl) ?_
      obtain ⟨q4, h⟩ := ck_some h
      refine m_aald (pc := 17) C hM q4.1 (by decide) (by decide) q4.2.1 q4.2.2 dX6_storedLotsOf_17 ?_
      obtain ⟨q5, h⟩ := ck_some h
      have gq5 := Gr_X2_owner hM q5
      refine G_X2_owner (pc := 18) C hM bw_1_99 q5 dX6_storedLotsOf_18 ?_
      refine m_iload_n (pc := 21) C dX6_storedLotsOf_21 rfl (lv_at hl 1 rfl) ?_
      refine m_icmp_ne (tgt := 40) (pc := 22) C gq5 rx1 dX6_storedLotsOf_22 (by decide) (fun c6 => ?_) (fun c6 => ?_)
      · have h := if_t h c6
        obtain ⟨a7, ea7, h⟩ := nm_some h
        have ra7 : R32 a7 := by rw [ea7]; exact w32_R _
        refine m_iinc (k := 3) (pc := 40) C dX6_storedLotsOf_40 hl rfl (by decide) ea7 (lvK1 0 rfl (Nat.ne_of_beq_eq_false rfl) (Nat.ne_of_beq_eq_false rfl) (lvK1 1 rfl (Nat.ne_of_beq_eq_false rfl) (Nat.ne_of_beq_eq_false rfl) (lvK2 2 rfl (Nat.ne_of_beq_eq_false rfl) rfl lvK0))) (fun ls hl => ?_)
        refine m_goto (tgt := 4) (pc := 43) C dX6_storedLotsOf_43 (by decide) ?_
        exact ih _ _ _ _ _ h rx1 rx2 ra7 _ _ _ hM (lv_sub hl [1, 2, 3, 0] rfl)
      · have h := if_f h c6
        refine m_aload_n (pc := 25) C dX6_storedLotsOf_25 rfl (lv_at hl 0 rfl) ?_
        obtain ⟨q8, h⟩ := ck_some h
        refine G_X6_lots (pc := 26) C hM bw_1_183 q8 dX6_storedLotsOf_26 ?_
        refine m_iload_n (pc := 29) C dX6_storedLotsOf_29 rfl (lv_at hl 3 rfl) ?_
        obtain ⟨q9, h⟩ := ck_some h
        refine m_aald (pc := 30) C hM q9.1 (by decide) (by decide) q9.2.1 q9.2.2 dX6_storedLotsOf_30 ?_
        obtain ⟨q10, h⟩ := ck_some h
        have gq10 := Gr_X2_stored hM q10
        refine G_X2_stored (pc := 31) C hM bw_1_115 q10 dX6_storedLotsOf_31 ?_
        refine m_if_le (tgt := 40) (pc := 34) C gq10 dX6_storedLotsOf_34 (by decide) (fun c11 => ?_) (fun c11 => ?_)
        · have h := if_t h c11
          obtain ⟨a12, ea12, h⟩ := nm_some h
          have ra12 : R32 a12 := by rw [ea12]; exact w32_R _
          refine m_iinc (k := 3) (pc := 40) C dX6_storedLotsOf_40 hl rfl (by decide) ea12 (lvK1 0 rfl (Nat.ne_of_beq_eq_false rfl) (Nat.ne_of_beq_eq_false rfl) (lvK1 1 rfl (Nat.ne_of_beq_eq_false rfl) (Nat.ne_of_beq_eq_false rfl) (lvK2 2 rfl (Nat.ne_of_beq_eq_false rfl) rfl lvK0))) (fun ls hl => ?_)
          refine m_goto (tgt := 4) (pc := 43) C dX6_storedLotsOf_43 (by decide) ?_
          exact ih _ _ _ _ _ h rx1 rx2 ra12 _ _ _ hM (lv_sub hl [1, 2, 3, 0] rfl)
        · have h := if_f h c11
          obtain ⟨a13, ea13, h⟩ := nm_some h
          have ra13 : R32 a13 := by rw [ea13]; exact w32_R _
          refine m_iinc (k := 2) (pc := 37) C dX6_storedLotsOf_37 hl rfl (by decide) ea13 (lvK1 0 rfl (Nat.ne_of_beq_eq_false rfl) (Nat.ne_of_beq_eq_false rfl) (lvK2 1 rfl (Nat.ne_of_beq_eq_false rfl) rfl (lvK1 3 rfl (Nat.ne_of_beq_eq_false rfl) (Nat.ne_of_beq_eq_false rfl) lvK0))) (fun ls hl => ?_)
          obtain ⟨a14, ea14, h⟩ := nm_some h
          have ra14 : R32 a14 := by rw [ea14]; exact w32_R _
          refine m_iinc (k := 3) (pc := 40) C dX6_storedLotsOf_40 hl rfl (by decide) ea14 (lvK2 0 rfl (Nat.ne_of_beq_eq_false rfl) rfl (lvK1 1 rfl (Nat.ne_of_beq_eq_false rfl) (Nat.ne_of_beq_eq_false rfl) (lvK1 2 rfl (Nat.ne_of_beq_eq_false rfl) (Nat.ne_of_beq_eq_false rfl) lvK0))) (fun ls hl => ?_)
          refine m_goto (tgt := 4) (pc := 43) C dX6_storedLotsOf_43 (by decide) ?_
          exact ih _ _ _ _ _ h rx1 ra13 ra14 _ _ _ hM (lv_sub hl [2, 3, 1, 0] rfl)
set_option maxHeartbeats 4000000 in
set_option maxRecDepth 100000 in
theorem c_X6_storedLotsOf (l : Launch) (E : gE) (N : Nat) (x0 x1 : Int) (μ μ' : Mm) (r : Int) (h : f_X6_storedLotsOf N x0 x1 μ = some (r, μ')) (rx1 : R32 x1) : gMet l E yX6_storedLotsOf cX6_storedLotsOf 4 (some .int) 0 0 [vr E x0, vi x1] (some (vi r)) (R32 r) μ μ' 0 0 := by
  refine g_ofW [1, 1] (by first | (simp only [List.map_cons, List.map_nil, vr_cat]; done) | (simp only [List.map_cons, List.map_nil, vr_cat]; rfl)) (by decide) (by decide) (fun p e s m below meth c ls C hM hl => ?_)
  replace C : gCx p s m _ meth c cX6_storedLotsOf 4 (some .int) "storedLotsOf" RX6 := C
  replace hl : lv_has ls 4 [(0, vr E x0), (1, vi x1)] := hl
  unfold f_X6_storedLotsOf at h
  refine m_iconst (pc := 0) C dX6_storedLotsOf_0 ?_
  refine m_istore_n (pc := 1) C dX6_storedLotsOf_1 rfl hl (by decide) (lvK1 0 rfl (Nat.ne_of_beq_eq_false rfl) (Nat.ne_of_beq_eq_false rfl) (lvK2 1 rfl (Nat.ne_of_beq_eq_false rfl) rfl lvK0)) (fun ls hl => ?_)
  refine m_iconst (pc := 2) C dX6_storedLotsOf_2 ?_
  refine m_istore_n (pc := 3) C dX6_storedLotsOf_3 rfl hl (by decide) (lvK2 0 rfl (Nat.ne_of_beq_eq_false rfl) rfl (lvK1 1 rfl (Nat.ne_of_beq_eq_false rfl) (Nat.ne_of_beq_eq_false rfl) (lvK1 2 rfl (Nat.ne_of_beq_eq_false rfl) (Nat.ne_of_beq_eq_false rfl) lvK0))) (fun ls hl => ?_)
  exact k_X6_storedLotsOf_b4 C N N _ _ _ _ _ h rx1 rk_0 rk_0 _ _ _ hM (lv_sub hl [2, 3, 1, 0] rfl)
theorem hd_X6_storedLotsOf : yX6_storedLotsOf.cls ≠ "java/lang/invoke/MethodHandle" ∧ yX6_storedLotsOf.cls ≠ "java/lang/invoke/VarHandle" ∧ (parseMethodDescriptor yX6_storedLotsOf.desc).map (fun d => d.parameters.length) = some 1 := by decide +kernel

theorem V_X6_storedLotsOf {p : Program} {l : Launch} {e : Env} {R : Room} {s : State} {m : MethodId} {args : Array Value} {below : List Frame} {meth : Method} {c : Code} {H : Heap} {locs : List Loc} {cells slots : Nat} {Q : State → Prop} {cc : ByteArray} {pc nL : Nat} {ls : Array Slot} {rest : List Value} {ret : Option FieldType} {nmm own : String} {E : gE} {μ μ1 : Mm} {index : Nat} (C : gCx p s m args meth c cc nL ret nmm own) (hM : MS E μ s H locs) {N : Nat} {x0 x1 v : Int} (hc : f_X6_storedLotsOf N x0 x1 μ = some (v, μ1)) (rx1 : R32 x1) (hck : μ x0 (-2) = 8) (h1 : Cond.methodLink own index yX6_storedLotsOf ∈ bigL) (hR : 1 ≤ R.frames ∧ 23 ≤ R.locals) (hl : ls.size = nL) (hcat : RC rest 8) (hf : cells + 0 ≤ R.cells ∧ slots + 0 ≤ R.slots) (hdg : decode cc pc = .ok (.invokevirtual index, 3)) (kk : (R32 v) → ∀ (H1 : Heap) (locs1 : List Loc), MS E μ1 s H1 locs1 → W p l e R s m args below meth c H1 locs1 (cells + 0) (slots + 0) Q (F0 m (pc + 3) ls (vi v :: rest))) : W p l e R s m args below meth c H locs cells slots Q (F0 m pc ls (vi x1 :: vr E x0 :: rest)) := g_callV C KF_X6 hM (c_X6_storedLotsOf l E N x0 x1 μ μ1 v hc rx1) hck (gV h1 bw_3_50 bw_3_51 bw_1_2 bw_3_52) ⟨rfl, hd_X6_storedLotsOf⟩ hR rfl hl rfl hcat hf hdg kk
/-! X6_sumOfLots -/
def f_X6_sumOfLots_b4 (N : Nat) : Nat → Int → Int → Int → Int → Mm → Rs
  | 0, _, _, _, _, _ => none
  | n + 1, x0, x1, x2, x3, μ =>
    ck (μ x0 (-2) = 8) <|
    if (μ x0 5) ≤ x3 then
      (some (x2, μ))
    else
    ck (μ x0 (-2) = 8) <|
    ck (μ (μ x0 2) (-2) = 28 ∧ (0 : Int) ≤ x3 ∧ x3 < μ (μ x0 2) (-1)) <|
    ck (μ (μ (μ x0 2) x3) (-2) = 4) <|
    bd (f_X2_partOfDuty N (μ (μ x0 2) x3) x1 μ) fun a6 μ7 =>
    nm (w32 (x2 + a6)) fun a8 =>
    nm (w32 (x3 + 1)) fun a9 =>
    f_X6_sumOfLots_b4 N n x0 x1 a8 a9 μ7
def f_X6_sumOfLots (N : Nat) (x0 x1 : Int) (μ : Mm) : Rs :=
  f_X6_sumOfLots_b4 N N x0 x1 0 0 μ
set_option maxHeartbeats 4000000 in
set_option maxRecDepth 100000 in
theorem k_X6_sumOfLots_b4 (C : gCx p s m args meth c cX6_sumOfLots 4 (some .int) "sumOfLots" RX6) (N : Nat) {r : Int} {μ' : Mm} : ∀ (n : Nat), ∀ (x0 x1 x2 x3 : Int) (μ : Mm), f_X6_sumOfLots_b4 N n x0 x1 x2 x3 μ = some (r, μ') → R32 x1 → R32 x2 → R32 x3 → ∀ (H : Heap) (locs : List Loc) (ls : Array Slot), MS E μ s H locs → lv_has ls 4 [(0, vr E x0), (1, vi x1), (2, vi x2), (3, vi x3)] → W p l e ({ frames := 2, cells := 0, slots := 0, locals := 41 } : Room) s m args below meth c H locs 0 0 (MQ below (gQ E (some (vi r)) (R32 r) μ') args s 0 0 (gA E)) (F0 m 4 ls []) := by
  intro n
  induction n with
  | zero => intro x0 x1 x2 x3 μ h; simp [f_X6_sumOfLots_b4] at h
  | succ n ih =>
    intro x0 x1 x2 x3 μ h rx1 rx2 rx3 H locs ls hM hl
    rw [f_X6_sumOfLots_b4] at h
    refine m_iload_n (pc := 4) C dX6_sumOfLots_4 rfl (lv_at hl 3 rfl) ?_
    refine m_aload_n (pc := 5) C dX6_sumOfLots_5 rfl (lv_at hl 0 rfl) ?_
    obtain ⟨q1, h⟩ := ck_some h
    have gq1 := Gr_X6_lotCount hM q1
    refine G_X6_lotCount (pc := 6) C hM bw_1_189 q1 dX6_sumOfLots_6 ?_
    refine m_icmp_ge (tgt := 31) (pc := 9) C rx3 gq1 dX6_sumOfLots_9 (by decide) (fun c2 => ?_) (fun c2 => ?_)
    · have h := if_t h c2
      refine m_iload_n (pc := 31) C dX6_sumOfLots_31 rfl (lv_at hl 2 rfl) ?_
      cases h
      exact m_iret (pc := 32) C hM rx2 dX6_sumOfLots_32
    · have h := if_f h c2
      refine m_iload_n (pc := 12) C dX6_sumOfLots_12 rfl (lv_at hl 2 rfl) ?_
      refine m_aload_n (pc := 13) C dX6_sumOfLots_13 rfl (lv_at hl 0 rfl) ?_
      obtain ⟨q3, h⟩ := ck_some h
      refine G_X6_lots (pc := 14) C hM bw_1_183 q3 dX6_sumOfLots_14 ?_
      refine m_iload_n (pc := 17) C dX6_sumOfLots_17 rfl (lv_at hl 3 rfl) ?_
      obtain ⟨q4, h⟩ := ck_some h
      refine m_aald (pc := 18) C hM q4.1 (by decide) (by decide) q4.2.1 q4.2.2 dX6_sumOfLots_18 ?_
      refine m_iload_n (pc := 19) C dX6_sumOfLots_19 rfl (lv_at hl 1 rfl) ?_
      obtain ⟨q5, h⟩ := ck_some h
      obtain ⟨a6, μ7, ca6, h⟩ := bd_some h
      refine V_X2_partOfDuty (pc := 20) C hM ca6 rx1 q5 bw_3_71 ⟨Nat.le_of_ble_eq_true rfl, Nat.le_of_ble_eq_true rfl⟩ hl.1 (rcI rc0) ⟨Nat.le_refl _, Nat.le_refl _⟩ dX6_sumOfLots_20 (fun ra6 H locs hM => ?_)
      obtain ⟨a8, ea8, h⟩ := nm_some h
      have ra8 : R32 a8 := by rw [ea8]; exact w32_R _
      refine m_iadd (pc := 23) C dX6_sumOfLots_23 ea8 ?_
      refine m_istore_n (pc := 24) C dX6_sumOfLots_24 rfl hl (by decide) (lvK1 0 rfl (Nat.ne_of_beq_eq_false rfl) (Nat.ne_of_beq_eq_false rfl) (lvK2 1 rfl (Nat.ne_of_beq_eq_false rfl) rfl (lvK1 3 rfl (Nat.ne_of_beq_eq_false rfl) (Nat.ne_of_beq_eq_false rfl) lvK0))) (fun ls hl => ?_)
      obtain ⟨a9, ea9, h⟩ := nm_some h
      have ra9 : R32 a9 := by rw [ea9]; exact w32_R _
      refine m_iinc (k := 3) (pc := 25) C dX6_sumOfLots_25 hl rfl (by decide) ea9 (lvK2 0 rfl (Nat.ne_of_beq_eq_false rfl) rfl (lvK1 1 rfl (Nat.ne_of_beq_eq_false rfl) (Nat.ne_of_beq_eq_false rfl) (lvK1 2 rfl (Nat.ne_of_beq_eq_false rfl) (Nat.ne_of_beq_eq_false rfl) lvK0))) (fun ls hl => ?_)
      refine m_goto (tgt := 4) (pc := 28) C dX6_sumOfLots_28 (by decide) ?_
      exact ih _ _ _ _ _ h rx1 ra8 ra9 _ _ _ hM (lv_sub hl [2, 3, 1, 0] rfl)
set_option maxHeartbeats 4000000 in
set_option maxRecDepth 100000 in
theorem c_X6_sumOfLots (l : Launch) (E : gE) (N : Nat) (x0 x1 : Int) (μ μ' : Mm) (r : Int) (h : f_X6_sumOfLots N x0 x1 μ = some (r, μ')) (rx1 : R32 x1) : gMet l E yX6_sumOfLots cX6_sumOfLots 4 (some .int) 2 41 [vr E x0, vi x1] (some (vi r)) (R32 r) μ μ' 0 0 := by
  refine g_ofW [1, 1] (by first | (simp only [List.map_cons, List.map_nil, vr_cat]; done) | (simp only [List.map_cons, List.map_nil, vr_cat]; rfl)) (by decide) (by decide) (fun p e s m below meth c ls C hM hl => ?_)
  replace C : gCx p s m _ meth c cX6_sumOfLots 4 (some .int) "sumOfLots" RX6 := C
  replace hl : lv_has ls 4 [(0, vr E x0), (1, vi x1)] := hl
  unfold f_X6_sumOfLots at h
  refine m_iconst (pc := 0) C dX6_sumOfLots_0 ?_
  refine m_istore_n (pc := 1) C dX6_sumOfLots_1 rfl hl (by decide) (lvK1 0 rfl (Nat.ne_of_beq_eq_false rfl) (Nat.ne_of_beq_eq_false rfl) (lvK2 1 rfl (Nat.ne_of_beq_eq_false rfl) rfl lvK0)) (fun ls hl => ?_)
  refine m_iconst (pc := 2) C dX6_sumOfLots_2 ?_
  refine m_istore_n (pc := 3) C dX6_sumOfLots_3 rfl hl (by decide) (lvK2 0 rfl (Nat.ne_of_beq_eq_false rfl) rfl (lvK1 1 rfl (Nat.ne_of_beq_eq_false rfl) (Nat.ne_of_beq_eq_false rfl) (lvK1 2 rfl (Nat.ne_of_beq_eq_false rfl) (Nat.ne_of_beq_eq_false rfl) lvK0))) (fun ls hl => ?_)
  exact k_X6_sumOfLots_b4 C N N _ _ _ _ _ h rx1 rk_0 rk_0 _ _ _ hM (lv_sub hl [2, 3, 1, 0] rfl)
theorem hd_X6_sumOfLots : yX6_sumOfLots.cls ≠ "java/lang/invoke/MethodHandle" ∧ yX6_sumOfLots.cls ≠ "java/lang/invoke/VarHandle" ∧ (parseMethodDescriptor yX6_sumOfLots.desc).map (fun d => d.parameters.length) = some 1 := by decide +kernel

theorem V_X6_sumOfLots {p : Program} {l : Launch} {e : Env} {R : Room} {s : State} {m : MethodId} {args : Array Value} {below : List Frame} {meth : Method} {c : Code} {H : Heap} {locs : List Loc} {cells slots : Nat} {Q : State → Prop} {cc : ByteArray} {pc nL : Nat} {ls : Array Slot} {rest : List Value} {ret : Option FieldType} {nmm own : String} {E : gE} {μ μ1 : Mm} {index : Nat} (C : gCx p s m args meth c cc nL ret nmm own) (hM : MS E μ s H locs) {N : Nat} {x0 x1 v : Int} (hc : f_X6_sumOfLots N x0 x1 μ = some (v, μ1)) (rx1 : R32 x1) (hck : μ x0 (-2) = 8) (h1 : Cond.methodLink own index yX6_sumOfLots ∈ bigL) (hR : 3 ≤ R.frames ∧ 64 ≤ R.locals) (hl : ls.size = nL) (hcat : RC rest 8) (hf : cells + 0 ≤ R.cells ∧ slots + 0 ≤ R.slots) (hdg : decode cc pc = .ok (.invokevirtual index, 3)) (kk : (R32 v) → ∀ (H1 : Heap) (locs1 : List Loc), MS E μ1 s H1 locs1 → W p l e R s m args below meth c H1 locs1 (cells + 0) (slots + 0) Q (F0 m (pc + 3) ls (vi v :: rest))) : W p l e R s m args below meth c H locs cells slots Q (F0 m pc ls (vi x1 :: vr E x0 :: rest)) := g_callV C KF_X6 hM (c_X6_sumOfLots l E N x0 x1 μ μ1 v hc rx1) hck (gV h1 bw_3_68 bw_3_69 bw_1_2 bw_3_70) ⟨rfl, hd_X6_sumOfLots⟩ hR rfl hl rfl hcat hf hdg kk
/-! X6_calledOfAll -/
def f_X6_calledOfAll_b4 (N : Nat) : Nat → Int → Int → Int → Mm → Rs
  | 0, _, _, _, _ => none
  | n + 1, x0, x1, x2, μ =>
    ck (μ x0 (-2) = 8) <|
    if (μ x0 4) ≤ x2 then
      (some (x1, μ))
    else
    ck (μ x0 (-2) = 8) <|
    ck (μ (μ x0 1) (-2) = 27 ∧ (0 : Int) ≤ x2 ∧ x2 < μ (μ x0 1) (-1)) <|
    ck (μ (μ (μ x0 1) x2) (-2) = 6) <|
    nm (w32 (x1 + (μ (μ (μ x0 1) x2) 3))) fun a6 =>
    nm (w32 (x2 + 1)) fun a7 =>
    f_X6_calledOfAll_b4 N n x0 a6 a7 μ
def f_X6_calledOfAll (N : Nat) (x0 : Int) (μ : Mm) : Rs :=
  f_X6_calledOfAll_b4 N N x0 0 0 μ
set_option maxHeartbeats 4000000 in
set_option maxRecDepth 100000 in
theorem k_X6_calledOfAll_b4 (C : gCx p s m args meth c cX6_calledOfAll 3 (some .int) "calledOfAll" RX6) (N : Nat) {r : Int} {μ' : Mm} : ∀ (n : Nat), ∀ (x0 x1 x2 : Int) (μ : Mm), f_X6_calledOfAll_b4 N n x0 x1 x2 μ = some (r, μ') → R32 x1 → R32 x2 → ∀ (H : Heap) (locs : List Loc) (ls : Array Slot), MS E μ s H locs → lv_has ls 3 [(0, vr E x0), (1, vi x1), (2, vi x2)] → W p l e ({ frames := 0, cells := 0, slots := 0, locals := 0 } : Room) s m args below meth c H locs 0 0 (MQ below (gQ E (some (vi r)) (R32 r) μ') args s 0 0 (gA E)) (F0 m 4 ls []) := by
  intro n
  induction n with
  | zero => intro x0 x1 x2 μ h; simp [f_X6_calledOfAll_b4] at h
  | succ n ih =>
    intro x0 x1 x2 μ h rx1 rx2 H locs ls hM hl
    rw [f_X6_calledOfAll_b4] at h
    refine m_iload_n (pc := 4) C dX6_calledOfAll_4 rfl (lv_at hl 2 rfl) ?_
    refine m_aload_n (pc := 5) C dX6_calledOfAll_5 rfl (lv_at hl 0 rfl) ?_
    obtain ⟨q1, h⟩ := ck_some h
    have gq1 := Gr_X6_ownerCount hM q1
    refine G_X6_ownerCount (pc := 6) C hM bw_1_188 q1 dX6_calledOfAll_6 ?_
    refine m_icmp_ge (tgt := 30) (pc := 9) C rx2 gq1 dX6_calledOfAll_9 (by decide) (fun c2 => ?_) (fun c2 => ?_)
    · have h := if_t h c2
      refine m_iload_n (pc := 30) C dX6_calledOfAll_30 rfl (lv_at hl 1 rfl) ?_
      cases h
      exact m_iret (pc := 31) C hM rx1 dX6_calledOfAll_31
    · have h := if_f h c2
      refine m_iload_n (pc := 12) C dX6_calledOfAll_12 rfl (lv_at hl 1 rfl) ?_
      refine m_aload_n (pc := 13) C dX6_calledOfAll_13 rfl (lv_at hl 0 rfl) ?_
      obtain ⟨q3, h⟩ := ck_some h
      refine G_X6_owners (pc := 14) C hM bw_1_182 q3 dX6_calledOfAll_14 ?_
      refine m_iload_n (pc := 17) C dX6_calledOfAll_17 rfl (lv_at hl 2 rfl) ?_
      obtain ⟨q4, h⟩ := ck_some h
      refine m_aald (pc := 18) C hM q4.1 (by decide) (by decide) q4.2.1 q4.2.2 dX6_calledOfAll_18 ?_
      obtain ⟨q5, h⟩ := ck_some h
      have gq5 := Gr_X4_called hM q5
      refine G_X4_called (pc := 19) C hM bw_1_80 q5 dX6_calledOfAll_19 ?_
      obtain ⟨a6, ea6, h⟩ := nm_some h
      have ra6 : R32 a6 := by rw [ea6]; exact w32_R _
      refine m_iadd (pc := 22) C dX6_calledOfAll_22 ea6 ?_
      refine m_istore_n (pc := 23) C dX6_calledOfAll_23 rfl hl (by decide) (lvK2 0 rfl (Nat.ne_of_beq_eq_false rfl) (vr_cat _ _) (lvK1 2 rfl (Nat.ne_of_beq_eq_false rfl) (Nat.ne_of_beq_eq_false rfl) lvK0)) (fun ls hl => ?_)
      obtain ⟨a7, ea7, h⟩ := nm_some h
      have ra7 : R32 a7 := by rw [ea7]; exact w32_R _
      refine m_iinc (k := 2) (pc := 24) C dX6_calledOfAll_24 hl rfl (by decide) ea7 (lvK2 0 rfl (Nat.ne_of_beq_eq_false rfl) rfl (lvK1 1 rfl (Nat.ne_of_beq_eq_false rfl) (Nat.ne_of_beq_eq_false rfl) lvK0)) (fun ls hl => ?_)
      refine m_goto (tgt := 4) (pc := 27) C dX6_calledOfAll_27 (by decide) ?_
      exact ih _ _ _ _ h ra6 ra7 _ _ _ hM (lv_sub hl [2, 1, 0] rfl)
set_option maxHeartbeats 4000000 in
set_option maxRecDepth 100000 in
theorem c_X6_calledOfAll (l : Launch) (E : gE) (N : Nat) (x0 : Int) (μ μ' : Mm) (r : Int) (h : f_X6_calledOfAll N x0 μ = some (r, μ')) : gMet l E yX6_calledOfAll cX6_calledOfAll 3 (some .int) 0 0 [vr E x0] (some (vi r)) (R32 r) μ μ' 0 0 := by
  refine g_ofW [1] (by first | (simp only [List.map_cons, List.map_nil, vr_cat]; done) | (simp only [List.map_cons, List.map_nil, vr_cat]; rfl)) (by decide) (by decide) (fun p e s m below meth c ls C hM hl => ?_)
  replace C : gCx p s m _ meth c cX6_calledOfAll 3 (some .int) "calledOfAll" RX6 := C
  replace hl : lv_has ls 3 [(0, vr E x0)] := hl
  unfold f_X6_calledOfAll at h
  refine m_iconst (pc := 0) C dX6_calledOfAll_0 ?_
  refine m_istore_n (pc := 1) C dX6_calledOfAll_1 rfl hl (by decide) (lvK2 0 rfl (Nat.ne_of_beq_eq_false rfl) (vr_cat _ _) lvK0) (fun ls hl => ?_)
  refine m_iconst (pc := 2) C dX6_calledOfAll_2 ?_
  refine m_istore_n (pc := 3) C dX6_calledOfAll_3 rfl hl (by decide) (lvK2 0 rfl (Nat.ne_of_beq_eq_false rfl) rfl (lvK1 1 rfl (Nat.ne_of_beq_eq_false rfl) (Nat.ne_of_beq_eq_false rfl) lvK0)) (fun ls hl => ?_)
  exact k_X6_calledOfAll_b4 C N N _ _ _ _ h rk_0 rk_0 _ _ _ hM (lv_sub hl [2, 1, 0] rfl)
theorem hd_X6_calledOfAll : yX6_calledOfAll.cls ≠ "java/lang/invoke/MethodHandle" ∧ yX6_calledOfAll.cls ≠ "java/lang/invoke/VarHandle" ∧ (parseMethodDescriptor yX6_calledOfAll.desc).map (fun d => d.parameters.length) = some 0 := by decide +kernel

theorem V_X6_calledOfAll {p : Program} {l : Launch} {e : Env} {R : Room} {s : State} {m : MethodId} {args : Array Value} {below : List Frame} {meth : Method} {c : Code} {H : Heap} {locs : List Loc} {cells slots : Nat} {Q : State → Prop} {cc : ByteArray} {pc nL : Nat} {ls : Array Slot} {rest : List Value} {ret : Option FieldType} {nmm own : String} {E : gE} {μ μ1 : Mm} {index : Nat} (C : gCx p s m args meth c cc nL ret nmm own) (hM : MS E μ s H locs) {N : Nat} {x0 v : Int} (hc : f_X6_calledOfAll N x0 μ = some (v, μ1)) (hck : μ x0 (-2) = 8) (h1 : Cond.methodLink own index yX6_calledOfAll ∈ bigL) (hR : 1 ≤ R.frames ∧ 22 ≤ R.locals) (hl : ls.size = nL) (hcat : RC rest 8) (hf : cells + 0 ≤ R.cells ∧ slots + 0 ≤ R.slots) (hdg : decode cc pc = .ok (.invokevirtual index, 3)) (kk : (R32 v) → ∀ (H1 : Heap) (locs1 : List Loc), MS E μ1 s H1 locs1 → W p l e R s m args below meth c H1 locs1 (cells + 0) (slots + 0) Q (F0 m (pc + 3) ls (vi v :: rest))) : W p l e R s m args below meth c H locs cells slots Q (F0 m pc ls (vr E x0 :: rest)) := g_callV C KF_X6 hM (c_X6_calledOfAll l E N x0 μ μ1 v hc) hck (gV h1 bw_3_77 bw_3_78 bw_1_2 bw_3_79) ⟨rfl, hd_X6_calledOfAll⟩ hR rfl hl rfl hcat hf hdg kk
/-! X6_waitingUnitsOf -/
def f_X6_waitingUnitsOf_b4 (N : Nat) : Nat → Int → Int → Int → Int → Mm → Rs
  | 0, _, _, _, _, _ => none
  | n + 1, x0, x1, x2, x3, μ =>
    ck (μ x0 (-2) = 8) <|
    if (μ x0 6) ≤ x3 then
      (some (x2, μ))
    else
    ck (μ x0 (-2) = 8) <|
    ck (μ (μ x0 3) (-2) = 29 ∧ (0 : Int) ≤ x3 ∧ x3 < μ (μ x0 3) (-1)) <|
    ck (μ (μ (μ x0 3) x3) (-2) = 2) <|
    if ¬ (μ (μ (μ x0 3) x3) 0) = x1 then
      (nm (w32 (x3 + 1)) fun a7 =>
       f_X6_waitingUnitsOf_b4 N n x0 x1 x2 a7 μ)
    else
    ck (μ x0 (-2) = 8) <|
    ck (μ (μ x0 3) (-2) = 29 ∧ (0 : Int) ≤ x3 ∧ x3 < μ (μ x0 3) (-1)) <|
    ck (μ (μ (μ x0 3) x3) (-2) = 2) <|
    bd (f_X0_waits N (μ (μ x0 3) x3) μ) fun a11 μ12 =>
    if a11 = 0 then
      (nm (w32 (x3 + 1)) fun a14 =>
       f_X6_waitingUnitsOf_b4 N n x0 x1 x2 a14 μ12)
    else
    ck (μ12 x0 (-2) = 8) <|
    ck (μ12 (μ12 x0 3) (-2) = 29 ∧ (0 : Int) ≤ x3 ∧ x3 < μ12 (μ12 x0 3) (-1)) <|
    ck (μ12 (μ12 (μ12 x0 3) x3) (-2) = 2) <|
    nm (w32 (x2 + (μ12 (μ12 (μ12 x0 3) x3) 1))) fun a18 =>
    nm (w32 (x3 + 1)) fun a19 =>
    f_X6_waitingUnitsOf_b4 N n x0 x1 a18 a19 μ12
def f_X6_waitingUnitsOf (N : Nat) (x0 x1 : Int) (μ : Mm) : Rs :=
  f_X6_waitingUnitsOf_b4 N N x0 x1 0 0 μ
set_option maxHeartbeats 4000000 in
set_option maxRecDepth 100000 in
theorem k_X6_waitingUnitsOf_b4 (C : gCx p s m args meth c cX6_waitingUnitsOf 4 (some .int) "waitingUnitsOf" RX6) (N : Nat) {r : Int} {μ' : Mm} : ∀ (n : Nat), ∀ (x0 x1 x2 x3 : Int) (μ : Mm), f_X6_waitingUnitsOf_b4 N n x0 x1 x2 x3 μ = some (r, μ') → R32 x1 → R32 x2 → R32 x3 → ∀ (H : Heap) (locs : List Loc) (ls : Array Slot), MS E μ s H locs → lv_has ls 4 [(0, vr E x0), (1, vi x1), (2, vi x2), (3, vi x3)] → W p l e ({ frames := 1, cells := 0, slots := 0, locals := 20 } : Room) s m args below meth c H locs 0 0 (MQ below (gQ E (some (vi r)) (R32 r) μ') args s 0 0 (gA E)) (F0 m 4 ls []) := by
  intro n
  induction n with
  | zero => intro x0 x1 x2 x3 μ h; simp [f_X6_waitingUnitsOf_b4] at h
  | succ n ih =>
    intro x0 x1 x2 x3 μ h rx1 rx2 rx3 H locs ls hM hl
    rw [f_X6_waitingUnitsOf_b4] at h
    refine m_iload_n (pc := 4) C dX6_waitingUnitsOf_4 rfl (lv_at hl 3 rfl) ?_
    refine m_aload_n (pc := 5) C dX6_waitingUnitsOf_5 rfl (lv_at hl 0 rfl) ?_
    obtain ⟨q1, h⟩ := ck_some h
    have gq1 := Gr_X6_exportCount hM q1
    refine G_X6_exportCount (pc := 6) C hM bw_1_191 q1 dX6_waitingUnitsOf_6 ?_
    refine m_icmp_ge (tgt := 55) (pc := 9) C rx3 gq1 dX6_waitingUnitsOf_9 (by decide) (fun c2 => ?_) (fun c2 => ?_)
    · have h := if_t h c2
      refine m_iload_n (pc := 55) C dX6_waitingUnitsOf_55 rfl (lv_at hl 2 rfl) ?_
      cases h
      exact m_iret (pc := 56) C hM rx2 dX6_waitingUnitsOf_56
    · have h := if_f h c2
      refine m_aload_n (pc := 12) C dX6_waitingUnitsOf_12 rfl (lv_at hl 0 rfl) ?_
      obtain ⟨q3, h⟩ := ck_some h
      refine G_X6_exports (pc := 13) C hM bw_1_185 q3 dX6_waitingUnitsOf_13 ?_
      refine m_iload_n (pc := 16) C dX6_waitingUnitsOf_16 rfl (lv_at hl 3 rfl) ?_
      obtain ⟨q4, h⟩ := ck_some h
      refine m_aald (pc := 17) C hM q4.1 (by decide) (by decide) q4.2.1 q4.2.2 dX6_waitingUnitsOf_17 ?_
      obtain ⟨q5, h⟩ := ck_some h
      have gq5 := Gr_X0_lot hM q5
      refine G_X0_lot (pc := 18) C hM bw_1_156 q5 dX6_waitingUnitsOf_18 ?_
      refine m_iload_n (pc := 21) C dX6_waitingUnitsOf_21 rfl (lv_at hl 1 rfl) ?_
      refine m_icmp_ne (tgt := 49) (pc := 22) C gq5 rx1 dX6_waitingUnitsOf_22 (by decide) (fun c6 => ?_) (fun c6 => ?_)
      · have h := if_t h c6
        obtain ⟨a7, ea7, h⟩ := nm_some h
        have ra7 : R32 a7 := by rw [ea7]; exact w32_R _
        refine m_iinc (k := 3) (pc := 49) C dX6_waitingUnitsOf_49 hl rfl (by decide) ea7 (lvK1 0 rfl (Nat.ne_of_beq_eq_false rfl) (Nat.ne_of_beq_eq_false rfl) (lvK1 1 rfl (Nat.ne_of_beq_eq_false rfl) (Nat.ne_of_beq_eq_false rfl) (lvK2 2 rfl (Nat.ne_of_beq_eq_false rfl) rfl lvK0))) (fun ls hl => ?_)
        refine m_goto (tgt := 4) (pc := 52) C dX6_waitingUnitsOf_52 (by decide) ?_
        exact ih _ _ _ _ _ h rx1 rx2 ra7 _ _ _ hM (lv_sub hl [1, 2, 3, 0] rfl)
      · have h := if_f h c6
        refine m_aload_n (pc := 25) C dX6_waitingUnitsOf_25 rfl (lv_at hl 0 rfl) ?_
        obtain ⟨q8, h⟩ := ck_some h
        refine G_X6_exports (pc := 26) C hM bw_1_185 q8 dX6_waitingUnitsOf_26 ?_
        refine m_iload_n (pc := 29) C dX6_waitingUnitsOf_29 rfl (lv_at hl 3 rfl) ?_
        obtain ⟨q9, h⟩ := ck_some h
        refine m_aald (pc := 30) C hM q9.1 (by decide) (by decide) q9.2.1 q9.2.2 dX6_waitingUnitsOf_30 ?_
        obtain ⟨q10, h⟩ := ck_some h
        obtain ⟨a11, μ12, ca11, h⟩ := bd_some h
        refine V_X0_waits (pc := 31) C hM ca11 q10 bw_3_12 ⟨Nat.le_of_ble_eq_true rfl, Nat.le_of_ble_eq_true rfl⟩ hl.1 rc0 ⟨Nat.le_refl _, Nat.le_refl _⟩ dX6_waitingUnitsOf_31 (fun ra11 H locs hM => ?_)
        refine m_if_eq (tgt := 49) (pc := 34) C ra11 dX6_waitingUnitsOf_34 (by decide) (fun c13 => ?_) (fun c13 => ?_)
        · have h := if_t h c13
          obtain ⟨a14, ea14, h⟩ := nm_some h
          have ra14 : R32 a14 := by rw [ea14]; exact w32_R _
          refine m_iinc (k := 3) (pc := 49) C dX6_waitingUnitsOf_49 hl rfl (by decide) ea14 (lvK1 0 rfl (Nat.ne_of_beq_eq_false rfl) (Nat.ne_of_beq_eq_false rfl) (lvK1 1 rfl (Nat.ne_of_beq_eq_false rfl) (Nat.ne_of_beq_eq_false rfl) (lvK2 2 rfl (Nat.ne_of_beq_eq_false rfl) rfl lvK0))) (fun ls hl => ?_)
          refine m_goto (tgt := 4) (pc := 52) C dX6_waitingUnitsOf_52 (by decide) ?_
          exact ih _ _ _ _ _ h rx1 rx2 ra14 _ _ _ hM (lv_sub hl [1, 2, 3, 0] rfl)
        · have h := if_f h c13
          refine m_iload_n (pc := 37) C dX6_waitingUnitsOf_37 rfl (lv_at hl 2 rfl) ?_
          refine m_aload_n (pc := 38) C dX6_waitingUnitsOf_38 rfl (lv_at hl 0 rfl) ?_
          obtain ⟨q15, h⟩ := ck_some h
          refine G_X6_exports (pc := 39) C hM bw_1_185 q15 dX6_waitingUnitsOf_39 ?_
          refine m_iload_n (pc := 42) C dX6_waitingUnitsOf_42 rfl (lv_at hl 3 rfl) ?_
          obtain ⟨q16, h⟩ := ck_some h
          refine m_aald (pc := 43) C hM q16.1 (by decide) (by decide) q16.2.1 q16.2.2 dX6_waitingUnitsOf_43 ?_
          obtain ⟨q17, h⟩ := ck_some h
          have gq17 := Gr_X0_units hM q17
          refine G_X0_units (pc := 44) C hM bw_1_159 q17 dX6_waitingUnitsOf_44 ?_
          obtain ⟨a18, ea18, h⟩ := nm_some h
          have ra18 : R32 a18 := by rw [ea18]; exact w32_R _
          refine m_iadd (pc := 47) C dX6_waitingUnitsOf_47 ea18 ?_
          refine m_istore_n (pc := 48) C dX6_waitingUnitsOf_48 rfl hl (by decide) (lvK1 0 rfl (Nat.ne_of_beq_eq_false rfl) (Nat.ne_of_beq_eq_false rfl) (lvK2 1 rfl (Nat.ne_of_beq_eq_false rfl) rfl (lvK1 3 rfl (Nat.ne_of_beq_eq_false rfl) (Nat.ne_of_beq_eq_false rfl) lvK0))) (fun ls hl => ?_)
          obtain ⟨a19, ea19, h⟩ := nm_some h
          have ra19 : R32 a19 := by rw [ea19]; exact w32_R _
          refine m_iinc (k := 3) (pc := 49) C dX6_waitingUnitsOf_49 hl rfl (by decide) ea19 (lvK2 0 rfl (Nat.ne_of_beq_eq_false rfl) rfl (lvK1 1 rfl (Nat.ne_of_beq_eq_false rfl) (Nat.ne_of_beq_eq_false rfl) (lvK1 2 rfl (Nat.ne_of_beq_eq_false rfl) (Nat.ne_of_beq_eq_false rfl) lvK0))) (fun ls hl => ?_)
          refine m_goto (tgt := 4) (pc := 52) C dX6_waitingUnitsOf_52 (by decide) ?_
          exact ih _ _ _ _ _ h rx1 ra18 ra19 _ _ _ hM (lv_sub hl [2, 3, 1, 0] rfl)
set_option maxHeartbeats 4000000 in
set_option maxRecDepth 100000 in
theorem c_X6_waitingUnitsOf (l : Launch) (E : gE) (N : Nat) (x0 x1 : Int) (μ μ' : Mm) (r : Int) (h : f_X6_waitingUnitsOf N x0 x1 μ = some (r, μ')) (rx1 : R32 x1) : gMet l E yX6_waitingUnitsOf cX6_waitingUnitsOf 4 (some .int) 1 20 [vr E x0, vi x1] (some (vi r)) (R32 r) μ μ' 0 0 := by
  refine g_ofW [1, 1] (by first | (simp only [List.map_cons, List.map_nil, vr_cat]; done) | (simp only [List.map_cons, List.map_nil, vr_cat]; rfl)) (by decide) (by decide) (fun p e s m below meth c ls C hM hl => ?_)
  replace C : gCx p s m _ meth c cX6_waitingUnitsOf 4 (some .int) "waitingUnitsOf" RX6 := C
  replace hl : lv_has ls 4 [(0, vr E x0), (1, vi x1)] := hl
  unfold f_X6_waitingUnitsOf at h
  refine m_iconst (pc := 0) C dX6_waitingUnitsOf_0 ?_
  refine m_istore_n (pc := 1) C dX6_waitingUnitsOf_1 rfl hl (by decide) (lvK1 0 rfl (Nat.ne_of_beq_eq_false rfl) (Nat.ne_of_beq_eq_false rfl) (lvK2 1 rfl (Nat.ne_of_beq_eq_false rfl) rfl lvK0)) (fun ls hl => ?_)
  refine m_iconst (pc := 2) C dX6_waitingUnitsOf_2 ?_
  refine m_istore_n (pc := 3) C dX6_waitingUnitsOf_3 rfl hl (by decide) (lvK2 0 rfl (Nat.ne_of_beq_eq_false rfl) rfl (lvK1 1 rfl (Nat.ne_of_beq_eq_false rfl) (Nat.ne_of_beq_eq_false rfl) (lvK1 2 rfl (Nat.ne_of_beq_eq_false rfl) (Nat.ne_of_beq_eq_false rfl) lvK0))) (fun ls hl => ?_)
  exact k_X6_waitingUnitsOf_b4 C N N _ _ _ _ _ h rx1 rk_0 rk_0 _ _ _ hM (lv_sub hl [2, 3, 1, 0] rfl)
theorem hd_X6_waitingUnitsOf : yX6_waitingUnitsOf.cls ≠ "java/lang/invoke/MethodHandle" ∧ yX6_waitingUnitsOf.cls ≠ "java/lang/invoke/VarHandle" ∧ (parseMethodDescriptor yX6_waitingUnitsOf.desc).map (fun d => d.parameters.length) = some 1 := by decide +kernel

theorem V_X6_waitingUnitsOf {p : Program} {l : Launch} {e : Env} {R : Room} {s : State} {m : MethodId} {args : Array Value} {below : List Frame} {meth : Method} {c : Code} {H : Heap} {locs : List Loc} {cells slots : Nat} {Q : State → Prop} {cc : ByteArray} {pc nL : Nat} {ls : Array Slot} {rest : List Value} {ret : Option FieldType} {nmm own : String} {E : gE} {μ μ1 : Mm} {index : Nat} (C : gCx p s m args meth c cc nL ret nmm own) (hM : MS E μ s H locs) {N : Nat} {x0 x1 v : Int} (hc : f_X6_waitingUnitsOf N x0 x1 μ = some (v, μ1)) (rx1 : R32 x1) (hck : μ x0 (-2) = 8) (h1 : Cond.methodLink own index yX6_waitingUnitsOf ∈ bigL) (hR : 2 ≤ R.frames ∧ 43 ≤ R.locals) (hl : ls.size = nL) (hcat : RC rest 8) (hf : cells + 0 ≤ R.cells ∧ slots + 0 ≤ R.slots) (hdg : decode cc pc = .ok (.invokevirtual index, 3)) (kk : (R32 v) → ∀ (H1 : Heap) (locs1 : List Loc), MS E μ1 s H1 locs1 → W p l e R s m args below meth c H1 locs1 (cells + 0) (slots + 0) Q (F0 m (pc + 3) ls (vi v :: rest))) : W p l e R s m args below meth c H locs cells slots Q (F0 m pc ls (vi x1 :: vr E x0 :: rest)) := g_callV C KF_X6 hM (c_X6_waitingUnitsOf l E N x0 x1 μ μ1 v hc rx1) hck (gV h1 bw_3_60 bw_3_61 bw_1_2 bw_3_62) ⟨rfl, hd_X6_waitingUnitsOf⟩ hR rfl hl rfl hcat hf hdg kk
/-! X6_waitingExports -/
def f_X6_waitingExports_b4 (N : Nat) : Nat → Int → Int → Int → Mm → Rs
  | 0, _, _, _, _ => none
  | n + 1, x0, x1, x2, μ =>
    ck (μ x0 (-2) = 8) <|
    if (μ x0 6) ≤ x2 then
      (some (x1, μ))
    else
    ck (μ x0 (-2) = 8) <|
    ck (μ (μ x0 3) (-2) = 29 ∧ (0 : Int) ≤ x2 ∧ x2 < μ (μ x0 3) (-1)) <|
    ck (μ (μ (μ x0 3) x2) (-2) = 2) <|
    bd (f_X0_waits N (μ (μ x0 3) x2) μ) fun a6 μ7 =>
    if a6 = 0 then
      (nm (w32 (x2 + 1)) fun a9 =>
       f_X6_waitingExports_b4 N n x0 x1 a9 μ7)
    else
    nm (w32 (x1 + 1)) fun a10 =>
    nm (w32 (x2 + 1)) fun a11 =>
    f_X6_waitingExports_b4 N n x0 a10 a11 μ7
def f_X6_waitingExports (N : Nat) (x0 : Int) (μ : Mm) : Rs :=
  f_X6_waitingExports_b4 N N x0 0 0 μ
set_option maxHeartbeats 4000000 in
set_option maxRecDepth 100000 in
theorem k_X6_waitingExports_b4 (C : gCx p s m args meth c cX6_waitingExports 3 (some .int) "waitingExports" RX6) (N : Nat) {r : Int} {μ' : Mm} : ∀ (n : Nat), ∀ (x0 x1 x2 : Int) (μ : Mm), f_X6_waitingExports_b4 N n x0 x1 x2 μ = some (r, μ') → R32 x1 → R32 x2 → ∀ (H : Heap) (locs : List Loc) (ls : Array Slot), MS E μ s H locs → lv_has ls 3 [(0, vr E x0), (1, vi x1), (2, vi x2)] → W p l e ({ frames := 1, cells := 0, slots := 0, locals := 20 } : Room) s m args below meth c H locs 0 0 (MQ below (gQ E (some (vi r)) (R32 r) μ') args s 0 0 (gA E)) (F0 m 4 ls []) := by
  intro n
  induction n with
  | zero => intro x0 x1 x2 μ h; simp [f_X6_waitingExports_b4] at h
  | succ n ih =>
    intro x0 x1 x2 μ h rx1 rx2 H locs ls hM hl
    rw [f_X6_waitingExports_b4] at h
    refine m_iload_n (pc := 4) C dX6_waitingExports_4 rfl (lv_at hl 2 rfl) ?_
    refine m_aload_n (pc := 5) C dX6_waitingExports_5 rfl (lv_at hl 0 rfl) ?_
    obtain ⟨q1, h⟩ := ck_some h
    have gq1 := Gr_X6_exportCount hM q1
    refine G_X6_exportCount (pc := 6) C hM bw_1_191 q1 dX6_waitingExports_6 ?_
    refine m_icmp_ge (tgt := 33) (pc := 9) C rx2 gq1 dX6_waitingExports_9 (by decide) (fun c2 => ?_) (fun c2 => ?_)
    · have h := if_t h c2
      refine m_iload_n (pc := 33) C dX6_waitingExports_33 rfl (lv_at hl 1 rfl) ?_
      cases h
      exact m_iret (pc := 34) C hM rx1 dX6_waitingExports_34
    · have h := if_f h c2
      refine m_aload_n (pc := 12) C dX6_waitingExports_12 rfl (lv_at hl 0 rfl) ?_
      obtain ⟨q3, h⟩ := ck_some h
      refine G_X6_exports (pc := 13) C hM bw_1_185 q3 dX6_waitingExports_13 ?_
      refine m_iload_n (pc := 16) C dX6_waitingExports_16 rfl (lv_at hl 2 rfl) ?_
      obtain ⟨q4, h⟩ := ck_some h
      refine m_aald (pc := 17) C hM q4.1 (by decide) (by decide) q4.2.1 q4.2.2 dX6_waitingExports_17 ?_
      obtain ⟨q5, h⟩ := ck_some h
      obtain ⟨a6, μ7, ca6, h⟩ := bd_some h
      refine V_X0_waits (pc := 18) C hM ca6 q5 bw_3_12 ⟨Nat.le_of_ble_eq_true rfl, Nat.le_of_ble_eq_true rfl⟩ hl.1 rc0 ⟨Nat.le_refl _, Nat.le_refl _⟩ dX6_waitingExports_18 (fun ra6 H locs hM => ?_)
      refine m_if_eq (tgt := 27) (pc := 21) C ra6 dX6_waitingExports_21 (by decide) (fun c8 => ?_) (fun c8 => ?_)
      · have h := if_t h c8
        obtain ⟨a9, ea9, h⟩ := nm_some h
        have ra9 : R32 a9 := by rw [ea9]; exact w32_R _
        refine m_iinc (k := 2) (pc := 27) C dX6_waitingExports_27 hl rfl (by decide) ea9 (lvK1 0 rfl (Nat.ne_of_beq_eq_false rfl) (Nat.ne_of_beq_eq_false rfl) (lvK2 1 rfl (Nat.ne_of_beq_eq_false rfl) rfl lvK0)) (fun ls hl => ?_)
        refine m_goto (tgt := 4) (pc := 30) C dX6_waitingExports_30 (by decide) ?_
        exact ih _ _ _ _ h rx1 ra9 _ _ _ hM (lv_sub hl [1, 2, 0] rfl)
      · have h := if_f h c8
        obtain ⟨a10, ea10, h⟩ := nm_some h
        have ra10 : R32 a10 := by rw [ea10]; exact w32_R _
        refine m_iinc (k := 1) (pc := 24) C dX6_waitingExports_24 hl rfl (by decide) ea10 (lvK2 0 rfl (Nat.ne_of_beq_eq_false rfl) (vr_cat _ _) (lvK1 2 rfl (Nat.ne_of_beq_eq_false rfl) (Nat.ne_of_beq_eq_false rfl) lvK0)) (fun ls hl => ?_)
        obtain ⟨a11, ea11, h⟩ := nm_some h
        have ra11 : R32 a11 := by rw [ea11]; exact w32_R _
        refine m_iinc (k := 2) (pc := 27) C dX6_waitingExports_27 hl rfl (by decide) ea11 (lvK2 0 rfl (Nat.ne_of_beq_eq_false rfl) rfl (lvK1 1 rfl (Nat.ne_of_beq_eq_false rfl) (Nat.ne_of_beq_eq_false rfl) lvK0)) (fun ls hl => ?_)
        refine m_goto (tgt := 4) (pc := 30) C dX6_waitingExports_30 (by decide) ?_
        exact ih _ _ _ _ h ra10 ra11 _ _ _ hM (lv_sub hl [2, 1, 0] rfl)
set_option maxHeartbeats 4000000 in
set_option maxRecDepth 100000 in
theorem c_X6_waitingExports (l : Launch) (E : gE) (N : Nat) (x0 : Int) (μ μ' : Mm) (r : Int) (h : f_X6_waitingExports N x0 μ = some (r, μ')) : gMet l E yX6_waitingExports cX6_waitingExports 3 (some .int) 1 20 [vr E x0] (some (vi r)) (R32 r) μ μ' 0 0 := by
  refine g_ofW [1] (by first | (simp only [List.map_cons, List.map_nil, vr_cat]; done) | (simp only [List.map_cons, List.map_nil, vr_cat]; rfl)) (by decide) (by decide) (fun p e s m below meth c ls C hM hl => ?_)
  replace C : gCx p s m _ meth c cX6_waitingExports 3 (some .int) "waitingExports" RX6 := C
  replace hl : lv_has ls 3 [(0, vr E x0)] := hl
  unfold f_X6_waitingExports at h
  refine m_iconst (pc := 0) C dX6_waitingExports_0 ?_
  refine m_istore_n (pc := 1) C dX6_waitingExports_1 rfl hl (by decide) (lvK2 0 rfl (Nat.ne_of_beq_eq_false rfl) (vr_cat _ _) lvK0) (fun ls hl => ?_)
  refine m_iconst (pc := 2) C dX6_waitingExports_2 ?_
  refine m_istore_n (pc := 3) C dX6_waitingExports_3 rfl hl (by decide) (lvK2 0 rfl (Nat.ne_of_beq_eq_false rfl) rfl (lvK1 1 rfl (Nat.ne_of_beq_eq_false rfl) (Nat.ne_of_beq_eq_false rfl) lvK0)) (fun ls hl => ?_)
  exact k_X6_waitingExports_b4 C N N _ _ _ _ h rk_0 rk_0 _ _ _ hM (lv_sub hl [2, 1, 0] rfl)
theorem hd_X6_waitingExports : yX6_waitingExports.cls ≠ "java/lang/invoke/MethodHandle" ∧ yX6_waitingExports.cls ≠ "java/lang/invoke/VarHandle" ∧ (parseMethodDescriptor yX6_waitingExports.desc).map (fun d => d.parameters.length) = some 0 := by decide +kernel

theorem V_X6_waitingExports {p : Program} {l : Launch} {e : Env} {R : Room} {s : State} {m : MethodId} {args : Array Value} {below : List Frame} {meth : Method} {c : Code} {H : Heap} {locs : List Loc} {cells slots : Nat} {Q : State → Prop} {cc : ByteArray} {pc nL : Nat} {ls : Array Slot} {rest : List Value} {ret : Option FieldType} {nmm own : String} {E : gE} {μ μ1 : Mm} {index : Nat} (C : gCx p s m args meth c cc nL ret nmm own) (hM : MS E μ s H locs) {N : Nat} {x0 v : Int} (hc : f_X6_waitingExports N x0 μ = some (v, μ1)) (hck : μ x0 (-2) = 8) (h1 : Cond.methodLink own index yX6_waitingExports ∈ bigL) (hR : 2 ≤ R.frames ∧ 42 ≤ R.locals) (hl : ls.size = nL) (hcat : RC rest 8) (hf : cells + 0 ≤ R.cells ∧ slots + 0 ≤ R.slots) (hdg : decode cc pc = .ok (.invokevirtual index, 3)) (kk : (R32 v) → ∀ (H1 : Heap) (locs1 : List Loc), MS E μ1 s H1 locs1 → W p l e R s m args below meth c H1 locs1 (cells + 0) (slots + 0) Q (F0 m (pc + 3) ls (vi v :: rest))) : W p l e R s m args below meth c H locs cells slots Q (F0 m pc ls (vr E x0 :: rest)) := g_callV C KF_X6 hM (c_X6_waitingExports l E N x0 μ μ1 v hc) hck (gV h1 bw_3_9 bw_3_10 bw_1_2 bw_3_11) ⟨rfl, hd_X6_waitingExports⟩ hR rfl hl rfl hcat hf hdg kk
/-! X6_hasExportEndingBefore -/
def f_X6_hasExportEndingBefore_b2 (N : Nat) : Nat → Int → Int → Int → Int → Mm → Rs
  | 0, _, _, _, _, _ => none
  | n + 1, x0, x1, x2, x3, μ =>
    ck (μ x0 (-2) = 8) <|
    if (μ x0 6) ≤ x3 then
      (some (0, μ))
    else
    ck (μ x0 (-2) = 8) <|
    ck (μ (μ x0 3) (-2) = 29 ∧ (0 : Int) ≤ x3 ∧ x3 < μ (μ x0 3) (-1)) <|
    ck (μ (μ (μ x0 3) x3) (-2) = 2) <|
    if ¬ (μ (μ (μ x0 3) x3) 0) = x1 then
      (nm (w32 (x3 + 1)) fun a7 =>
       f_X6_hasExportEndingBefore_b2 N n x0 x1 x2 a7 μ)
    else
    ck (μ x0 (-2) = 8) <|
    ck (μ (μ x0 3) (-2) = 29 ∧ (0 : Int) ≤ x3 ∧ x3 < μ (μ x0 3) (-1)) <|
    ck (μ (μ (μ x0 3) x3) (-2) = 2) <|
    bd (f_X0_endsBefore N (μ (μ x0 3) x3) x2 μ) fun a11 μ12 =>
    if a11 = 0 then
      (nm (w32 (x3 + 1)) fun a14 =>
       f_X6_hasExportEndingBefore_b2 N n x0 x1 x2 a14 μ12)
    else
    some (1, μ12)
def f_X6_hasExportEndingBefore (N : Nat) (x0 x1 x2 : Int) (μ : Mm) : Rs :=
  f_X6_hasExportEndingBefore_b2 N N x0 x1 x2 0 μ
set_option maxHeartbeats 4000000 in
set_option maxRecDepth 100000 in
theorem k_X6_hasExportEndingBefore_b2 (C : gCx p s m args meth c cX6_hasExportEndingBefore 4 (some .boolean) "hasExportEndingBefore" RX6) (N : Nat) {r : Int} {μ' : Mm} : ∀ (n : Nat), ∀ (x0 x1 x2 x3 : Int) (μ : Mm), f_X6_hasExportEndingBefore_b2 N n x0 x1 x2 x3 μ = some (r, μ') → R32 x1 → R32 x2 → R32 x3 → ∀ (H : Heap) (locs : List Loc) (ls : Array Slot), MS E μ s H locs → lv_has ls 4 [(0, vr E x0), (1, vi x1), (2, vi x2), (3, vi x3)] → W p l e ({ frames := 2, cells := 0, slots := 0, locals := 41 } : Room) s m args below meth c H locs 0 0 (MQ below (gQ E (some (vi r)) (R32 r) μ') args s 0 0 (gA E)) (F0 m 2 ls []) := by
  intro n
  induction n with
  | zero => intro x0 x1 x2 x3 μ h; simp [f_X6_hasExportEndingBefore_b2] at h
  | succ n ih =>
    intro x0 x1 x2 x3 μ h rx1 rx2 rx3 H locs ls hM hl
    rw [f_X6_hasExportEndingBefore_b2] at h
    refine m_iload_n (pc := 2) C dX6_hasExportEndingBefore_2 rfl (lv_at hl 3 rfl) ?_
    refine m_aload_n (pc := 3) C dX6_hasExportEndingBefore_3 rfl (lv_at hl 0 rfl) ?_
    obtain ⟨q1, h⟩ := ck_some h
    have gq1 := Gr_X6_exportCount hM q1
    refine G_X6_exportCount (pc := 4) C hM bw_1_191 q1 dX6_hasExportEndingBefore_4 ?_
    refine m_icmp_ge (tgt := 44) (pc := 7) C rx3 gq1 dX6_hasExportEndingBefore_7 (by decide) (fun c2 => ?_) (fun c2 => ?_)
    · have h := if_t h c2
      refine m_iconst (pc := 44) C dX6_hasExportEndingBefore_44 ?_
      cases h
      exact m_zret (pc := 45) C rfl hM rk_0 dX6_hasExportEndingBefore_45
    · have h := if_f h c2
      refine m_aload_n (pc := 10) C dX6_hasExportEndingBefore_10 rfl (lv_at hl 0 rfl) ?_
      obtain ⟨q3, h⟩ := ck_some h
      refine G_X6_exports (pc := 11) C hM bw_1_185 q3 dX6_hasExportEndingBefore_11 ?_
      refine m_iload_n (pc := 14) C dX6_hasExportEndingBefore_14 rfl (lv_at hl 3 rfl) ?_
      obtain ⟨q4, h⟩ := ck_some h
      refine m_aald (pc := 15) C hM q4.1 (by decide) (by decide) q4.2.1 q4.2.2 dX6_hasExportEndingBefore_15 ?_
      obtain ⟨q5, h⟩ := ck_some h
      have gq5 := Gr_X0_lot hM q5
      refine G_X0_lot (pc := 16) C hM bw_1_156 q5 dX6_hasExportEndingBefore_16 ?_
      refine m_iload_n (pc := 19) C dX6_hasExportEndingBefore_19 rfl (lv_at hl 1 rfl) ?_
      refine m_icmp_ne (tgt := 38) (pc := 20) C gq5 rx1 dX6_hasExportEndingBefore_20 (by decide) (fun c6 => ?_) (fun c6 => ?_)
      · have h := if_t h c6
        obtain ⟨a7, ea7, h⟩ := nm_some h
        have ra7 : R32 a7 := by rw [ea7]; exact w32_R _
        refine m_iinc (k := 3) (pc := 38) C dX6_hasExportEndingBefore_38 hl rfl (by decide) ea7 (lvK1 0 rfl (Nat.ne_of_beq_eq_false rfl) (Nat.ne_of_beq_eq_false rfl) (lvK1 1 rfl (Nat.ne_of_beq_eq_false rfl) (Nat.ne_of_beq_eq_false rfl) (lvK2 2 rfl (Nat.ne_of_beq_eq_false rfl) rfl lvK0))) (fun ls hl => ?_)
        refine m_goto (tgt := 2) (pc := 41) C dX6_hasExportEndingBefore_41 (by decide) ?_
        exact ih _ _ _ _ _ h rx1 rx2 ra7 _ _ _ hM (lv_sub hl [1, 2, 3, 0] rfl)
      · have h := if_f h c6
        refine m_aload_n (pc := 23) C dX6_hasExportEndingBefore_23 rfl (lv_at hl 0 rfl) ?_
        obtain ⟨q8, h⟩ := ck_some h
        refine G_X6_exports (pc := 24) C hM bw_1_185 q8 dX6_hasExportEndingBefore_24 ?_
        refine m_iload_n (pc := 27) C dX6_hasExportEndingBefore_27 rfl (lv_at hl 3 rfl) ?_
        obtain ⟨q9, h⟩ := ck_some h
        refine m_aald (pc := 28) C hM q9.1 (by decide) (by decide) q9.2.1 q9.2.2 dX6_hasExportEndingBefore_28 ?_
        refine m_iload_n (pc := 29) C dX6_hasExportEndingBefore_29 rfl (lv_at hl 2 rfl) ?_
        obtain ⟨q10, h⟩ := ck_some h
        obtain ⟨a11, μ12, ca11, h⟩ := bd_some h
        refine V_X0_endsBefore (pc := 30) C hM ca11 rx2 q10 bw_2_175 ⟨Nat.le_of_ble_eq_true rfl, Nat.le_of_ble_eq_true rfl⟩ hl.1 rc0 ⟨Nat.le_refl _, Nat.le_refl _⟩ dX6_hasExportEndingBefore_30 (fun ra11 H locs hM => ?_)
        refine m_if_eq (tgt := 38) (pc := 33) C ra11 dX6_hasExportEndingBefore_33 (by decide) (fun c13 => ?_) (fun c13 => ?_)
        · have h := if_t h c13
          obtain ⟨a14, ea14, h⟩ := nm_some h
          have ra14 : R32 a14 := by rw [ea14]; exact w32_R _
          refine m_iinc (k := 3) (pc := 38) C dX6_hasExportEndingBefore_38 hl rfl (by decide) ea14 (lvK1 0 rfl (Nat.ne_of_beq_eq_false rfl) (Nat.ne_of_beq_eq_false rfl) (lvK1 1 rfl (Nat.ne_of_beq_eq_false rfl) (Nat.ne_of_beq_eq_false rfl) (lvK2 2 rfl (Nat.ne_of_beq_eq_false rfl) rfl lvK0))) (fun ls hl => ?_)
          refine m_goto (tgt := 2) (pc := 41) C dX6_hasExportEndingBefore_41 (by decide) ?_
          exact ih _ _ _ _ _ h rx1 rx2 ra14 _ _ _ hM (lv_sub hl [1, 2, 3, 0] rfl)
        · have h := if_f h c13
          refine m_iconst (pc := 36) C dX6_hasExportEndingBefore_36 ?_
          cases h
          exact m_zret (pc := 37) C rfl hM rk_1 dX6_hasExportEndingBefore_37
set_option maxHeartbeats 4000000 in
set_option maxRecDepth 100000 in
theorem c_X6_hasExportEndingBefore (l : Launch) (E : gE) (N : Nat) (x0 x1 x2 : Int) (μ μ' : Mm) (r : Int) (h : f_X6_hasExportEndingBefore N x0 x1 x2 μ = some (r, μ')) (rx1 : R32 x1) (rx2 : R32 x2) : gMet l E yX6_hasExportEndingBefore cX6_hasExportEndingBefore 4 (some .boolean) 2 41 [vr E x0, vi x1, vi x2] (some (vi r)) (R32 r) μ μ' 0 0 := by
  refine g_ofW [1, 1, 1] (by first | (simp only [List.map_cons, List.map_nil, vr_cat]; done) | (simp only [List.map_cons, List.map_nil, vr_cat]; rfl)) (by decide) (by decide) (fun p e s m below meth c ls C hM hl => ?_)
  replace C : gCx p s m _ meth c cX6_hasExportEndingBefore 4 (some .boolean) "hasExportEndingBefore" RX6 := C
  replace hl : lv_has ls 4 [(0, vr E x0), (1, vi x1), (2, vi x2)] := hl
  unfold f_X6_hasExportEndingBefore at h
  refine m_iconst (pc := 0) C dX6_hasExportEndingBefore_0 ?_
  refine m_istore_n (pc := 1) C dX6_hasExportEndingBefore_1 rfl hl (by decide) (lvK1 0 rfl (Nat.ne_of_beq_eq_false rfl) (Nat.ne_of_beq_eq_false rfl) (lvK1 1 rfl (Nat.ne_of_beq_eq_false rfl) (Nat.ne_of_beq_eq_false rfl) (lvK2 2 rfl (Nat.ne_of_beq_eq_false rfl) rfl lvK0))) (fun ls hl => ?_)
  exact k_X6_hasExportEndingBefore_b2 C N N _ _ _ _ _ h rx1 rx2 rk_0 _ _ _ hM (lv_sub hl [1, 2, 3, 0] rfl)
theorem hd_X6_hasExportEndingBefore : yX6_hasExportEndingBefore.cls ≠ "java/lang/invoke/MethodHandle" ∧ yX6_hasExportEndingBefore.cls ≠ "java/lang/invoke/VarHandle" ∧ (parseMethodDescriptor yX6_hasExportEndingBefore.desc).map (fun d => d.parameters.length) = some 2 := by decide +kernel

theorem V_X6_hasExportEndingBefore {p : Program} {l : Launch} {e : Env} {R : Room} {s : State} {m : MethodId} {args : Array Value} {below : List Frame} {meth : Method} {c : Code} {H : Heap} {locs : List Loc} {cells slots : Nat} {Q : State → Prop} {cc : ByteArray} {pc nL : Nat} {ls : Array Slot} {rest : List Value} {ret : Option FieldType} {nmm own : String} {E : gE} {μ μ1 : Mm} {index : Nat} (C : gCx p s m args meth c cc nL ret nmm own) (hM : MS E μ s H locs) {N : Nat} {x0 x1 x2 v : Int} (hc : f_X6_hasExportEndingBefore N x0 x1 x2 μ = some (v, μ1)) (rx1 : R32 x1) (rx2 : R32 x2) (hck : μ x0 (-2) = 8) (h1 : Cond.methodLink own index yX6_hasExportEndingBefore ∈ bigL) (hR : 3 ≤ R.frames ∧ 64 ≤ R.locals) (hl : ls.size = nL) (hcat : RC rest 8) (hf : cells + 0 ≤ R.cells ∧ slots + 0 ≤ R.slots) (hdg : decode cc pc = .ok (.invokevirtual index, 3)) (kk : (R32 v) → ∀ (H1 : Heap) (locs1 : List Loc), MS E μ1 s H1 locs1 → W p l e R s m args below meth c H1 locs1 (cells + 0) (slots + 0) Q (F0 m (pc + 3) ls (vi v :: rest))) : W p l e R s m args below meth c H locs cells slots Q (F0 m pc ls (vi x2 :: vi x1 :: vr E x0 :: rest)) := g_callV C KF_X6 hM (c_X6_hasExportEndingBefore l E N x0 x1 x2 μ μ1 v hc rx1 rx2) hck (gV h1 bw_4_28 bw_4_29 bw_1_2 bw_4_30) ⟨rfl, hd_X6_hasExportEndingBefore⟩ hR rfl hl rfl hcat hf hdg kk
/-! X6_dutyEndingBefore -/
def f_X6_dutyEndingBefore_b45 (N : Nat) : Nat → Int → Int → Int → Int → Mm → Rs
  | 0, _, _, _, _, _ => none
  | n + 1, x0, x1, x2, x3, μ =>
    ck (μ x0 (-2) = 8) <|
    if (μ x0 5) ≤ x3 then
      (some (x2, μ))
    else
    ck (μ x0 (-2) = 8) <|
    ck (μ (μ x0 2) (-2) = 28 ∧ (0 : Int) ≤ x3 ∧ x3 < μ (μ x0 2) (-1)) <|
    ck (μ (μ (μ x0 2) x3) (-2) = 4) <|
    bd (f_X2_endsBefore N (μ (μ x0 2) x3) x1 μ) fun a6 μ7 =>
    if a6 = 0 then
      (nm (w32 (x3 + 1)) fun a9 =>
       f_X6_dutyEndingBefore_b45 N n x0 x1 x2 a9 μ7)
    else
    ck (μ7 x0 (-2) = 8) <|
    ck (μ7 (μ7 x0 2) (-2) = 28 ∧ (0 : Int) ≤ x3 ∧ x3 < μ7 (μ7 x0 2) (-1)) <|
    ck (μ7 x0 (-2) = 8) <|
    ck (μ7 (μ7 x0 2) (-2) = 28 ∧ (0 : Int) ≤ x3 ∧ x3 < μ7 (μ7 x0 2) (-1)) <|
    ck (μ7 (μ7 (μ7 x0 2) x3) (-2) = 4) <|
    ck (μ7 (μ7 (μ7 x0 2) x3) (-2) = 4) <|
    bd (f_X2_dutyOfNext N (μ7 (μ7 x0 2) x3) 0 (μ7 (μ7 (μ7 x0 2) x3) 7) μ7) fun a16 μ17 =>
    nm (w32 (x2 + a16)) fun a18 =>
    nm (w32 (x3 + 1)) fun a19 =>
    f_X6_dutyEndingBefore_b45 N n x0 x1 a18 a19 μ17
def f_X6_dutyEndingBefore_b4 (N : Nat) : Nat → Int → Int → Int → Int → Mm → Rs
  | 0, _, _, _, _, _ => none
  | n + 1, x0, x1, x2, x3, μ =>
    ck (μ x0 (-2) = 8) <|
    if (μ x0 6) ≤ x3 then
      (f_X6_dutyEndingBefore_b45 N N x0 x1 x2 0 μ)
    else
    ck (μ x0 (-2) = 8) <|
    ck (μ (μ x0 3) (-2) = 29 ∧ (0 : Int) ≤ x3 ∧ x3 < μ (μ x0 3) (-1)) <|
    ck (μ (μ (μ x0 3) x3) (-2) = 2) <|
    bd (f_X0_endsBefore N (μ (μ x0 3) x3) x1 μ) fun a6 μ7 =>
    if a6 = 0 then
      (nm (w32 (x3 + 1)) fun a9 =>
       f_X6_dutyEndingBefore_b4 N n x0 x1 x2 a9 μ7)
    else
    ck (μ7 x0 (-2) = 8) <|
    ck (μ7 (μ7 x0 3) (-2) = 29 ∧ (0 : Int) ≤ x3 ∧ x3 < μ7 (μ7 x0 3) (-1)) <|
    ck (μ7 (μ7 (μ7 x0 3) x3) (-2) = 2) <|
    nm (w32 (x2 + (μ7 (μ7 (μ7 x0 3) x3) 2))) fun a13 =>
    nm (w32 (x3 + 1)) fun a14 =>
    f_X6_dutyEndingBefore_b4 N n x0 x1 a13 a14 μ7
def f_X6_dutyEndingBefore (N : Nat) (x0 x1 : Int) (μ : Mm) : Rs :=
  f_X6_dutyEndingBefore_b4 N N x0 x1 0 0 μ
set_option maxHeartbeats 4000000 in
set_option maxRecDepth 100000 in
theorem k_X6_dutyEndingBefore_b45 (C : gCx p s m args meth c cX6_dutyEndingBefore 4 (some .int) "dutyEndingBefore" RX6) (N : Nat) {r : Int} {μ' : Mm} : ∀ (n : Nat), ∀ (x0 x1 x2 x3 : Int) (μ : Mm), f_X6_dutyEndingBefore_b45 N n x0 x1 x2 x3 μ = some (r, μ') → R32 x1 → R32 x2 → R32 x3 → ∀ (H : Heap) (locs : List Loc) (ls : Array Slot), MS E μ s H locs → lv_has ls 4 [(0, vr E x0), (1, vi x1), (2, vi x2), (3, vi x3)] → W p l e ({ frames := 2, cells := 0, slots := 0, locals := 44 } : Room) s m args below meth c H locs 0 0 (MQ below (gQ E (some (vi r)) (R32 r) μ') args s 0 0 (gA E)) (F0 m 45 ls []) := by
  intro n
  induction n with
  | zero => intro x0 x1 x2 x3 μ h; simp [f_X6_dutyEndingBefore_b45] at h
  | succ n ih =>
    intro x0 x1 x2 x3 μ h rx1 rx2 rx3 H locs ls hM hl
    rw [f_X6_dutyEndingBefore_b45] at h
    refine m_iload_n (pc := 45) C dX6_dutyEndingBefore_45 rfl (lv_at hl 3 rfl) ?_
    refine m_aload_n (pc := 46) C dX6_dutyEndingBefore_46 rfl (lv_at hl 0 rfl) ?_
    obtain ⟨q1, h⟩ := ck_some h
    have gq1 := Gr_X6_lotCount hM q1
    refine G_X6_lotCount (pc := 47) C hM bw_1_189 q1 dX6_dutyEndingBefore_47 ?_
    refine m_icmp_ge (tgt := 94) (pc := 50) C rx3 gq1 dX6_dutyEndingBefore_50 (by decide) (fun c2 => ?_) (fun c2 => ?_)
    · have h := if_t h c2
      refine m_iload_n (pc := 94) C dX6_dutyEndingBefore_94 rfl (lv_at hl 2 rfl) ?_
      cases h
      exact m_iret (pc := 95) C hM rx2 dX6_dutyEndingBefore_95
    · have h := if_f h c2
      refine m_aload_n (pc := 53) C dX6_dutyEndingBefore_53 rfl (lv_at hl 0 rfl) ?_
      obtain ⟨q3, h⟩ := ck_some h
      refine G_X6_lots (pc := 54) C hM bw_1_183 q3 dX6_dutyEndingBefore_54 ?_
      refine m_iload_n (pc := 57) C dX6_dutyEndingBefore_57 rfl (lv_at hl 3 rfl) ?_
      obtain ⟨q4, h⟩ := ck_some h
      refine m_aald (pc := 58) C hM q4.1 (by decide) (by decide) q4.2.1 q4.2.2 dX6_dutyEndingBefore_58 ?_
      refine m_iload_n (pc := 59) C dX6_dutyEndingBefore_59 rfl (lv_at hl 1 rfl) ?_
      obtain ⟨q5, h⟩ := ck_some h
      obtain ⟨a6, μ7, ca6, h⟩ := bd_some h
      refine V_X2_endsBefore (pc := 60) C hM ca6 rx1 q5 bw_2_196 ⟨Nat.le_of_ble_eq_true rfl, Nat.le_of_ble_eq_true rfl⟩ hl.1 rc0 ⟨Nat.le_refl _, Nat.le_refl _⟩ dX6_dutyEndingBefore_60 (fun ra6 H locs hM => ?_)
      refine m_if_eq (tgt := 88) (pc := 63) C ra6 dX6_dutyEndingBefore_63 (by decide) (fun c8 => ?_) (fun c8 => ?_)
      · have h := if_t h c8
        obtain ⟨a9, ea9, h⟩ := nm_some h
        have ra9 : R32 a9 := by rw [ea9]; exact w32_R _
        refine m_iinc (k := 3) (pc := 88) C dX6_dutyEndingBefore_88 hl rfl (by decide) ea9 (lvK1 0 rfl (Nat.ne_of_beq_eq_false rfl) (Nat.ne_of_beq_eq_false rfl) (lvK1 1 rfl (Nat.ne_of_beq_eq_false rfl) (Nat.ne_of_beq_eq_false rfl) (lvK2 2 rfl (Nat.ne_of_beq_eq_false rfl) rfl lvK0))) (fun ls hl => ?_)
        refine m_goto (tgt := 45) (pc := 91) C dX6_dutyEndingBefore_91 (by decide) ?_
        exact ih _ _ _ _ _ h rx1 rx2 ra9 _ _ _ hM (lv_sub hl [1, 2, 3, 0] rfl)
      · have h := if_f h c8
        refine m_iload_n (pc := 66) C dX6_dutyEndingBefore_66 rfl (lv_at hl 2 rfl) ?_
        refine m_aload_n (pc := 67) C dX6_dutyEndingBefore_67 rfl (lv_at hl 0 rfl) ?_
        obtain ⟨q10, h⟩ := ck_some h
        refine G_X6_lots (pc := 68) C hM bw_1_183 q10 dX6_dutyEndingBefore_68 ?_
        refine m_iload_n (pc := 71) C dX6_dutyEndingBefore_71 rfl (lv_at hl 3 rfl) ?_
        obtain ⟨q11, h⟩ := ck_some h
        refine m_aald (pc := 72) C hM q11.1 (by decide) (by decide) q11.2.1 q11.2.2 dX6_dutyEndingBefore_72 ?_
        refine m_iconst (pc := 73) C dX6_dutyEndingBefore_73 ?_
        refine m_aload_n (pc := 74) C dX6_dutyEndingBefore_74 rfl (lv_at hl 0 rfl) ?_
        obtain ⟨q12, h⟩ := ck_some h
        refine G_X6_lots (pc := 75) C hM bw_1_183 q12 dX6_dutyEndingBefore_75 ?_
        refine m_iload_n (pc := 78) C dX6_dutyEndingBefore_78 rfl (lv_at hl 3 rfl) ?_
        obtain ⟨q13, h⟩ := ck_some h
        refine m_aald (pc := 79) C hM q13.1 (by decide) (by decide) q13.2.1 q13.2.2 dX6_dutyEndingBefore_79 ?_
        obtain ⟨q14, h⟩ := ck_some h
        have gq14 := Gr_X2_stored hM q14
        refine G_X2_stored (pc := 80) C hM bw_1_115 q14 dX6_dutyEndingBefore_80 ?_
        obtain ⟨q15, h⟩ := ck_some h
        obtain ⟨a16, μ17, ca16, h⟩ := bd_some h
        refine V_X2_dutyOfNext (pc := 83) C hM ca16 rk_0 gq14 q15 bw_2_200 ⟨Nat.le_of_ble_eq_true rfl, Nat.le_of_ble_eq_true rfl⟩ hl.1 (rcI rc0) ⟨Nat.le_refl _, Nat.le_refl _⟩ dX6_dutyEndingBefore_83 (fun ra16 H locs hM => ?_)
        obtain ⟨a18, ea18, h⟩ := nm_some h
        have ra18 : R32 a18 := by rw [ea18]; exact w32_R _
        refine m_iadd (pc := 86) C dX6_dutyEndingBefore_86 ea18 ?_
        refine m_istore_n (pc := 87) C dX6_dutyEndingBefore_87 rfl hl (by decide) (lvK1 0 rfl (Nat.ne_of_beq_eq_false rfl) (Nat.ne_of_beq_eq_false rfl) (lvK2 1 rfl (Nat.ne_of_beq_eq_false rfl) rfl (lvK1 3 rfl (Nat.ne_of_beq_eq_false rfl) (Nat.ne_of_beq_eq_false rfl) lvK0))) (fun ls hl => ?_)
        obtain ⟨a19, ea19, h⟩ := nm_some h
        have ra19 : R32 a19 := by rw [ea19]; exact w32_R _
        refine m_iinc (k := 3) (pc := 88) C dX6_dutyEndingBefore_88 hl rfl (by decide) ea19 (lvK2 0 rfl (Nat.ne_of_beq_eq_false rfl) rfl (lvK1 1 rfl (Nat.ne_of_beq_eq_false rfl) (Nat.ne_of_beq_eq_false rfl) (lvK1 2 rfl (Nat.ne_of_beq_eq_false rfl) (Nat.ne_of_beq_eq_false rfl) lvK0))) (fun ls hl => ?_)
        refine m_goto (tgt := 45) (pc := 91) C dX6_dutyEndingBefore_91 (by decide) ?_
        exact ih _ _ _ _ _ h rx1 ra18 ra19 _ _ _ hM (lv_sub hl [2, 3, 1, 0] rfl)
set_option maxHeartbeats 4000000 in
set_option maxRecDepth 100000 in
theorem k_X6_dutyEndingBefore_b4 (C : gCx p s m args meth c cX6_dutyEndingBefore 4 (some .int) "dutyEndingBefore" RX6) (N : Nat) {r : Int} {μ' : Mm} : ∀ (n : Nat), ∀ (x0 x1 x2 x3 : Int) (μ : Mm), f_X6_dutyEndingBefore_b4 N n x0 x1 x2 x3 μ = some (r, μ') → R32 x1 → R32 x2 → R32 x3 → ∀ (H : Heap) (locs : List Loc) (ls : Array Slot), MS E μ s H locs → lv_has ls 4 [(0, vr E x0), (1, vi x1), (2, vi x2), (3, vi x3)] → W p l e ({ frames := 2, cells := 0, slots := 0, locals := 44 } : Room) s m args below meth c H locs 0 0 (MQ below (gQ E (some (vi r)) (R32 r) μ') args s 0 0 (gA E)) (F0 m 4 ls []) := by
  intro n
  induction n with
  | zero => intro x0 x1 x2 x3 μ h; simp [f_X6_dutyEndingBefore_b4] at h
  | succ n ih =>
    intro x0 x1 x2 x3 μ h rx1 rx2 rx3 H locs ls hM hl
    rw [f_X6_dutyEndingBefore_b4] at h
    refine m_iload_n (pc := 4) C dX6_dutyEndingBefore_4 rfl (lv_at hl 3 rfl) ?_
    refine m_aload_n (pc := 5) C dX6_dutyEndingBefore_5 rfl (lv_at hl 0 rfl) ?_
    obtain ⟨q1, h⟩ := ck_some h
    have gq1 := Gr_X6_exportCount hM q1
    refine G_X6_exportCount (pc := 6) C hM bw_1_191 q1 dX6_dutyEndingBefore_6 ?_
    refine m_icmp_ge (tgt := 43) (pc := 9) C rx3 gq1 dX6_dutyEndingBefore_9 (by decide) (fun c2 => ?_) (fun c2 => ?_)
    · have h := if_t h c2
      refine m_iconst (pc := 43) C dX6_dutyEndingBefore_43 ?_
      refine m_istore_n (pc := 44) C dX6_dutyEndingBefore_44 rfl hl (by decide) (lvK1 0 rfl (Nat.ne_of_beq_eq_false rfl) (Nat.ne_of_beq_eq_false rfl) (lvK1 1 rfl (Nat.ne_of_beq_eq_false rfl) (Nat.ne_of_beq_eq_false rfl) (lvK2 2 rfl (Nat.ne_of_beq_eq_false rfl) rfl lvK0))) (fun ls hl => ?_)
      exact k_X6_dutyEndingBefore_b45 C N N _ _ _ _ _ h rx1 rx2 rk_0 _ _ _ hM (lv_sub hl [1, 2, 3, 0] rfl)
    · have h := if_f h c2
      refine m_aload_n (pc := 12) C dX6_dutyEndingBefore_12 rfl (lv_at hl 0 rfl) ?_
      obtain ⟨q3, h⟩ := ck_some h
      refine G_X6_exports (pc := 13) C hM bw_1_185 q3 dX6_dutyEndingBefore_13 ?_
      refine m_iload_n (pc := 16) C dX6_dutyEndingBefore_16 rfl (lv_at hl 3 rfl) ?_
      obtain ⟨q4, h⟩ := ck_some h
      refine m_aald (pc := 17) C hM q4.1 (by decide) (by decide) q4.2.1 q4.2.2 dX6_dutyEndingBefore_17 ?_
      refine m_iload_n (pc := 18) C dX6_dutyEndingBefore_18 rfl (lv_at hl 1 rfl) ?_
      obtain ⟨q5, h⟩ := ck_some h
      obtain ⟨a6, μ7, ca6, h⟩ := bd_some h
      refine V_X0_endsBefore (pc := 19) C hM ca6 rx1 q5 bw_2_175 ⟨Nat.le_of_ble_eq_true rfl, Nat.le_of_ble_eq_true rfl⟩ hl.1 rc0 ⟨Nat.le_refl _, Nat.le_refl _⟩ dX6_dutyEndingBefore_19 (fun ra6 H locs hM => ?_)
      refine m_if_eq (tgt := 37) (pc := 22) C ra6 dX6_dutyEndingBefore_22 (by decide) (fun c8 => ?_) (fun c8 => ?_)
      · have h := if_t h c8
        obtain ⟨a9, ea9, h⟩ := nm_some h
        have ra9 : R32 a9 := by rw [ea9]; exact w32_R _
        refine m_iinc (k := 3) (pc := 37) C dX6_dutyEndingBefore_37 hl rfl (by decide) ea9 (lvK1 0 rfl (Nat.ne_of_beq_eq_false rfl) (Nat.ne_of_beq_eq_false rfl) (lvK1 1 rfl (Nat.ne_of_beq_eq_false rfl) (Nat.ne_of_beq_eq_false rfl) (lvK2 2 rfl (Nat.ne_of_beq_eq_false rfl) rfl lvK0))) (fun ls hl => ?_)
        refine m_goto (tgt := 4) (pc := 40) C dX6_dutyEndingBefore_40 (by decide) ?_
        exact ih _ _ _ _ _ h rx1 rx2 ra9 _ _ _ hM (lv_sub hl [1, 2, 3, 0] rfl)
      · have h := if_f h c8
        refine m_iload_n (pc := 25) C dX6_dutyEndingBefore_25 rfl (lv_at hl 2 rfl) ?_
        refine m_aload_n (pc := 26) C dX6_dutyEndingBefore_26 rfl (lv_at hl 0 rfl) ?_
        obtain ⟨q10, h⟩ := ck_some h
        refine G_X6_exports (pc := 27) C hM bw_1_185 q10 dX6_dutyEndingBefore_27 ?_
        refine m_iload_n (pc := 30) C dX6_dutyEndingBefore_30 rfl (lv_at hl 3 rfl) ?_
        obtain ⟨q11, h⟩ := ck_some h
        refine m_aald (pc := 31) C hM q11.1 (by decide) (by decide) q11.2.1 q11.2.2 dX6_dutyEndingBefore_31 ?_
        obtain ⟨q12, h⟩ := ck_some h
        have gq12 := Gr_X0_duty hM q12
        refine G_X0_duty (pc := 32) C hM bw_1_162 q12 dX6_dutyEndingBefore_32 ?_
        obtain ⟨a13, ea13, h⟩ := nm_some h
        have ra13 : R32 a13 := by rw [ea13]; exact w32_R _
        refine m_iadd (pc := 35) C dX6_dutyEndingBefore_35 ea13 ?_
        refine m_istore_n (pc := 36) C dX6_dutyEndingBefore_36 rfl hl (by decide) (lvK1 0 rfl (Nat.ne_of_beq_eq_false rfl) (Nat.ne_of_beq_eq_false rfl) (lvK2 1 rfl (Nat.ne_of_beq_eq_false rfl) rfl (lvK1 3 rfl (Nat.ne_of_beq_eq_false rfl) (Nat.ne_of_beq_eq_false rfl) lvK0))) (fun ls hl => ?_)
        obtain ⟨a14, ea14, h⟩ := nm_some h
        have ra14 : R32 a14 := by rw [ea14]; exact w32_R _
        refine m_iinc (k := 3) (pc := 37) C dX6_dutyEndingBefore_37 hl rfl (by decide) ea14 (lvK2 0 rfl (Nat.ne_of_beq_eq_false rfl) rfl (lvK1 1 rfl (Nat.ne_of_beq_eq_false rfl) (Nat.ne_of_beq_eq_false rfl) (lvK1 2 rfl (Nat.ne_of_beq_eq_false rfl) (Nat.ne_of_beq_eq_false rfl) lvK0))) (fun ls hl => ?_)
        refine m_goto (tgt := 4) (pc := 40) C dX6_dutyEndingBefore_40 (by decide) ?_
        exact ih _ _ _ _ _ h rx1 ra13 ra14 _ _ _ hM (lv_sub hl [2, 3, 1, 0] rfl)
set_option maxHeartbeats 4000000 in
set_option maxRecDepth 100000 in
theorem c_X6_dutyEndingBefore (l : Launch) (E : gE) (N : Nat) (x0 x1 : Int) (μ μ' : Mm) (r : Int) (h : f_X6_dutyEndingBefore N x0 x1 μ = some (r, μ')) (rx1 : R32 x1) : gMet l E yX6_dutyEndingBefore cX6_dutyEndingBefore 4 (some .int) 2 44 [vr E x0, vi x1] (some (vi r)) (R32 r) μ μ' 0 0 := by
  refine g_ofW [1, 1] (by first | (simp only [List.map_cons, List.map_nil, vr_cat]; done) | (simp only [List.map_cons, List.map_nil, vr_cat]; rfl)) (by decide) (by decide) (fun p e s m below meth c ls C hM hl => ?_)
  replace C : gCx p s m _ meth c cX6_dutyEndingBefore 4 (some .int) "dutyEndingBefore" RX6 := C
  replace hl : lv_has ls 4 [(0, vr E x0), (1, vi x1)] := hl
  unfold f_X6_dutyEndingBefore at h
  refine m_iconst (pc := 0) C dX6_dutyEndingBefore_0 ?_
  refine m_istore_n (pc := 1) C dX6_dutyEndingBefore_1 rfl hl (by decide) (lvK1 0 rfl (Nat.ne_of_beq_eq_false rfl) (Nat.ne_of_beq_eq_false rfl) (lvK2 1 rfl (Nat.ne_of_beq_eq_false rfl) rfl lvK0)) (fun ls hl => ?_)
  refine m_iconst (pc := 2) C dX6_dutyEndingBefore_2 ?_
  refine m_istore_n (pc := 3) C dX6_dutyEndingBefore_3 rfl hl (by decide) (lvK2 0 rfl (Nat.ne_of_beq_eq_false rfl) rfl (lvK1 1 rfl (Nat.ne_of_beq_eq_false rfl) (Nat.ne_of_beq_eq_false rfl) (lvK1 2 rfl (Nat.ne_of_beq_eq_false rfl) (Nat.ne_of_beq_eq_false rfl) lvK0))) (fun ls hl => ?_)
  exact k_X6_dutyEndingBefore_b4 C N N _ _ _ _ _ h rx1 rk_0 rk_0 _ _ _ hM (lv_sub hl [2, 3, 1, 0] rfl)
theorem hd_X6_dutyEndingBefore : yX6_dutyEndingBefore.cls ≠ "java/lang/invoke/MethodHandle" ∧ yX6_dutyEndingBefore.cls ≠ "java/lang/invoke/VarHandle" ∧ (parseMethodDescriptor yX6_dutyEndingBefore.desc).map (fun d => d.parameters.length) = some 1 := by decide +kernel

theorem V_X6_dutyEndingBefore {p : Program} {l : Launch} {e : Env} {R : Room} {s : State} {m : MethodId} {args : Array Value} {below : List Frame} {meth : Method} {c : Code} {H : Heap} {locs : List Loc} {cells slots : Nat} {Q : State → Prop} {cc : ByteArray} {pc nL : Nat} {ls : Array Slot} {rest : List Value} {ret : Option FieldType} {nmm own : String} {E : gE} {μ μ1 : Mm} {index : Nat} (C : gCx p s m args meth c cc nL ret nmm own) (hM : MS E μ s H locs) {N : Nat} {x0 x1 v : Int} (hc : f_X6_dutyEndingBefore N x0 x1 μ = some (v, μ1)) (rx1 : R32 x1) (hck : μ x0 (-2) = 8) (h1 : Cond.methodLink own index yX6_dutyEndingBefore ∈ bigL) (hR : 3 ≤ R.frames ∧ 67 ≤ R.locals) (hl : ls.size = nL) (hcat : RC rest 8) (hf : cells + 0 ≤ R.cells ∧ slots + 0 ≤ R.slots) (hdg : decode cc pc = .ok (.invokevirtual index, 3)) (kk : (R32 v) → ∀ (H1 : Heap) (locs1 : List Loc), MS E μ1 s H1 locs1 → W p l e R s m args below meth c H1 locs1 (cells + 0) (slots + 0) Q (F0 m (pc + 3) ls (vi v :: rest))) : W p l e R s m args below meth c H locs cells slots Q (F0 m pc ls (vi x1 :: vr E x0 :: rest)) := g_callV C KF_X6 hM (c_X6_dutyEndingBefore l E N x0 x1 μ μ1 v hc rx1) hck (gV h1 bw_3_1 bw_3_2 bw_1_2 bw_3_3) ⟨rfl, hd_X6_dutyEndingBefore⟩ hR rfl hl rfl hcat hf hdg kk
end G03
