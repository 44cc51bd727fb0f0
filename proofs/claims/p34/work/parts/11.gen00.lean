section G00
variable {p : Program} {l : Launch} {e : Env} {R : Room} {s : State} {m : MethodId} {args : Array Value} {below : List Frame} {meth : Method} {c : Code} {E : gE}
/-! X0_init -/
def f_X0_init (N : Nat) (x0 : Int) (μ : Mm) : Rs :=
  ck ((1 : Int) ≤ x0) <|
  some (0, μ)
set_option maxHeartbeats 4000000 in
set_option maxRecDepth 100000 in
theorem c_X0_init (l : Launch) (E : gE) (N : Nat) (x0 : Int) (μ μ' : Mm) (r : Int) (h : f_X0_init N x0 μ = some (r, μ')) : gMet l E yX0_init cX0_init 1 none 1 20 [vr E x0] none True μ μ' 0 0 := by
  refine g_ofW [1] (by first | (simp only [List.map_cons, List.map_nil, vr_cat]; done) | (simp only [List.map_cons, List.map_nil, vr_cat]; rfl)) (by decide) (by decide) (fun p e s m below meth c ls C hM hl => ?_)
  replace C : gCx p s m _ meth c cX0_init 1 none "<init>" RX0 := C
  replace hl : lv_has ls 1 [(0, vr E x0)] := hl
  unfold f_X0_init at h
  refine m_aload_n (pc := 0) C dX0_init_0 rfl (lv_at hl 0 rfl) ?_
  obtain ⟨q1, h⟩ := ck_some h
  refine m_objInit (pc := 1) C q1 bw_1_154 bw_1_26 bw_1_27 hl.1 rc0 ⟨Nat.le_of_ble_eq_true rfl, Nat.le_of_ble_eq_true rfl⟩ dX0_init_1 ?_
  cases h
  exact m_vret (pc := 4) C hM trivial dX0_init_4
theorem hd_X0_init : yX0_init.cls ≠ "java/lang/invoke/MethodHandle" ∧ yX0_init.cls ≠ "java/lang/invoke/VarHandle" ∧ (parseMethodDescriptor yX0_init.desc).map (fun d => d.parameters.length) = some 0 := by decide +kernel

theorem V_X0_init {p : Program} {l : Launch} {e : Env} {R : Room} {s : State} {m : MethodId} {args : Array Value} {below : List Frame} {meth : Method} {c : Code} {H : Heap} {locs : List Loc} {cells slots : Nat} {Q : State → Prop} {cc : ByteArray} {pc nL : Nat} {ls : Array Slot} {rest : List Value} {ret : Option FieldType} {nmm own : String} {E : gE} {μ μ1 : Mm} {index : Nat} (C : gCx p s m args meth c cc nL ret nmm own) (hM : MS E μ s H locs) {N : Nat} {x0 v : Int} (hc : f_X0_init N x0 μ = some (v, μ1)) (hck : 1 ≤ x0) (h1 : Cond.methodLink own index yX0_init ∈ bigL) (hR : 2 ≤ R.frames ∧ 40 ≤ R.locals) (hl : ls.size = nL) (hcat : RC rest 8) (hf : cells + 0 ≤ R.cells ∧ slots + 0 ≤ R.slots) (hdg : decode cc pc = .ok (.invokespecial index, 3)) (kk : True → ∀ (H1 : Heap) (locs1 : List Loc), MS E μ1 s H1 locs1 → W p l e R s m args below meth c H1 locs1 (cells + 0) (slots + 0) Q (F0 m (pc + 3) ls rest)) : W p l e R s m args below meth c H locs cells slots Q (F0 m pc ls (vr E x0 :: rest)) := g_callI C hM (c_X0_init l E N x0 μ μ1 v hc) hck h1 bw_1_152 bw_1_6 bw_1_153 rfl hd_X0_init hR rfl hl rfl hcat hf hdg kk
theorem VN3_X0_init {p : Program} {l : Launch} {e : Env} {R : Room} {s : State} {m : MethodId} {args : Array Value} {below : List Frame} {meth : Method} {c : Code} {H : Heap} {locs : List Loc} {cells slots : Nat} {Q : State → Prop} {cc : ByteArray} {pc nL : Nat} {ls : Array Slot} {rest : List Value} {ret : Option FieldType} {nmm : String} {E : gE} {μ μ1 : Mm} (C : gCx p s m args meth c cc nL ret nmm RX6) (hM : MS E μ s H locs) {N : Nat} {x0 v : Int} (hc : f_X0_init N x0 μ = some (v, μ1)) (hck : 1 ≤ x0) (hR : 2 ≤ R.frames ∧ 40 ≤ R.locals) (hl : ls.size = nL) (hcat : RC rest 8) (hf : cells + 0 ≤ R.cells ∧ slots + 0 ≤ R.slots) (hdg : decode cc pc = .ok (.invokespecial 38, 3)) (kk : True → ∀ (H1 : Heap) (locs1 : List Loc), MS E μ1 s H1 locs1 → W p l e R s m args below meth c H1 locs1 (cells + 0) (slots + 0) Q (F0 m (pc + 3) ls rest)) : W p l e R s m args below meth c H locs cells slots Q (F0 m pc ls (vr E x0 :: rest)) := g_callIN C hM (c_X0_init l E N x0 μ μ1 v hc) hck hM.1.1.2.2.2.2.1 bw_1_152 bw_1_6 bw_1_153 rfl hd_X0_init hR rfl hl rfl hcat hf hdg kk
/-! X0_copyFrom -/
def f_X0_copyFrom (N : Nat) (x0 x1 : Int) (μ : Mm) : Rs :=
  ck (μ x1 (-2) = 2) <|
  ck (μ x0 (-2) = 2) <|
  nm (mset μ x0 0 (μ x1 0)) fun μ3 =>
  ck (μ3 x1 (-2) = 2) <|
  ck (μ3 x0 (-2) = 2) <|
  nm (mset μ3 x0 1 (μ3 x1 1)) fun μ6 =>
  ck (μ6 x1 (-2) = 2) <|
  ck (μ6 x0 (-2) = 2) <|
  nm (mset μ6 x0 2 (μ6 x1 2)) fun μ9 =>
  ck (μ9 x1 (-2) = 2) <|
  ck (μ9 x0 (-2) = 2) <|
  nm (mset μ9 x0 3 (μ9 x1 3)) fun μ12 =>
  ck (μ12 x1 (-2) = 2) <|
  ck (μ12 x0 (-2) = 2) <|
  nm (mset μ12 x0 4 (μ12 x1 4)) fun μ15 =>
  some (0, μ15)
set_option maxHeartbeats 4000000 in
set_option maxRecDepth 100000 in
theorem c_X0_copyFrom (l : Launch) (E : gE) (N : Nat) (x0 x1 : Int) (μ μ' : Mm) (r : Int) (h : f_X0_copyFrom N x0 x1 μ = some (r, μ')) : gMet l E yX0_copyFrom cX0_copyFrom 2 none 0 0 [vr E x0, vr E x1] none True μ μ' 0 0 := by
  refine g_ofW [1, 1] (by first | (simp only [List.map_cons, List.map_nil, vr_cat]; done) | (simp only [List.map_cons, List.map_nil, vr_cat]; rfl)) (by decide) (by decide) (fun p e s m below meth c ls C hM hl => ?_)
  replace C : gCx p s m _ meth c cX0_copyFrom 2 none "copyFrom" RX0 := C
  replace hl : lv_has ls 2 [(0, vr E x0), (1, vr E x1)] := hl
  unfold f_X0_copyFrom at h
  refine m_aload_n (pc := 0) C dX0_copyFrom_0 rfl (lv_at hl 0 rfl) ?_
  refine m_aload_n (pc := 1) C dX0_copyFrom_1 rfl (lv_at hl 1 rfl) ?_
  obtain ⟨q1, h⟩ := ck_some h
  have gq1 := Gr_X0_lot hM q1
  refine G_X0_lot (pc := 2) C hM bw_1_155 q1 dX0_copyFrom_2 ?_
  obtain ⟨q2, h⟩ := ck_some h
  obtain ⟨μ3, eμ3, h⟩ := nm_some h
  refine P_X0_lot (pc := 5) C hM bw_1_155 q2 gq1 eμ3 dX0_copyFrom_5 (fun H locs hM => ?_)
  refine m_aload_n (pc := 8) C dX0_copyFrom_8 rfl (lv_at hl 0 rfl) ?_
  refine m_aload_n (pc := 9) C dX0_copyFrom_9 rfl (lv_at hl 1 rfl) ?_
  obtain ⟨q4, h⟩ := ck_some h
  have gq4 := Gr_X0_units hM q4
  refine G_X0_units (pc := 10) C hM bw_1_158 q4 dX0_copyFrom_10 ?_
  obtain ⟨q5, h⟩ := ck_some h
  obtain ⟨μ6, eμ6, h⟩ := nm_some h
  refine P_X0_units (pc := 13) C hM bw_1_158 q5 gq4 eμ6 dX0_copyFrom_13 (fun H locs hM => ?_)
  refine m_aload_n (pc := 16) C dX0_copyFrom_16 rfl (lv_at hl 0 rfl) ?_
  refine m_aload_n (pc := 17) C dX0_copyFrom_17 rfl (lv_at hl 1 rfl) ?_
  obtain ⟨q7, h⟩ := ck_some h
  have gq7 := Gr_X0_duty hM q7
  refine G_X0_duty (pc := 18) C hM bw_1_161 q7 dX0_copyFrom_18 ?_
  obtain ⟨q8, h⟩ := ck_some h
  obtain ⟨μ9, eμ9, h⟩ := nm_some h
  refine P_X0_duty (pc := 21) C hM bw_1_161 q8 gq7 eμ9 dX0_copyFrom_21 (fun H locs hM => ?_)
  refine m_aload_n (pc := 24) C dX0_copyFrom_24 rfl (lv_at hl 0 rfl) ?_
  refine m_aload_n (pc := 25) C dX0_copyFrom_25 rfl (lv_at hl 1 rfl) ?_
  obtain ⟨q10, h⟩ := ck_some h
  have gq10 := Gr_X0_deadline hM q10
  refine G_X0_deadline (pc := 26) C hM bw_1_164 q10 dX0_copyFrom_26 ?_
  obtain ⟨q11, h⟩ := ck_some h
  obtain ⟨μ12, eμ12, h⟩ := nm_some h
  refine P_X0_deadline (pc := 29) C hM bw_1_164 q11 gq10 eμ12 dX0_copyFrom_29 (fun H locs hM => ?_)
  refine m_aload_n (pc := 32) C dX0_copyFrom_32 rfl (lv_at hl 0 rfl) ?_
  refine m_aload_n (pc := 33) C dX0_copyFrom_33 rfl (lv_at hl 1 rfl) ?_
  obtain ⟨q13, h⟩ := ck_some h
  have gq13 := Gr_X0_state hM q13
  refine G_X0_state (pc := 34) C hM bw_1_166 q13 dX0_copyFrom_34 ?_
  obtain ⟨q14, h⟩ := ck_some h
  obtain ⟨μ15, eμ15, h⟩ := nm_some h
  refine P_X0_state (pc := 37) C hM bw_1_166 q14 gq13 eμ15 dX0_copyFrom_37 (fun H locs hM => ?_)
  cases h
  exact m_vret (pc := 40) C hM trivial dX0_copyFrom_40
theorem hd_X0_copyFrom : yX0_copyFrom.cls ≠ "java/lang/invoke/MethodHandle" ∧ yX0_copyFrom.cls ≠ "java/lang/invoke/VarHandle" ∧ (parseMethodDescriptor yX0_copyFrom.desc).map (fun d => d.parameters.length) = some 1 := by decide +kernel

theorem V_X0_copyFrom {p : Program} {l : Launch} {e : Env} {R : Room} {s : State} {m : MethodId} {args : Array Value} {below : List Frame} {meth : Method} {c : Code} {H : Heap} {locs : List Loc} {cells slots : Nat} {Q : State → Prop} {cc : ByteArray} {pc nL : Nat} {ls : Array Slot} {rest : List Value} {ret : Option FieldType} {nmm own : String} {E : gE} {μ μ1 : Mm} {index : Nat} (C : gCx p s m args meth c cc nL ret nmm own) (hM : MS E μ s H locs) {N : Nat} {x0 x1 v : Int} (hc : f_X0_copyFrom N x0 x1 μ = some (v, μ1)) (hck : μ x0 (-2) = 2) (h1 : Cond.methodLink own index yX0_copyFrom ∈ bigL) (hR : 1 ≤ R.frames ∧ 21 ≤ R.locals) (hl : ls.size = nL) (hcat : RC rest 8) (hf : cells + 0 ≤ R.cells ∧ slots + 0 ≤ R.slots) (hdg : decode cc pc = .ok (.invokevirtual index, 3)) (kk : True → ∀ (H1 : Heap) (locs1 : List Loc), MS E μ1 s H1 locs1 → W p l e R s m args below meth c H1 locs1 (cells + 0) (slots + 0) Q (F0 m (pc + 3) ls rest)) : W p l e R s m args below meth c H locs cells slots Q (F0 m pc ls (vr E x1 :: vr E x0 :: rest)) := g_callV C KF_X0 hM (c_X0_copyFrom l E N x0 x1 μ μ1 v hc) hck (gV h1 bw_2_118 bw_2_119 bw_1_6 bw_2_120) ⟨rfl, hd_X0_copyFrom⟩ hR rfl hl rfl hcat hf hdg kk
/-! X0_waits -/
def f_X0_waits (N : Nat) (x0 : Int) (μ : Mm) : Rs :=
  ck (μ x0 (-2) = 2) <|
  if ¬ (μ x0 4) = 0 then
    (some (0, μ))
  else
  some (1, μ)
set_option maxHeartbeats 4000000 in
set_option maxRecDepth 100000 in
theorem c_X0_waits (l : Launch) (E : gE) (N : Nat) (x0 : Int) (μ μ' : Mm) (r : Int) (h : f_X0_waits N x0 μ = some (r, μ')) : gMet l E yX0_waits cX0_waits 1 (some .boolean) 0 0 [vr E x0] (some (vi r)) (R32 r) μ μ' 0 0 := by
  refine g_ofW [1] (by first | (simp only [List.map_cons, List.map_nil, vr_cat]; done) | (simp only [List.map_cons, List.map_nil, vr_cat]; rfl)) (by decide) (by decide) (fun p e s m below meth c ls C hM hl => ?_)
  replace C : gCx p s m _ meth c cX0_waits 1 (some .boolean) "waits" RX0 := C
  replace hl : lv_has ls 1 [(0, vr E x0)] := hl
  unfold f_X0_waits at h
  refine m_aload_n (pc := 0) C dX0_waits_0 rfl (lv_at hl 0 rfl) ?_
  obtain ⟨q1, h⟩ := ck_some h
  have gq1 := Gr_X0_state hM q1
  refine G_X0_state (pc := 1) C hM bw_1_166 q1 dX0_waits_1 ?_
  refine m_if_ne (tgt := 11) (pc := 4) C gq1 dX0_waits_4 (by decide) (fun c2 => ?_) (fun c2 => ?_)
  · have h := if_t h c2
    refine m_iconst (pc := 11) C dX0_waits_11 ?_
    cases h
    exact m_zret (pc := 12) C rfl hM rk_0 dX0_waits_12
  · have h := if_f h c2
    refine m_iconst (pc := 7) C dX0_waits_7 ?_
    refine m_goto (tgt := 12) (pc := 8) C dX0_waits_8 (by decide) ?_
    cases h
    exact m_zret (pc := 12) C rfl hM rk_1 dX0_waits_12
theorem hd_X0_waits : yX0_waits.cls ≠ "java/lang/invoke/MethodHandle" ∧ yX0_waits.cls ≠ "java/lang/invoke/VarHandle" ∧ (parseMethodDescriptor yX0_waits.desc).map (fun d => d.parameters.length) = some 0 := by decide +kernel

theorem V_X0_waits {p : Program} {l : Launch} {e : Env} {R : Room} {s : State} {m : MethodId} {args : Array Value} {below : List Frame} {meth : Method} {c : Code} {H : Heap} {locs : List Loc} {cells slots : Nat} {Q : State → Prop} {cc : ByteArray} {pc nL : Nat} {ls : Array Slot} {rest : List Value} {ret : Option FieldType} {nmm own : String} {E : gE} {μ μ1 : Mm} {index : Nat} (C : gCx p s m args meth c cc nL ret nmm own) (hM : MS E μ s H locs) {N : Nat} {x0 v : Int} (hc : f_X0_waits N x0 μ = some (v, μ1)) (hck : μ x0 (-2) = 2) (h1 : Cond.methodLink own index yX0_waits ∈ bigL) (hR : 1 ≤ R.frames ∧ 20 ≤ R.locals) (hl : ls.size = nL) (hcat : RC rest 8) (hf : cells + 0 ≤ R.cells ∧ slots + 0 ≤ R.slots) (hdg : decode cc pc = .ok (.invokevirtual index, 3)) (kk : (R32 v) → ∀ (H1 : Heap) (locs1 : List Loc), MS E μ1 s H1 locs1 → W p l e R s m args below meth c H1 locs1 (cells + 0) (slots + 0) Q (F0 m (pc + 3) ls (vi v :: rest))) : W p l e R s m args below meth c H locs cells slots Q (F0 m pc ls (vr E x0 :: rest)) := g_callV C KF_X0 hM (c_X0_waits l E N x0 μ μ1 v hc) hck (gV h1 bw_2_154 bw_2_155 bw_1_6 bw_2_156) ⟨rfl, hd_X0_waits⟩ hR rfl hl rfl hcat hf hdg kk
/-! X0_endsBefore -/
def f_X0_endsBefore (N : Nat) (x0 x1 : Int) (μ : Mm) : Rs :=
  ck (μ x0 (-2) = 2) <|
  bd (f_X0_waits N x0 μ) fun a2 μ3 =>
  if a2 = 0 then
    (some (0, μ3))
  else
  ck (μ3 x0 (-2) = 2) <|
  if x1 ≤ (μ3 x0 3) then
    (some (0, μ3))
  else
  some (1, μ3)
set_option maxHeartbeats 4000000 in
set_option maxRecDepth 100000 in
theorem c_X0_endsBefore (l : Launch) (E : gE) (N : Nat) (x0 x1 : Int) (μ μ' : Mm) (r : Int) (h : f_X0_endsBefore N x0 x1 μ = some (r, μ')) (rx1 : R32 x1) : gMet l E yX0_endsBefore cX0_endsBefore 2 (some .boolean) 1 20 [vr E x0, vi x1] (some (vi r)) (R32 r) μ μ' 0 0 := by
  refine g_ofW [1, 1] (by first | (simp only [List.map_cons, List.map_nil, vr_cat]; done) | (simp only [List.map_cons, List.map_nil, vr_cat]; rfl)) (by decide) (by decide) (fun p e s m below meth c ls C hM hl => ?_)
  replace C : gCx p s m _ meth c cX0_endsBefore 2 (some .boolean) "endsBefore" RX0 := C
  replace hl : lv_has ls 2 [(0, vr E x0), (1, vi x1)] := hl
  unfold f_X0_endsBefore at h
  refine m_aload_n (pc := 0) C dX0_endsBefore_0 rfl (lv_at hl 0 rfl) ?_
  obtain ⟨q1, h⟩ := ck_some h
  obtain ⟨a2, μ3, ca2, h⟩ := bd_some h
  refine V_X0_waits (pc := 1) C hM ca2 q1 bw_2_179 ⟨Nat.le_of_ble_eq_true rfl, Nat.le_of_ble_eq_true rfl⟩ hl.1 rc0 ⟨Nat.le_refl _, Nat.le_refl _⟩ dX0_endsBefore_1 (fun ra2 H locs hM => ?_)
  refine m_if_eq (tgt := 19) (pc := 4) C ra2 dX0_endsBefore_4 (by decide) (fun c4 => ?_) (fun c4 => ?_)
  · have h := if_t h c4
    refine m_iconst (pc := 19) C dX0_endsBefore_19 ?_
    cases h
    exact m_zret (pc := 20) C rfl hM rk_0 dX0_endsBefore_20
  · have h := if_f h c4
    refine m_aload_n (pc := 7) C dX0_endsBefore_7 rfl (lv_at hl 0 rfl) ?_
    obtain ⟨q5, h⟩ := ck_some h
    have gq5 := Gr_X0_deadline hM q5
    refine G_X0_deadline (pc := 8) C hM bw_1_164 q5 dX0_endsBefore_8 ?_
    refine m_iload_n (pc := 11) C dX0_endsBefore_11 rfl (lv_at hl 1 rfl) ?_
    refine m_icmp_ge (tgt := 19) (pc := 12) C gq5 rx1 dX0_endsBefore_12 (by decide) (fun c6 => ?_) (fun c6 => ?_)
    · have h := if_t h c6
      refine m_iconst (pc := 19) C dX0_endsBefore_19 ?_
      cases h
      exact m_zret (pc := 20) C rfl hM rk_0 dX0_endsBefore_20
    · have h := if_f h c6
      refine m_iconst (pc := 15) C dX0_endsBefore_15 ?_
      refine m_goto (tgt := 20) (pc := 16) C dX0_endsBefore_16 (by decide) ?_
      cases h
      exact m_zret (pc := 20) C rfl hM rk_1 dX0_endsBefore_20
theorem hd_X0_endsBefore : yX0_endsBefore.cls ≠ "java/lang/invoke/MethodHandle" ∧ yX0_endsBefore.cls ≠ "java/lang/invoke/VarHandle" ∧ (parseMethodDescriptor yX0_endsBefore.desc).map (fun d => d.parameters.length) = some 1 := by decide +kernel

theorem V_X0_endsBefore {p : Program} {l : Launch} {e : Env} {R : Room} {s : State} {m : MethodId} {args : Array Value} {below : List Frame} {meth : Method} {c : Code} {H : Heap} {locs : List Loc} {cells slots : Nat} {Q : State → Prop} {cc : ByteArray} {pc nL : Nat} {ls : Array Slot} {rest : List Value} {ret : Option FieldType} {nmm own : String} {E : gE} {μ μ1 : Mm} {index : Nat} (C : gCx p s m args meth c cc nL ret nmm own) (hM : MS E μ s H locs) {N : Nat} {x0 x1 v : Int} (hc : f_X0_endsBefore N x0 x1 μ = some (v, μ1)) (rx1 : R32 x1) (hck : μ x0 (-2) = 2) (h1 : Cond.methodLink own index yX0_endsBefore ∈ bigL) (hR : 2 ≤ R.frames ∧ 41 ≤ R.locals) (hl : ls.size = nL) (hcat : RC rest 8) (hf : cells + 0 ≤ R.cells ∧ slots + 0 ≤ R.slots) (hdg : decode cc pc = .ok (.invokevirtual index, 3)) (kk : (R32 v) → ∀ (H1 : Heap) (locs1 : List Loc), MS E μ1 s H1 locs1 → W p l e R s m args below meth c H1 locs1 (cells + 0) (slots + 0) Q (F0 m (pc + 3) ls (vi v :: rest))) : W p l e R s m args below meth c H locs cells slots Q (F0 m pc ls (vi x1 :: vr E x0 :: rest)) := g_callV C KF_X0 hM (c_X0_endsBefore l E N x0 x1 μ μ1 v hc rx1) hck (gV h1 bw_2_176 bw_2_177 bw_1_6 bw_2_178) ⟨rfl, hd_X0_endsBefore⟩ hR rfl hl rfl hcat hf hdg kk
/-! X5_init -/
def f_X5_init_b14 (N : Nat) : Nat → Int → Int → Int → Int → Mm → Rs
  | 0, _, _, _, _, _ => none
  | n + 1, x0, x1, bc, bs, μ =>
    if 6 ≤ x1 then
      (ck (μ x0 (-2) = 7) <|
       nm (mset μ x0 1 100) fun μ3 =>
       ck (μ3 x0 (-2) = 7) <|
       nm (mset μ3 x0 2 30) fun μ5 =>
       ck (μ5 x0 (-2) = 7) <|
       nm (mset μ5 x0 3 20) fun μ7 =>
       ck (μ7 x0 (-2) = 7) <|
       nm (mset μ7 x0 4 20) fun μ9 =>
       ck (μ9 x0 (-2) = 7) <|
       nm (mset μ9 x0 5 10) fun μ11 =>
       some (0, μ11))
    else
    ck (μ x0 (-2) = 7) <|
    ck (μ (μ x0 0) (-2) = 23 ∧ (0 : Int) ≤ x1 ∧ x1 < μ (μ x0 0) (-1)) <|
    nm (mset μ (μ x0 0) x1 100) fun μ14 =>
    nm (w32 (x1 + 1)) fun a15 =>
    f_X5_init_b14 N n x0 a15 bc bs μ14
def f_X5_init (N : Nat) (x0 : Int) (μ : Mm) : Rs :=
  ck ((1 : Int) ≤ x0) <|
  ck ((1 : Int) ≤ 1 ∧ (0 : Int) ≤ 6 ∧ (6 : Int) ≤ 6 ∧ (6 : Int) ≤ 4096) <|
  nm (μ 0 0 + 1) fun o4 =>
  nm (mnew μ 23 6 6) fun μ3 =>
  ck (μ3 x0 (-2) = 7) <|
  nm (mset μ3 x0 0 o4) fun μ6 =>
  f_X5_init_b14 N N x0 0 (1 - 1) (6 - 6) μ6
set_option maxHeartbeats 4000000 in
set_option maxRecDepth 100000 in
theorem k_X5_init_b14 (C : gCx p s m args meth c cX5_init 2 none "<init>" RX5) (N : Nat) {r : Int} {μ' : Mm} : ∀ (n : Nat), ∀ (x0 x1 bc bs : Int) (μ : Mm), f_X5_init_b14 N n x0 x1 bc bs μ = some (r, μ') → R32 x1 → ∀ (H : Heap) (locs : List Loc) (ls : Array Slot) (cells slots : Nat), (cells : Int) + bc ≤ 1 ∧ 0 ≤ bc ∧ (slots : Int) + bs ≤ 6 ∧ 0 ≤ bs → MS E μ s H locs → lv_has ls 2 [(0, vr E x0), (1, vi x1)] → W p l e ({ frames := 1, cells := 1, slots := 6, locals := 20 } : Room) s m args below meth c H locs cells slots (MQ below (gQ E none True μ') args s 1 6 (gA E)) (F0 m 14 ls []) := by
  intro n
  induction n with
  | zero => intro x0 x1 bc bs μ h; simp [f_X5_init_b14] at h
  | succ n ih =>
    intro x0 x1 bc bs μ h rx1 H locs ls cells slots hb hM hl
    rw [f_X5_init_b14] at h
    refine m_iload_n (pc := 14) C dX5_init_14 rfl (lv_at hl 1 rfl) ?_
    refine m_bipush (pc := 15) C dX5_init_15 rfl ?_
    refine m_icmp_ge (tgt := 34) (pc := 17) C rx1 rk_6 dX5_init_17 (by decide) (fun c1 => ?_) (fun c1 => ?_)
    · have h := if_t h c1
      refine m_aload_n (pc := 34) C dX5_init_34 rfl (lv_at hl 0 rfl) ?_
      refine m_bipush (pc := 35) C dX5_init_35 rfl ?_
      obtain ⟨q2, h⟩ := ck_some h
      obtain ⟨μ3, eμ3, h⟩ := nm_some h
      refine P_X5_term (pc := 37) C hM bw_1_42 q2 rk_100 eμ3 dX5_init_37 (fun H locs hM => ?_)
      refine m_aload_n (pc := 40) C dX5_init_40 rfl (lv_at hl 0 rfl) ?_
      refine m_bipush (pc := 41) C dX5_init_41 rfl ?_
      obtain ⟨q4, h⟩ := ck_some h
      obtain ⟨μ5, eμ5, h⟩ := nm_some h
      refine P_X5_proof (pc := 43) C hM bw_1_44 q4 rk_30 eμ5 dX5_init_43 (fun H locs hM => ?_)
      refine m_aload_n (pc := 46) C dX5_init_46 rfl (lv_at hl 0 rfl) ?_
      refine m_bipush (pc := 47) C dX5_init_47 rfl ?_
      obtain ⟨q6, h⟩ := ck_some h
      obtain ⟨μ7, eμ7, h⟩ := nm_some h
      refine P_X5_cover (pc := 49) C hM bw_1_46 q6 rk_20 eμ7 dX5_init_49 (fun H locs hM => ?_)
      refine m_aload_n (pc := 52) C dX5_init_52 rfl (lv_at hl 0 rfl) ?_
      refine m_bipush (pc := 53) C dX5_init_53 rfl ?_
      obtain ⟨q8, h⟩ := ck_some h
      obtain ⟨μ9, eμ9, h⟩ := nm_some h
      refine P_X5_allowance (pc := 55) C hM bw_1_48 q8 rk_20 eμ9 dX5_init_55 (fun H locs hM => ?_)
      refine m_aload_n (pc := 58) C dX5_init_58 rfl (lv_at hl 0 rfl) ?_
      refine m_bipush (pc := 59) C dX5_init_59 rfl ?_
      obtain ⟨q10, h⟩ := ck_some h
      obtain ⟨μ11, eμ11, h⟩ := nm_some h
      refine P_X5_fee (pc := 61) C hM bw_1_50 q10 rk_10 eμ11 dX5_init_61 (fun H locs hM => ?_)
      cases h
      refine W.widen (k := 1) (n := 6) (by omega) (by omega) ?_
      exact m_vret (pc := 64) C hM trivial dX5_init_64
    · have h := if_f h c1
      refine m_aload_n (pc := 20) C dX5_init_20 rfl (lv_at hl 0 rfl) ?_
      obtain ⟨q12, h⟩ := ck_some h
      refine G_X5_rates (pc := 21) C hM bw_1_40 q12 dX5_init_21 ?_
      refine m_iload_n (pc := 24) C dX5_init_24 rfl (lv_at hl 1 rfl) ?_
      refine m_bipush (pc := 25) C dX5_init_25 rfl ?_
      obtain ⟨q13, h⟩ := ck_some h
      obtain ⟨μ14, eμ14, h⟩ := nm_some h
      refine m_iast (pc := 27) C hM q13.1 q13.2.1  q13.2.2 rk_100 eμ14 dX5_init_27 (fun H locs hM => ?_)
      obtain ⟨a15, ea15, h⟩ := nm_some h
      have ra15 : R32 a15 := by rw [ea15]; exact w32_R _
      refine m_iinc (k := 1) (pc := 28) C dX5_init_28 hl rfl (by decide) ea15 (lvK2 0 rfl (Nat.ne_of_beq_eq_false rfl) (vr_cat _ _) lvK0) (fun ls hl => ?_)
      refine m_goto (tgt := 14) (pc := 31) C dX5_init_31 (by decide) ?_
      exact ih _ _ _ _ _ h ra15 _ _ _ _ _ hb hM (lv_sub hl [1, 0] rfl)
set_option maxHeartbeats 4000000 in
set_option maxRecDepth 100000 in
theorem c_X5_init (l : Launch) (E : gE) (N : Nat) (x0 : Int) (μ μ' : Mm) (r : Int) (h : f_X5_init N x0 μ = some (r, μ')) : gMet l E yX5_init cX5_init 2 none 1 20 [vr E x0] none True μ μ' 1 6 := by
  refine g_ofW [1] (by first | (simp only [List.map_cons, List.map_nil, vr_cat]; done) | (simp only [List.map_cons, List.map_nil, vr_cat]; rfl)) (by decide) (by decide) (fun p e s m below meth c ls C hM hl => ?_)
  replace C : gCx p s m _ meth c cX5_init 2 none "<init>" RX5 := C
  replace hl : lv_has ls 2 [(0, vr E x0)] := hl
  unfold f_X5_init at h
  have hb : ((0 : Nat) : Int) + 1 ≤ 1 ∧ (0 : Int) ≤ 1 ∧ ((0 : Nat) : Int) + 6 ≤ 6 ∧ (0 : Int) ≤ 6 := by decide
  refine m_aload_n (pc := 0) C dX5_init_0 rfl (lv_at hl 0 rfl) ?_
  obtain ⟨q1, h⟩ := ck_some h
  refine m_objInit (pc := 1) C q1 bw_1_39 bw_1_26 bw_1_27 hl.1 rc0 ⟨Nat.le_of_ble_eq_true rfl, Nat.le_of_ble_eq_true rfl⟩ dX5_init_1 ?_
  refine m_aload_n (pc := 4) C dX5_init_4 rfl (lv_at hl 0 rfl) ?_
  refine m_bipush (pc := 5) C dX5_init_5 rfl ?_
  obtain ⟨q2, h⟩ := ck_some h
  obtain ⟨o4, eo4, h⟩ := nm_some h
  obtain ⟨μ3, eμ3, h⟩ := nm_some h
  have po4 : 1 ≤ o4 := by have := hM.wf.1; omega
  refine m_newa (atype := .int) (kc := 23) (t0 := 2) (pc := 7) C hM rfl (by decide) rfl (fun C => by intro q; cases q) bw_1_65 rk_6 q2.2.1 (nb8 q2.2.2.2 (by decide)) (by show _ + 1 ≤ 1; omega) (by show _ + (6 : Int).toNat ≤ 6; omega) eμ3 dX5_init_7 (fun H hM => ?_)
  rw [← eo4]
  replace hb : ((0 + 1 : Nat) : Int) + (1 - 1) ≤ 1 ∧ (0 : Int) ≤ 1 - 1 ∧ ((0 + (6 : Int).toNat : Nat) : Int) + (6 - 6) ≤ 6 ∧ (0 : Int) ≤ 6 - 6 := by omega
  obtain ⟨q5, h⟩ := ck_some h
  obtain ⟨μ6, eμ6, h⟩ := nm_some h
  refine P_X5_rates (pc := 9) C hM bw_1_40 q5 eμ6 dX5_init_9 (fun H locs hM => ?_)
  refine m_iconst (pc := 12) C dX5_init_12 ?_
  refine m_istore_n (pc := 13) C dX5_init_13 rfl hl (by decide) (lvK2 0 rfl (Nat.ne_of_beq_eq_false rfl) (vr_cat _ _) lvK0) (fun ls hl => ?_)
  exact k_X5_init_b14 C N N _ _ _ _ _ h rk_0 _ _ _ _ _ hb hM (lv_sub hl [1, 0] rfl)
theorem hd_X5_init : yX5_init.cls ≠ "java/lang/invoke/MethodHandle" ∧ yX5_init.cls ≠ "java/lang/invoke/VarHandle" ∧ (parseMethodDescriptor yX5_init.desc).map (fun d => d.parameters.length) = some 0 := by decide +kernel

theorem V_X5_init {p : Program} {l : Launch} {e : Env} {R : Room} {s : State} {m : MethodId} {args : Array Value} {below : List Frame} {meth : Method} {c : Code} {H : Heap} {locs : List Loc} {cells slots : Nat} {Q : State → Prop} {cc : ByteArray} {pc nL : Nat} {ls : Array Slot} {rest : List Value} {ret : Option FieldType} {nmm own : String} {E : gE} {μ μ1 : Mm} {index : Nat} (C : gCx p s m args meth c cc nL ret nmm own) (hM : MS E μ s H locs) {N : Nat} {x0 v : Int} (hc : f_X5_init N x0 μ = some (v, μ1)) (hck : 1 ≤ x0) (h1 : Cond.methodLink own index yX5_init ∈ bigL) (hR : 2 ≤ R.frames ∧ 41 ≤ R.locals) (hl : ls.size = nL) (hcat : RC rest 8) (hf : cells + 1 ≤ R.cells ∧ slots + 6 ≤ R.slots) (hdg : decode cc pc = .ok (.invokespecial index, 3)) (kk : True → ∀ (H1 : Heap) (locs1 : List Loc), MS E μ1 s H1 locs1 → W p l e R s m args below meth c H1 locs1 (cells + 1) (slots + 6) Q (F0 m (pc + 3) ls rest)) : W p l e R s m args below meth c H locs cells slots Q (F0 m pc ls (vr E x0 :: rest)) := g_callI C hM (c_X5_init l E N x0 μ μ1 v hc) hck h1 bw_1_37 bw_1_3 bw_1_38 rfl hd_X5_init hR rfl hl rfl hcat hf hdg kk
/-! X4_init -/
def f_X4_init (N : Nat) (x0 : Int) (μ : Mm) : Rs :=
  ck ((1 : Int) ≤ x0) <|
  some (0, μ)
set_option maxHeartbeats 4000000 in
set_option maxRecDepth 100000 in
theorem c_X4_init (l : Launch) (E : gE) (N : Nat) (x0 : Int) (μ μ' : Mm) (r : Int) (h : f_X4_init N x0 μ = some (r, μ')) : gMet l E yX4_init cX4_init 1 none 1 20 [vr E x0] none True μ μ' 0 0 := by
  refine g_ofW [1] (by first | (simp only [List.map_cons, List.map_nil, vr_cat]; done) | (simp only [List.map_cons, List.map_nil, vr_cat]; rfl)) (by decide) (by decide) (fun p e s m below meth c ls C hM hl => ?_)
  replace C : gCx p s m _ meth c cX4_init 1 none "<init>" RX4 := C
  replace hl : lv_has ls 1 [(0, vr E x0)] := hl
  unfold f_X4_init at h
  refine m_aload_n (pc := 0) C dX4_init_0 rfl (lv_at hl 0 rfl) ?_
  obtain ⟨q1, h⟩ := ck_some h
  refine m_objInit (pc := 1) C q1 bw_1_72 bw_1_26 bw_1_27 hl.1 rc0 ⟨Nat.le_of_ble_eq_true rfl, Nat.le_of_ble_eq_true rfl⟩ dX4_init_1 ?_
  cases h
  exact m_vret (pc := 4) C hM trivial dX4_init_4
theorem hd_X4_init : yX4_init.cls ≠ "java/lang/invoke/MethodHandle" ∧ yX4_init.cls ≠ "java/lang/invoke/VarHandle" ∧ (parseMethodDescriptor yX4_init.desc).map (fun d => d.parameters.length) = some 0 := by decide +kernel

theorem V_X4_init {p : Program} {l : Launch} {e : Env} {R : Room} {s : State} {m : MethodId} {args : Array Value} {below : List Frame} {meth : Method} {c : Code} {H : Heap} {locs : List Loc} {cells slots : Nat} {Q : State → Prop} {cc : ByteArray} {pc nL : Nat} {ls : Array Slot} {rest : List Value} {ret : Option FieldType} {nmm own : String} {E : gE} {μ μ1 : Mm} {index : Nat} (C : gCx p s m args meth c cc nL ret nmm own) (hM : MS E μ s H locs) {N : Nat} {x0 v : Int} (hc : f_X4_init N x0 μ = some (v, μ1)) (hck : 1 ≤ x0) (h1 : Cond.methodLink own index yX4_init ∈ bigL) (hR : 2 ≤ R.frames ∧ 40 ≤ R.locals) (hl : ls.size = nL) (hcat : RC rest 8) (hf : cells + 0 ≤ R.cells ∧ slots + 0 ≤ R.slots) (hdg : decode cc pc = .ok (.invokespecial index, 3)) (kk : True → ∀ (H1 : Heap) (locs1 : List Loc), MS E μ1 s H1 locs1 → W p l e R s m args below meth c H1 locs1 (cells + 0) (slots + 0) Q (F0 m (pc + 3) ls rest)) : W p l e R s m args below meth c H locs cells slots Q (F0 m pc ls (vr E x0 :: rest)) := g_callI C hM (c_X4_init l E N x0 μ μ1 v hc) hck h1 bw_1_70 bw_1_4 bw_1_71 rfl hd_X4_init hR rfl hl rfl hcat hf hdg kk
theorem VN1_X4_init {p : Program} {l : Launch} {e : Env} {R : Room} {s : State} {m : MethodId} {args : Array Value} {below : List Frame} {meth : Method} {c : Code} {H : Heap} {locs : List Loc} {cells slots : Nat} {Q : State → Prop} {cc : ByteArray} {pc nL : Nat} {ls : Array Slot} {rest : List Value} {ret : Option FieldType} {nmm : String} {E : gE} {μ μ1 : Mm} (C : gCx p s m args meth c cc nL ret nmm RX6) (hM : MS E μ s H locs) {N : Nat} {x0 v : Int} (hc : f_X4_init N x0 μ = some (v, μ1)) (hck : 1 ≤ x0) (hR : 2 ≤ R.frames ∧ 40 ≤ R.locals) (hl : ls.size = nL) (hcat : RC rest 8) (hf : cells + 0 ≤ R.cells ∧ slots + 0 ≤ R.slots) (hdg : decode cc pc = .ok (.invokespecial 24, 3)) (kk : True → ∀ (H1 : Heap) (locs1 : List Loc), MS E μ1 s H1 locs1 → W p l e R s m args below meth c H1 locs1 (cells + 0) (slots + 0) Q (F0 m (pc + 3) ls rest)) : W p l e R s m args below meth c H locs cells slots Q (F0 m pc ls (vr E x0 :: rest)) := g_callIN C hM (c_X4_init l E N x0 μ μ1 v hc) hck hM.1.1.2.2.1 bw_1_70 bw_1_4 bw_1_71 rfl hd_X4_init hR rfl hl rfl hcat hf hdg kk
/-! X2_init -/
def f_X2_init (N : Nat) (x0 : Int) (μ : Mm) : Rs :=
  ck ((1 : Int) ≤ x0) <|
  some (0, μ)
set_option maxHeartbeats 4000000 in
set_option maxRecDepth 100000 in
theorem c_X2_init (l : Launch) (E : gE) (N : Nat) (x0 : Int) (μ μ' : Mm) (r : Int) (h : f_X2_init N x0 μ = some (r, μ')) : gMet l E yX2_init cX2_init 1 none 1 20 [vr E x0] none True μ μ' 0 0 := by
  refine g_ofW [1] (by first | (simp only [List.map_cons, List.map_nil, vr_cat]; done) | (simp only [List.map_cons, List.map_nil, vr_cat]; rfl)) (by decide) (by decide) (fun p e s m below meth c ls C hM hl => ?_)
  replace C : gCx p s m _ meth c cX2_init 1 none "<init>" RX2 := C
  replace hl : lv_has ls 1 [(0, vr E x0)] := hl
  unfold f_X2_init at h
  refine m_aload_n (pc := 0) C dX2_init_0 rfl (lv_at hl 0 rfl) ?_
  obtain ⟨q1, h⟩ := ck_some h
  refine m_objInit (pc := 1) C q1 bw_1_97 bw_1_26 bw_1_27 hl.1 rc0 ⟨Nat.le_of_ble_eq_true rfl, Nat.le_of_ble_eq_true rfl⟩ dX2_init_1 ?_
  cases h
  exact m_vret (pc := 4) C hM trivial dX2_init_4
theorem hd_X2_init : yX2_init.cls ≠ "java/lang/invoke/MethodHandle" ∧ yX2_init.cls ≠ "java/lang/invoke/VarHandle" ∧ (parseMethodDescriptor yX2_init.desc).map (fun d => d.parameters.length) = some 0 := by decide +kernel

theorem V_X2_init {p : Program} {l : Launch} {e : Env} {R : Room} {s : State} {m : MethodId} {args : Array Value} {below : List Frame} {meth : Method} {c : Code} {H : Heap} {locs : List Loc} {cells slots : Nat} {Q : State → Prop} {cc : ByteArray} {pc nL : Nat} {ls : Array Slot} {rest : List Value} {ret : Option FieldType} {nmm own : String} {E : gE} {μ μ1 : Mm} {index : Nat} (C : gCx p s m args meth c cc nL ret nmm own) (hM : MS E μ s H locs) {N : Nat} {x0 v : Int} (hc : f_X2_init N x0 μ = some (v, μ1)) (hck : 1 ≤ x0) (h1 : Cond.methodLink own index yX2_init ∈ bigL) (hR : 2 ≤ R.frames ∧ 40 ≤ R.locals) (hl : ls.size = nL) (hcat : RC rest 8) (hf : cells + 0 ≤ R.cells ∧ slots + 0 ≤ R.slots) (hdg : decode cc pc = .ok (.invokespecial index, 3)) (kk : True → ∀ (H1 : Heap) (locs1 : List Loc), MS E μ1 s H1 locs1 → W p l e R s m args below meth c H1 locs1 (cells + 0) (slots + 0) Q (F0 m (pc + 3) ls rest)) : W p l e R s m args below meth c H locs cells slots Q (F0 m pc ls (vr E x0 :: rest)) := g_callI C hM (c_X2_init l E N x0 μ μ1 v hc) hck h1 bw_1_95 bw_1_5 bw_1_96 rfl hd_X2_init hR rfl hl rfl hcat hf hdg kk
theorem VN2_X2_init {p : Program} {l : Launch} {e : Env} {R : Room} {s : State} {m : MethodId} {args : Array Value} {below : List Frame} {meth : Method} {c : Code} {H : Heap} {locs : List Loc} {cells slots : Nat} {Q : State → Prop} {cc : ByteArray} {pc nL : Nat} {ls : Array Slot} {rest : List Value} {ret : Option FieldType} {nmm : String} {E : gE} {μ μ1 : Mm} (C : gCx p s m args meth c cc nL ret nmm RX6) (hM : MS E μ s H locs) {N : Nat} {x0 v : Int} (hc : f_X2_init N x0 μ = some (v, μ1)) (hck : 1 ≤ x0) (hR : 2 ≤ R.frames ∧ 40 ≤ R.locals) (hl : ls.size = nL) (hcat : RC rest 8) (hf : cells + 0 ≤ R.cells ∧ slots + 0 ≤ R.slots) (hdg : decode cc pc = .ok (.invokespecial 31, 3)) (kk : True → ∀ (H1 : Heap) (locs1 : List Loc), MS E μ1 s H1 locs1 → W p l e R s m args below meth c H1 locs1 (cells + 0) (slots + 0) Q (F0 m (pc + 3) ls rest)) : W p l e R s m args below meth c H locs cells slots Q (F0 m pc ls (vr E x0 :: rest)) := g_callIN C hM (c_X2_init l E N x0 μ μ1 v hc) hck hM.1.1.2.2.2.1 bw_1_95 bw_1_5 bw_1_96 rfl hd_X2_init hR rfl hl rfl hcat hf hdg kk
/-! X6_init -/
def f_X6_init_b96 (N : Nat) : Nat → Int → Int → Int → Int → Mm → Rs
  | 0, _, _, _, _, _ => none
  | n + 1, x0, x1, bc, bs, μ =>
    if 30 ≤ x1 then
      (some (0, μ))
    else
    ck (μ x0 (-2) = 8) <|
    ck ((1 : Int) ≤ bc ∧ (5 : Int) ≤ bs) <|
    nm (μ 0 0 + 1) fun o5 =>
    nm (mnew μ 2 0 5) fun μ4 =>
    ck ((1 : Int) ≤ o5) <|
    bd (f_X0_init N o5 μ4) fun a7 μ8 =>
    ck (μ8 (μ x0 3) (-2) = 29 ∧ (0 : Int) ≤ x1 ∧ x1 < μ8 (μ x0 3) (-1) ∧ μ8 o5 (-2) = 2) <|
    nm (mset μ8 (μ x0 3) x1 o5) fun μ10 =>
    nm (w32 (x1 + 1)) fun a11 =>
    f_X6_init_b96 N n x0 a11 (bc - 1) (bs - 5) μ10
def f_X6_init_b60 (N : Nat) : Nat → Int → Int → Int → Int → Mm → Rs
  | 0, _, _, _, _, _ => none
  | n + 1, x0, x1, bc, bs, μ =>
    if 30 ≤ x1 then
      (ck ((1 : Int) ≤ bc ∧ (0 : Int) ≤ 30 ∧ (30 : Int) ≤ bs ∧ (30 : Int) ≤ 4096) <|
       nm (μ 0 0 + 1) fun o4 =>
       nm (mnew μ 29 30 30) fun μ3 =>
       ck (μ3 x0 (-2) = 8) <|
       nm (mset μ3 x0 3 o4) fun μ6 =>
       f_X6_init_b96 N N x0 0 (bc - 1) (bs - 30) μ6)
    else
    ck (μ x0 (-2) = 8) <|
    ck ((1 : Int) ≤ bc ∧ (11 : Int) ≤ bs) <|
    nm (μ 0 0 + 1) fun o10 =>
    nm (mnew μ 4 0 11) fun μ9 =>
    ck ((1 : Int) ≤ o10) <|
    bd (f_X2_init N o10 μ9) fun a12 μ13 =>
    ck (μ13 (μ x0 2) (-2) = 28 ∧ (0 : Int) ≤ x1 ∧ x1 < μ13 (μ x0 2) (-1) ∧ μ13 o10 (-2) = 4) <|
    nm (mset μ13 (μ x0 2) x1 o10) fun μ15 =>
    nm (w32 (x1 + 1)) fun a16 =>
    f_X6_init_b60 N n x0 a16 (bc - 1) (bs - 11) μ15
def f_X6_init_b25 (N : Nat) : Nat → Int → Int → Int → Int → Mm → Rs
  | 0, _, _, _, _, _ => none
  | n + 1, x0, x1, bc, bs, μ =>
    if 5 ≤ x1 then
      (ck ((1 : Int) ≤ bc ∧ (0 : Int) ≤ 30 ∧ (30 : Int) ≤ bs ∧ (30 : Int) ≤ 4096) <|
       nm (μ 0 0 + 1) fun o4 =>
       nm (mnew μ 28 30 30) fun μ3 =>
       ck (μ3 x0 (-2) = 8) <|
       nm (mset μ3 x0 2 o4) fun μ6 =>
       f_X6_init_b60 N N x0 0 (bc - 1) (bs - 30) μ6)
    else
    ck (μ x0 (-2) = 8) <|
    ck ((1 : Int) ≤ bc ∧ (4 : Int) ≤ bs) <|
    nm (μ 0 0 + 1) fun o10 =>
    nm (mnew μ 6 0 4) fun μ9 =>
    ck ((1 : Int) ≤ o10) <|
    bd (f_X4_init N o10 μ9) fun a12 μ13 =>
    ck (μ13 (μ x0 1) (-2) = 27 ∧ (0 : Int) ≤ x1 ∧ x1 < μ13 (μ x0 1) (-1) ∧ μ13 o10 (-2) = 6) <|
    nm (mset μ13 (μ x0 1) x1 o10) fun μ15 =>
    nm (w32 (x1 + 1)) fun a16 =>
    f_X6_init_b25 N n x0 a16 (bc - 1) (bs - 4) μ15
def f_X6_init (N : Nat) (x0 : Int) (μ : Mm) : Rs :=
  ck ((1 : Int) ≤ x0) <|
  ck ((1 : Int) ≤ 70 ∧ (6 : Int) ≤ 577) <|
  nm (μ 0 0 + 1) fun o4 =>
  nm (mnew μ 7 0 6) fun μ3 =>
  ck ((1 : Int) ≤ o4) <|
  ck ((1 : Int) ≤ (70 - 1) ∧ (6 : Int) ≤ (577 - 6)) <|
  bd (f_X5_init N o4 μ3) fun a7 μ8 =>
  ck (μ8 x0 (-2) = 8) <|
  nm (mset μ8 x0 0 o4) fun μ10 =>
  ck ((1 : Int) ≤ (70 - 1 - 1) ∧ (0 : Int) ≤ 5 ∧ (5 : Int) ≤ (577 - 6 - 6) ∧ (5 : Int) ≤ 4096) <|
  nm (μ10 0 0 + 1) fun o13 =>
  nm (mnew μ10 27 5 5) fun μ12 =>
  ck (μ12 x0 (-2) = 8) <|
  nm (mset μ12 x0 1 o13) fun μ15 =>
  f_X6_init_b25 N N x0 0 (70 - 1 - 1 - 1) (577 - 6 - 6 - 5) μ15
set_option maxHeartbeats 4000000 in
set_option maxRecDepth 100000 in
theorem k_X6_init_b96 (C : gCx p s m args meth c cX6_init 2 none "<init>" RX6) (N : Nat) {r : Int} {μ' : Mm} : ∀ (n : Nat), ∀ (x0 x1 bc bs : Int) (μ : Mm), f_X6_init_b96 N n x0 x1 bc bs μ = some (r, μ') → R32 x1 → ∀ (H : Heap) (locs : List Loc) (ls : Array Slot) (cells slots : Nat), (cells : Int) + bc ≤ 70 ∧ 0 ≤ bc ∧ (slots : Int) + bs ≤ 577 ∧ 0 ≤ bs → MS E μ s H locs → lv_has ls 2 [(0, vr E x0), (1, vi x1)] → W p l e ({ frames := 2, cells := 70, slots := 577, locals := 41 } : Room) s m args below meth c H locs cells slots (MQ below (gQ E none True μ') args s 70 577 (gA E)) (F0 m 96 ls []) := by
  intro n
  induction n with
  | zero => intro x0 x1 bc bs μ h; simp [f_X6_init_b96] at h
  | succ n ih =>
    intro x0 x1 bc bs μ h rx1 H locs ls cells slots hb hM hl
    rw [f_X6_init_b96] at h
    refine m_iload_n (pc := 96) C dX6_init_96 rfl (lv_at hl 1 rfl) ?_
    refine m_bipush (pc := 97) C dX6_init_97 rfl ?_
    refine m_icmp_ge (tgt := 121) (pc := 99) C rx1 rk_30 dX6_init_99 (by decide) (fun c1 => ?_) (fun c1 => ?_)
    · have h := if_t h c1
      cases h
      refine W.widen (k := 70) (n := 577) (by omega) (by omega) ?_
      exact m_vret (pc := 121) C hM trivial dX6_init_121
    · have h := if_f h c1
      refine m_aload_n (pc := 102) C dX6_init_102 rfl (lv_at hl 0 rfl) ?_
      obtain ⟨q2, h⟩ := ck_some h
      refine G_X6_exports (pc := 103) C hM bw_1_185 q2 dX6_init_103 ?_
      refine m_iload_n (pc := 106) C dX6_init_106 rfl (lv_at hl 1 rfl) ?_
      obtain ⟨q3, h⟩ := ck_some h
      obtain ⟨o5, eo5, h⟩ := nm_some h
      obtain ⟨μ4, eμ4, h⟩ := nm_some h
      have po5 : 1 ≤ o5 := by have := hM.wf.1; omega
      refine m_new (pc := 107) C KF_X0 hM bw_1_148 bw_1_150 bw_1_6 fl_X0 (by show _ + 1 ≤ 70; omega) (by show _ + 5 ≤ 577; omega) eμ4 dX6_init_107 (fun H hM => ?_)
      rw [← eo5]
      replace hb : ((cells + 1 : Nat) : Int) + (bc - 1) ≤ 70 ∧ (0 : Int) ≤ bc - 1 ∧ ((slots + 5 : Nat) : Int) + (bs - 5) ≤ 577 ∧ (0 : Int) ≤ bs - 5 := by omega
      refine m_dup (pc := 110) C (vr_cat _ _) dX6_init_110 ?_
      obtain ⟨q6, h⟩ := ck_some h
      obtain ⟨a7, μ8, ca7, h⟩ := bd_some h
      refine VN3_X0_init (pc := 111) C hM ca7 q6 ⟨Nat.le_of_ble_eq_true rfl, Nat.le_of_ble_eq_true rfl⟩ hl.1 (rcR (rcI (rcR rc0))) ⟨by show _ + 0 ≤ 70; omega, by show _ + 0 ≤ 577; omega⟩ dX6_init_111 (fun _ H locs hM => ?_)
      obtain ⟨q9, h⟩ := ck_some h
      obtain ⟨μ10, eμ10, h⟩ := nm_some h
      refine m_aast (t0 := 8) (pc := 114) C hM KF_X0 q9.1 (by decide) (by decide) rfl q9.2.1 q9.2.2.1 q9.2.2.2 eμ10 dX6_init_114 (fun H locs hM => ?_)
      obtain ⟨a11, ea11, h⟩ := nm_some h
      have ra11 : R32 a11 := by rw [ea11]; exact w32_R _
      refine m_iinc (k := 1) (pc := 115) C dX6_init_115 hl rfl (by decide) ea11 (lvK2 0 rfl (Nat.ne_of_beq_eq_false rfl) (vr_cat _ _) lvK0) (fun ls hl => ?_)
      refine m_goto (tgt := 96) (pc := 118) C dX6_init_118 (by decide) ?_
      exact ih _ _ _ _ _ h ra11 _ _ _ _ _ hb hM (lv_sub hl [1, 0] rfl)
set_option maxHeartbeats 4000000 in
set_option maxRecDepth 100000 in
theorem k_X6_init_b60 (C : gCx p s m args meth c cX6_init 2 none "<init>" RX6) (N : Nat) {r : Int} {μ' : Mm} : ∀ (n : Nat), ∀ (x0 x1 bc bs : Int) (μ : Mm), f_X6_init_b60 N n x0 x1 bc bs μ = some (r, μ') → R32 x1 → ∀ (H : Heap) (locs : List Loc) (ls : Array Slot) (cells slots : Nat), (cells : Int) + bc ≤ 70 ∧ 0 ≤ bc ∧ (slots : Int) + bs ≤ 577 ∧ 0 ≤ bs → MS E μ s H locs → lv_has ls 2 [(0, vr E x0), (1, vi x1)] → W p l e ({ frames := 2, cells := 70, slots := 577, locals := 41 } : Room) s m args below meth c H locs cells slots (MQ below (gQ E none True μ') args s 70 577 (gA E)) (F0 m 60 ls []) := by
  intro n
  induction n with
  | zero => intro x0 x1 bc bs μ h; simp [f_X6_init_b60] at h
  | succ n ih =>
    intro x0 x1 bc bs μ h rx1 H locs ls cells slots hb hM hl
    rw [f_X6_init_b60] at h
    refine m_iload_n (pc := 60) C dX6_init_60 rfl (lv_at hl 1 rfl) ?_
    refine m_bipush (pc := 61) C dX6_init_61 rfl ?_
    refine m_icmp_ge (tgt := 85) (pc := 63) C rx1 rk_30 dX6_init_63 (by decide) (fun c1 => ?_) (fun c1 => ?_)
    · have h := if_t h c1
      refine m_aload_n (pc := 85) C dX6_init_85 rfl (lv_at hl 0 rfl) ?_
      refine m_bipush (pc := 86) C dX6_init_86 rfl ?_
      obtain ⟨q2, h⟩ := ck_some h
      obtain ⟨o4, eo4, h⟩ := nm_some h
      obtain ⟨μ3, eμ3, h⟩ := nm_some h
      have po4 : 1 ≤ o4 := by have := hM.wf.1; omega
      refine m_anew (kc := 29) (t0 := 8) (pc := 88) C hM (by decide) (by decide) rfl bw_1_148 (AO_X0 hM) rk_30 q2.2.1 (by omega) (by show _ + 1 ≤ 70; omega) (by show _ + (30 : Int).toNat ≤ 577; omega) eμ3 dX6_init_88 (fun H hM => ?_)
      rw [← eo4]
      replace hb : ((cells + 1 : Nat) : Int) + (bc - 1) ≤ 70 ∧ (0 : Int) ≤ bc - 1 ∧ ((slots + (30 : Int).toNat : Nat) : Int) + (bs - 30) ≤ 577 ∧ (0 : Int) ≤ bs - 30 := by omega
      obtain ⟨q5, h⟩ := ck_some h
      obtain ⟨μ6, eμ6, h⟩ := nm_some h
      refine P_X6_exports (pc := 91) C hM bw_1_185 q5 eμ6 dX6_init_91 (fun H locs hM => ?_)
      refine m_iconst (pc := 94) C dX6_init_94 ?_
      refine m_istore_n (pc := 95) C dX6_init_95 rfl hl (by decide) (lvK2 0 rfl (Nat.ne_of_beq_eq_false rfl) (vr_cat _ _) lvK0) (fun ls hl => ?_)
      exact k_X6_init_b96 C N N _ _ _ _ _ h rk_0 _ _ _ _ _ hb hM (lv_sub hl [1, 0] rfl)
    · have h := if_f h c1
      refine m_aload_n (pc := 66) C dX6_init_66 rfl (lv_at hl 0 rfl) ?_
      obtain ⟨q7, h⟩ := ck_some h
      refine G_X6_lots (pc := 67) C hM bw_1_183 q7 dX6_init_67 ?_
      refine m_iload_n (pc := 70) C dX6_init_70 rfl (lv_at hl 1 rfl) ?_
      obtain ⟨q8, h⟩ := ck_some h
      obtain ⟨o10, eo10, h⟩ := nm_some h
      obtain ⟨μ9, eμ9, h⟩ := nm_some h
      have po10 : 1 ≤ o10 := by have := hM.wf.1; omega
      refine m_new (pc := 71) C KF_X2 hM bw_1_91 bw_1_93 bw_1_5 fl_X2 (by show _ + 1 ≤ 70; omega) (by show _ + 11 ≤ 577; omega) eμ9 dX6_init_71 (fun H hM => ?_)
      rw [← eo10]
      replace hb : ((cells + 1 : Nat) : Int) + (bc - 1) ≤ 70 ∧ (0 : Int) ≤ bc - 1 ∧ ((slots + 11 : Nat) : Int) + (bs - 11) ≤ 577 ∧ (0 : Int) ≤ bs - 11 := by omega
      refine m_dup (pc := 74) C (vr_cat _ _) dX6_init_74 ?_
      obtain ⟨q11, h⟩ := ck_some h
      obtain ⟨a12, μ13, ca12, h⟩ := bd_some h
      refine VN2_X2_init (pc := 75) C hM ca12 q11 ⟨Nat.le_of_ble_eq_true rfl, Nat.le_of_ble_eq_true rfl⟩ hl.1 (rcR (rcI (rcR rc0))) ⟨by show _ + 0 ≤ 70; omega, by show _ + 0 ≤ 577; omega⟩ dX6_init_75 (fun _ H locs hM => ?_)
      obtain ⟨q14, h⟩ := ck_some h
      obtain ⟨μ15, eμ15, h⟩ := nm_some h
      refine m_aast (t0 := 7) (pc := 78) C hM KF_X2 q14.1 (by decide) (by decide) rfl q14.2.1 q14.2.2.1 q14.2.2.2 eμ15 dX6_init_78 (fun H locs hM => ?_)
      obtain ⟨a16, ea16, h⟩ := nm_some h
      have ra16 : R32 a16 := by rw [ea16]; exact w32_R _
      refine m_iinc (k := 1) (pc := 79) C dX6_init_79 hl rfl (by decide) ea16 (lvK2 0 rfl (Nat.ne_of_beq_eq_false rfl) (vr_cat _ _) lvK0) (fun ls hl => ?_)
      refine m_goto (tgt := 60) (pc := 82) C dX6_init_82 (by decide) ?_
      exact ih _ _ _ _ _ h ra16 _ _ _ _ _ hb hM (lv_sub hl [1, 0] rfl)
set_option maxHeartbeats 4000000 in
set_option maxRecDepth 100000 in
theorem k_X6_init_b25 (C : gCx p s m args meth c cX6_init 2 none "<init>" RX6) (N : Nat) {r : Int} {μ' : Mm} : ∀ (n : Nat), ∀ (x0 x1 bc bs : Int) (μ : Mm), f_X6_init_b25 N n x0 x1 bc bs μ = some (r, μ') → R32 x1 → ∀ (H : Heap) (locs : List Loc) (ls : Array Slot) (cells slots : Nat), (cells : Int) + bc ≤ 70 ∧ 0 ≤ bc ∧ (slots : Int) + bs ≤ 577 ∧ 0 ≤ bs → MS E μ s H locs → lv_has ls 2 [(0, vr E x0), (1, vi x1)] → W p l e ({ frames := 2, cells := 70, slots := 577, locals := 41 } : Room) s m args below meth c H locs cells slots (MQ below (gQ E none True μ') args s 70 577 (gA E)) (F0 m 25 ls []) := by
  intro n
  induction n with
  | zero => intro x0 x1 bc bs μ h; simp [f_X6_init_b25] at h
  | succ n ih =>
    intro x0 x1 bc bs μ h rx1 H locs ls cells slots hb hM hl
    rw [f_X6_init_b25] at h
    refine m_iload_n (pc := 25) C dX6_init_25 rfl (lv_at hl 1 rfl) ?_
    refine m_iconst (pc := 26) C dX6_init_26 ?_
    refine m_icmp_ge (tgt := 49) (pc := 27) C rx1 rk_5 dX6_init_27 (by decide) (fun c1 => ?_) (fun c1 => ?_)
    · have h := if_t h c1
      refine m_aload_n (pc := 49) C dX6_init_49 rfl (lv_at hl 0 rfl) ?_
      refine m_bipush (pc := 50) C dX6_init_50 rfl ?_
      obtain ⟨q2, h⟩ := ck_some h
      obtain ⟨o4, eo4, h⟩ := nm_some h
      obtain ⟨μ3, eμ3, h⟩ := nm_some h
      have po4 : 1 ≤ o4 := by have := hM.wf.1; omega
      refine m_anew (kc := 28) (t0 := 7) (pc := 52) C hM (by decide) (by decide) rfl bw_1_91 (AO_X2 hM) rk_30 q2.2.1 (by omega) (by show _ + 1 ≤ 70; omega) (by show _ + (30 : Int).toNat ≤ 577; omega) eμ3 dX6_init_52 (fun H hM => ?_)
      rw [← eo4]
      replace hb : ((cells + 1 : Nat) : Int) + (bc - 1) ≤ 70 ∧ (0 : Int) ≤ bc - 1 ∧ ((slots + (30 : Int).toNat : Nat) : Int) + (bs - 30) ≤ 577 ∧ (0 : Int) ≤ bs - 30 := by omega
      obtain ⟨q5, h⟩ := ck_some h
      obtain ⟨μ6, eμ6, h⟩ := nm_some h
      refine P_X6_lots (pc := 55) C hM bw_1_183 q5 eμ6 dX6_init_55 (fun H locs hM => ?_)
      refine m_iconst (pc := 58) C dX6_init_58 ?_
      refine m_istore_n (pc := 59) C dX6_init_59 rfl hl (by decide) (lvK2 0 rfl (Nat.ne_of_beq_eq_false rfl) (vr_cat _ _) lvK0) (fun ls hl => ?_)
      exact k_X6_init_b60 C N N _ _ _ _ _ h rk_0 _ _ _ _ _ hb hM (lv_sub hl [1, 0] rfl)
    · have h := if_f h c1
      refine m_aload_n (pc := 30) C dX6_init_30 rfl (lv_at hl 0 rfl) ?_
      obtain ⟨q7, h⟩ := ck_some h
      refine G_X6_owners (pc := 31) C hM bw_1_182 q7 dX6_init_31 ?_
      refine m_iload_n (pc := 34) C dX6_init_34 rfl (lv_at hl 1 rfl) ?_
      obtain ⟨q8, h⟩ := ck_some h
      obtain ⟨o10, eo10, h⟩ := nm_some h
      obtain ⟨μ9, eμ9, h⟩ := nm_some h
      have po10 : 1 ≤ o10 := by have := hM.wf.1; omega
      refine m_new (pc := 35) C KF_X4 hM bw_1_66 bw_1_68 bw_1_4 fl_X4 (by show _ + 1 ≤ 70; omega) (by show _ + 4 ≤ 577; omega) eμ9 dX6_init_35 (fun H hM => ?_)
      rw [← eo10]
      replace hb : ((cells + 1 : Nat) : Int) + (bc - 1) ≤ 70 ∧ (0 : Int) ≤ bc - 1 ∧ ((slots + 4 : Nat) : Int) + (bs - 4) ≤ 577 ∧ (0 : Int) ≤ bs - 4 := by omega
      refine m_dup (pc := 38) C (vr_cat _ _) dX6_init_38 ?_
      obtain ⟨q11, h⟩ := ck_some h
      obtain ⟨a12, μ13, ca12, h⟩ := bd_some h
      refine VN1_X4_init (pc := 39) C hM ca12 q11 ⟨Nat.le_of_ble_eq_true rfl, Nat.le_of_ble_eq_true rfl⟩ hl.1 (rcR (rcI (rcR rc0))) ⟨by show _ + 0 ≤ 70; omega, by show _ + 0 ≤ 577; omega⟩ dX6_init_39 (fun _ H locs hM => ?_)
      obtain ⟨q14, h⟩ := ck_some h
      obtain ⟨μ15, eμ15, h⟩ := nm_some h
      refine m_aast (t0 := 6) (pc := 42) C hM KF_X4 q14.1 (by decide) (by decide) rfl q14.2.1 q14.2.2.1 q14.2.2.2 eμ15 dX6_init_42 (fun H locs hM => ?_)
      obtain ⟨a16, ea16, h⟩ := nm_some h
      have ra16 : R32 a16 := by rw [ea16]; exact w32_R _
      refine m_iinc (k := 1) (pc := 43) C dX6_init_43 hl rfl (by decide) ea16 (lvK2 0 rfl (Nat.ne_of_beq_eq_false rfl) (vr_cat _ _) lvK0) (fun ls hl => ?_)
      refine m_goto (tgt := 25) (pc := 46) C dX6_init_46 (by decide) ?_
      exact ih _ _ _ _ _ h ra16 _ _ _ _ _ hb hM (lv_sub hl [1, 0] rfl)
set_option maxHeartbeats 4000000 in
set_option maxRecDepth 100000 in
theorem c_X6_init (l : Launch) (E : gE) (N : Nat) (x0 : Int) (μ μ' : Mm) (r : Int) (h : f_X6_init N x0 μ = some (r, μ')) : gMet l E yX6_init cX6_init 2 none 2 41 [vr E x0] none True μ μ' 70 577 := by
  refine g_ofW [1] (by first | (simp only [List.map_cons, List.map_nil, vr_cat]; done) | (simp only [List.map_cons, List.map_nil, vr_cat]; rfl)) (by decide) (by decide) (fun p e s m below meth c ls C hM hl => ?_)
  replace C : gCx p s m _ meth c cX6_init 2 none "<init>" RX6 := C
  replace hl : lv_has ls 2 [(0, vr E x0)] := hl
  unfold f_X6_init at h
  have hb : ((0 : Nat) : Int) + 70 ≤ 70 ∧ (0 : Int) ≤ 70 ∧ ((0 : Nat) : Int) + 577 ≤ 577 ∧ (0 : Int) ≤ 577 := by decide
  refine m_aload_n (pc := 0) C dX6_init_0 rfl (lv_at hl 0 rfl) ?_
  obtain ⟨q1, h⟩ := ck_some h
  refine m_objInit (pc := 1) C q1 bw_1_33 bw_1_26 bw_1_27 hl.1 rc0 ⟨Nat.le_of_ble_eq_true rfl, Nat.le_of_ble_eq_true rfl⟩ dX6_init_1 ?_
  refine m_aload_n (pc := 4) C dX6_init_4 rfl (lv_at hl 0 rfl) ?_
  obtain ⟨q2, h⟩ := ck_some h
  obtain ⟨o4, eo4, h⟩ := nm_some h
  obtain ⟨μ3, eμ3, h⟩ := nm_some h
  have po4 : 1 ≤ o4 := by have := hM.wf.1; omega
  refine m_new (pc := 5) C KF_X5 hM bw_1_34 bw_1_35 bw_1_3 fl_X5 (by show _ + 1 ≤ 70; omega) (by show _ + 6 ≤ 577; omega) eμ3 dX6_init_5 (fun H hM => ?_)
  rw [← eo4]
  replace hb : ((0 + 1 : Nat) : Int) + (70 - 1) ≤ 70 ∧ (0 : Int) ≤ 70 - 1 ∧ ((0 + 6 : Nat) : Int) + (577 - 6) ≤ 577 ∧ (0 : Int) ≤ 577 - 6 := by omega
  refine m_dup (pc := 8) C (vr_cat _ _) dX6_init_8 ?_
  obtain ⟨q5, h⟩ := ck_some h
  obtain ⟨q6, h⟩ := ck_some h
  obtain ⟨a7, μ8, ca7, h⟩ := bd_some h
  refine V_X5_init (pc := 9) C hM ca7 q5 bw_1_36 ⟨Nat.le_of_ble_eq_true rfl, Nat.le_of_ble_eq_true rfl⟩ hl.1 (rcR (rcR rc0)) ⟨by show _ + 1 ≤ 70; omega, by show _ + 6 ≤ 577; omega⟩ dX6_init_9 (fun _ H locs hM => ?_)
  replace hb : ((0 + 1 + 1 : Nat) : Int) + (70 - 1 - 1) ≤ 70 ∧ (0 : Int) ≤ 70 - 1 - 1 ∧ ((0 + 6 + 6 : Nat) : Int) + (577 - 6 - 6) ≤ 577 ∧ (0 : Int) ≤ 577 - 6 - 6 := by omega
  obtain ⟨q9, h⟩ := ck_some h
  obtain ⟨μ10, eμ10, h⟩ := nm_some h
  refine P_X6_settings (pc := 12) C hM bw_1_180 q9 eμ10 dX6_init_12 (fun H locs hM => ?_)
  refine m_aload_n (pc := 15) C dX6_init_15 rfl (lv_at hl 0 rfl) ?_
  refine m_iconst (pc := 16) C dX6_init_16 ?_
  obtain ⟨q11, h⟩ := ck_some h
  obtain ⟨o13, eo13, h⟩ := nm_some h
  obtain ⟨μ12, eμ12, h⟩ := nm_some h
  have po13 : 1 ≤ o13 := by have := hM.wf.1; omega
  refine m_anew (kc := 27) (t0 := 6) (pc := 17) C hM (by decide) (by decide) rfl bw_1_66 (AO_X4 hM) rk_5 q11.2.1 (by omega) (by show _ + 1 ≤ 70; omega) (by show _ + (5 : Int).toNat ≤ 577; omega) eμ12 dX6_init_17 (fun H hM => ?_)
  rw [← eo13]
  replace hb : ((0 + 1 + 1 + 1 : Nat) : Int) + (70 - 1 - 1 - 1) ≤ 70 ∧ (0 : Int) ≤ 70 - 1 - 1 - 1 ∧ ((0 + 6 + 6 + (5 : Int).toNat : Nat) : Int) + (577 - 6 - 6 - 5) ≤ 577 ∧ (0 : Int) ≤ 577 - 6 - 6 - 5 := by omega
  obtain ⟨q14, h⟩ := ck_some h
  obtain ⟨μ15, eμ15, h⟩ := nm_some h
  refine P_X6_owners (pc := 20) C hM bw_1_182 q14 eμ15 dX6_init_20 (fun H locs hM => ?_)
  refine m_iconst (pc := 23) C dX6_init_23 ?_
  refine m_istore_n (pc := 24) C dX6_init_24 rfl hl (by decide) (lvK2 0 rfl (Nat.ne_of_beq_eq_false rfl) (vr_cat _ _) lvK0) (fun ls hl => ?_)
  exact k_X6_init_b25 C N N _ _ _ _ _ h rk_0 _ _ _ _ _ hb hM (lv_sub hl [1, 0] rfl)
theorem hd_X6_init : yX6_init.cls ≠ "java/lang/invoke/MethodHandle" ∧ yX6_init.cls ≠ "java/lang/invoke/VarHandle" ∧ (parseMethodDescriptor yX6_init.desc).map (fun d => d.parameters.length) = some 0 := by decide +kernel

theorem V_X6_init {p : Program} {l : Launch} {e : Env} {R : Room} {s : State} {m : MethodId} {args : Array Value} {below : List Frame} {meth : Method} {c : Code} {H : Heap} {locs : List Loc} {cells slots : Nat} {Q : State → Prop} {cc : ByteArray} {pc nL : Nat} {ls : Array Slot} {rest : List Value} {ret : Option FieldType} {nmm own : String} {E : gE} {μ μ1 : Mm} {index : Nat} (C : gCx p s m args meth c cc nL ret nmm own) (hM : MS E μ s H locs) {N : Nat} {x0 v : Int} (hc : f_X6_init N x0 μ = some (v, μ1)) (hck : 1 ≤ x0) (h1 : Cond.methodLink own index yX6_init ∈ bigL) (hR : 3 ≤ R.frames ∧ 62 ≤ R.locals) (hl : ls.size = nL) (hcat : RC rest 8) (hf : cells + 70 ≤ R.cells ∧ slots + 577 ≤ R.slots) (hdg : decode cc pc = .ok (.invokespecial index, 3)) (kk : True → ∀ (H1 : Heap) (locs1 : List Loc), MS E μ1 s H1 locs1 → W p l e R s m args below meth c H1 locs1 (cells + 70) (slots + 577) Q (F0 m (pc + 3) ls rest)) : W p l e R s m args below meth c H locs cells slots Q (F0 m pc ls (vr E x0 :: rest)) := g_callI C hM (c_X6_init l E N x0 μ μ1 v hc) hck h1 bw_1_31 bw_1_2 bw_1_32 rfl hd_X6_init hR rfl hl rfl hcat hf hdg kk
/-! X1_init -/
def f_X1_init_b15 (N : Nat) : Nat → Int → Int → Int → Int → Mm → Rs
  | 0, _, _, _, _, _ => none
  | n + 1, x0, x1, bc, bs, μ =>
    if 7 ≤ x1 then
      (some (0, μ))
    else
    ck (μ x0 (-2) = 3) <|
    ck ((1 : Int) ≤ bc ∧ (11 : Int) ≤ bs) <|
    nm (μ 0 0 + 1) fun o5 =>
    nm (mnew μ 8 0 11) fun μ4 =>
    ck ((1 : Int) ≤ o5) <|
    ck ((70 : Int) ≤ (bc - 1) ∧ (577 : Int) ≤ (bs - 11)) <|
    bd (f_X6_init N o5 μ4) fun a8 μ9 =>
    ck (μ9 (μ x0 0) (-2) = 26 ∧ (0 : Int) ≤ x1 ∧ x1 < μ9 (μ x0 0) (-1) ∧ μ9 o5 (-2) = 8) <|
    nm (mset μ9 (μ x0 0) x1 o5) fun μ11 =>
    nm (w32 (x1 + 1)) fun a12 =>
    f_X1_init_b15 N n x0 a12 (bc - 1 - 70) (bs - 11 - 577) μ11
def f_X1_init (N : Nat) (x0 : Int) (μ : Mm) : Rs :=
  ck ((1 : Int) ≤ x0) <|
  ck ((1 : Int) ≤ 498 ∧ (0 : Int) ≤ 7 ∧ (7 : Int) ≤ 4123 ∧ (7 : Int) ≤ 4096) <|
  nm (μ 0 0 + 1) fun o4 =>
  nm (mnew μ 26 7 7) fun μ3 =>
  ck (μ3 x0 (-2) = 3) <|
  nm (mset μ3 x0 0 o4) fun μ6 =>
  f_X1_init_b15 N N x0 0 (498 - 1) (4123 - 7) μ6
set_option maxHeartbeats 4000000 in
set_option maxRecDepth 100000 in
theorem k_X1_init_b15 (C : gCx p s m args meth c cX1_init 2 none "<init>" RX1) (N : Nat) {r : Int} {μ' : Mm} : ∀ (n : Nat), ∀ (x0 x1 bc bs : Int) (μ : Mm), f_X1_init_b15 N n x0 x1 bc bs μ = some (r, μ') → R32 x1 → ∀ (H : Heap) (locs : List Loc) (ls : Array Slot) (cells slots : Nat), (cells : Int) + bc ≤ 498 ∧ 0 ≤ bc ∧ (slots : Int) + bs ≤ 4123 ∧ 0 ≤ bs → MS E μ s H locs → lv_has ls 2 [(0, vr E x0), (1, vi x1)] → W p l e ({ frames := 3, cells := 498, slots := 4123, locals := 62 } : Room) s m args below meth c H locs cells slots (MQ below (gQ E none True μ') args s 498 4123 (gA E)) (F0 m 15 ls []) := by
  intro n
  induction n with
  | zero => intro x0 x1 bc bs μ h; simp [f_X1_init_b15] at h
  | succ n ih =>
    intro x0 x1 bc bs μ h rx1 H locs ls cells slots hb hM hl
    rw [f_X1_init_b15] at h
    refine m_iload_n (pc := 15) C dX1_init_15 rfl (lv_at hl 1 rfl) ?_
    refine m_bipush (pc := 16) C dX1_init_16 rfl ?_
    refine m_icmp_ge (tgt := 40) (pc := 18) C rx1 rk_7 dX1_init_18 (by decide) (fun c1 => ?_) (fun c1 => ?_)
    · have h := if_t h c1
      cases h
      refine W.widen (k := 498) (n := 4123) (by omega) (by omega) ?_
      exact m_vret (pc := 40) C hM trivial dX1_init_40
    · have h := if_f h c1
      refine m_aload_n (pc := 21) C dX1_init_21 rfl (lv_at hl 0 rfl) ?_
      obtain ⟨q2, h⟩ := ck_some h
      refine G_X1_rows (pc := 22) C hM bw_1_233 q2 dX1_init_22 ?_
      refine m_iload_n (pc := 25) C dX1_init_25 rfl (lv_at hl 1 rfl) ?_
      obtain ⟨q3, h⟩ := ck_some h
      obtain ⟨o5, eo5, h⟩ := nm_some h
      obtain ⟨μ4, eμ4, h⟩ := nm_some h
      have po5 : 1 ≤ o5 := by have := hM.wf.1; omega
      refine m_new (pc := 26) C KF_X6 hM bw_1_230 bw_1_29 bw_1_2 fl_X6 (by show _ + 1 ≤ 498; omega) (by show _ + 11 ≤ 4123; omega) eμ4 dX1_init_26 (fun H hM => ?_)
      rw [← eo5]
      replace hb : ((cells + 1 : Nat) : Int) + (bc - 1) ≤ 498 ∧ (0 : Int) ≤ bc - 1 ∧ ((slots + 11 : Nat) : Int) + (bs - 11) ≤ 4123 ∧ (0 : Int) ≤ bs - 11 := by omega
      refine m_dup (pc := 29) C (vr_cat _ _) dX1_init_29 ?_
      obtain ⟨q6, h⟩ := ck_some h
      obtain ⟨q7, h⟩ := ck_some h
      obtain ⟨a8, μ9, ca8, h⟩ := bd_some h
      refine V_X6_init (pc := 30) C hM ca8 q6 bw_1_232 ⟨Nat.le_of_ble_eq_true rfl, Nat.le_of_ble_eq_true rfl⟩ hl.1 (rcR (rcI (rcR rc0))) ⟨by show _ + 70 ≤ 498; omega, by show _ + 577 ≤ 4123; omega⟩ dX1_init_30 (fun _ H locs hM => ?_)
      replace hb : ((cells + 1 + 70 : Nat) : Int) + (bc - 1 - 70) ≤ 498 ∧ (0 : Int) ≤ bc - 1 - 70 ∧ ((slots + 11 + 577 : Nat) : Int) + (bs - 11 - 577) ≤ 4123 ∧ (0 : Int) ≤ bs - 11 - 577 := by omega
      obtain ⟨q10, h⟩ := ck_some h
      obtain ⟨μ11, eμ11, h⟩ := nm_some h
      refine m_aast (t0 := 5) (pc := 33) C hM KF_X6 q10.1 (by decide) (by decide) rfl q10.2.1 q10.2.2.1 q10.2.2.2 eμ11 dX1_init_33 (fun H locs hM => ?_)
      obtain ⟨a12, ea12, h⟩ := nm_some h
      have ra12 : R32 a12 := by rw [ea12]; exact w32_R _
      refine m_iinc (k := 1) (pc := 34) C dX1_init_34 hl rfl (by decide) ea12 (lvK2 0 rfl (Nat.ne_of_beq_eq_false rfl) (vr_cat _ _) lvK0) (fun ls hl => ?_)
      refine m_goto (tgt := 15) (pc := 37) C dX1_init_37 (by decide) ?_
      exact ih _ _ _ _ _ h ra12 _ _ _ _ _ hb hM (lv_sub hl [1, 0] rfl)
set_option maxHeartbeats 4000000 in
set_option maxRecDepth 100000 in
theorem c_X1_init (l : Launch) (E : gE) (N : Nat) (x0 : Int) (μ μ' : Mm) (r : Int) (h : f_X1_init N x0 μ = some (r, μ')) : gMet l E yX1_init cX1_init 2 none 3 62 [vr E x0] none True μ μ' 498 4123 := by
  refine g_ofW [1] (by first | (simp only [List.map_cons, List.map_nil, vr_cat]; done) | (simp only [List.map_cons, List.map_nil, vr_cat]; rfl)) (by decide) (by decide) (fun p e s m below meth c ls C hM hl => ?_)
  replace C : gCx p s m _ meth c cX1_init 2 none "<init>" RX1 := C
  replace hl : lv_has ls 2 [(0, vr E x0)] := hl
  unfold f_X1_init at h
  have hb : ((0 : Nat) : Int) + 498 ≤ 498 ∧ (0 : Int) ≤ 498 ∧ ((0 : Nat) : Int) + 4123 ≤ 4123 ∧ (0 : Int) ≤ 4123 := by decide
  refine m_aload_n (pc := 0) C dX1_init_0 rfl (lv_at hl 0 rfl) ?_
  obtain ⟨q1, h⟩ := ck_some h
  refine m_objInit (pc := 1) C q1 bw_1_229 bw_1_26 bw_1_27 hl.1 rc0 ⟨Nat.le_of_ble_eq_true rfl, Nat.le_of_ble_eq_true rfl⟩ dX1_init_1 ?_
  refine m_aload_n (pc := 4) C dX1_init_4 rfl (lv_at hl 0 rfl) ?_
  refine m_bipush (pc := 5) C dX1_init_5 rfl ?_
  obtain ⟨q2, h⟩ := ck_some h
  obtain ⟨o4, eo4, h⟩ := nm_some h
  obtain ⟨μ3, eμ3, h⟩ := nm_some h
  have po4 : 1 ≤ o4 := by have := hM.wf.1; omega
  refine m_anew (kc := 26) (t0 := 5) (pc := 7) C hM (by decide) (by decide) rfl bw_1_230 (AO_X6 hM) rk_7 q2.2.1 (by omega) (by show _ + 1 ≤ 498; omega) (by show _ + (7 : Int).toNat ≤ 4123; omega) eμ3 dX1_init_7 (fun H hM => ?_)
  rw [← eo4]
  replace hb : ((0 + 1 : Nat) : Int) + (498 - 1) ≤ 498 ∧ (0 : Int) ≤ 498 - 1 ∧ ((0 + (7 : Int).toNat : Nat) : Int) + (4123 - 7) ≤ 4123 ∧ (0 : Int) ≤ 4123 - 7 := by omega
  obtain ⟨q5, h⟩ := ck_some h
  obtain ⟨μ6, eμ6, h⟩ := nm_some h
  refine P_X1_rows (pc := 10) C hM bw_1_233 q5 eμ6 dX1_init_10 (fun H locs hM => ?_)
  refine m_iconst (pc := 13) C dX1_init_13 ?_
  refine m_istore_n (pc := 14) C dX1_init_14 rfl hl (by decide) (lvK2 0 rfl (Nat.ne_of_beq_eq_false rfl) (vr_cat _ _) lvK0) (fun ls hl => ?_)
  exact k_X1_init_b15 C N N _ _ _ _ _ h rk_0 _ _ _ _ _ hb hM (lv_sub hl [1, 0] rfl)
theorem hd_X1_init : yX1_init.cls ≠ "java/lang/invoke/MethodHandle" ∧ yX1_init.cls ≠ "java/lang/invoke/VarHandle" ∧ (parseMethodDescriptor yX1_init.desc).map (fun d => d.parameters.length) = some 0 := by decide +kernel

theorem V_X1_init {p : Program} {l : Launch} {e : Env} {R : Room} {s : State} {m : MethodId} {args : Array Value} {below : List Frame} {meth : Method} {c : Code} {H : Heap} {locs : List Loc} {cells slots : Nat} {Q : State → Prop} {cc : ByteArray} {pc nL : Nat} {ls : Array Slot} {rest : List Value} {ret : Option FieldType} {nmm own : String} {E : gE} {μ μ1 : Mm} {index : Nat} (C : gCx p s m args meth c cc nL ret nmm own) (hM : MS E μ s H locs) {N : Nat} {x0 v : Int} (hc : f_X1_init N x0 μ = some (v, μ1)) (hck : 1 ≤ x0) (h1 : Cond.methodLink own index yX1_init ∈ bigL) (hR : 4 ≤ R.frames ∧ 83 ≤ R.locals) (hl : ls.size = nL) (hcat : RC rest 8) (hf : cells + 498 ≤ R.cells ∧ slots + 4123 ≤ R.slots) (hdg : decode cc pc = .ok (.invokespecial index, 3)) (kk : True → ∀ (H1 : Heap) (locs1 : List Loc), MS E μ1 s H1 locs1 → W p l e R s m args below meth c H1 locs1 (cells + 498) (slots + 4123) Q (F0 m (pc + 3) ls rest)) : W p l e R s m args below meth c H locs cells slots Q (F0 m pc ls (vr E x0 :: rest)) := g_callI C hM (c_X1_init l E N x0 μ μ1 v hc) hck h1 bw_1_227 bw_1_7 bw_1_228 rfl hd_X1_init hR rfl hl rfl hcat hf hdg kk
/-! X5_copyFrom -/
def f_X5_copyFrom (N : Nat) (x0 x1 : Int) (μ : Mm) : Rs :=
  ck (μ x1 (-2) = 7) <|
  ck (μ x0 (-2) = 7) <|
  ck (μ (μ x1 0) (-2) = 23 ∧ μ (μ x0 0) (-2) = 23 ∧ (0 : Int) ≤ (μ x1 0) ∧ (0 : Int) ≤ (μ x0 0) ∧ (0 : Int) ≤ 0 ∧ (0 : Int) ≤ 0 ∧ (0 : Int) ≤ 6 ∧ 0 + 6 ≤ μ (μ x1 0) (-1) ∧ 0 + 6 ≤ μ (μ x0 0) (-1)) <|
  nm (mcpy μ (μ x1 0) 0 (μ x0 0) 0 6) fun μ4 =>
  ck (μ4 x1 (-2) = 7) <|
  ck (μ4 x0 (-2) = 7) <|
  nm (mset μ4 x0 1 (μ4 x1 1)) fun μ7 =>
  ck (μ7 x1 (-2) = 7) <|
  ck (μ7 x0 (-2) = 7) <|
  nm (mset μ7 x0 2 (μ7 x1 2)) fun μ10 =>
  ck (μ10 x1 (-2) = 7) <|
  ck (μ10 x0 (-2) = 7) <|
  nm (mset μ10 x0 3 (μ10 x1 3)) fun μ13 =>
  ck (μ13 x1 (-2) = 7) <|
  ck (μ13 x0 (-2) = 7) <|
  nm (mset μ13 x0 4 (μ13 x1 4)) fun μ16 =>
  ck (μ16 x1 (-2) = 7) <|
  ck (μ16 x0 (-2) = 7) <|
  nm (mset μ16 x0 5 (μ16 x1 5)) fun μ19 =>
  some (0, μ19)
set_option maxHeartbeats 4000000 in
set_option maxRecDepth 100000 in
theorem c_X5_copyFrom (l : Launch) (E : gE) (N : Nat) (x0 x1 : Int) (μ μ' : Mm) (r : Int) (h : f_X5_copyFrom N x0 x1 μ = some (r, μ')) : gMet l E yX5_copyFrom cX5_copyFrom 2 none 1 40 [vr E x0, vr E x1] none True μ μ' 0 0 := by
  refine g_ofW [1, 1] (by first | (simp only [List.map_cons, List.map_nil, vr_cat]; done) | (simp only [List.map_cons, List.map_nil, vr_cat]; rfl)) (by decide) (by decide) (fun p e s m below meth c ls C hM hl => ?_)
  replace C : gCx p s m _ meth c cX5_copyFrom 2 none "copyFrom" RX5 := C
  replace hl : lv_has ls 2 [(0, vr E x0), (1, vr E x1)] := hl
  unfold f_X5_copyFrom at h
  refine m_aload_n (pc := 0) C dX5_copyFrom_0 rfl (lv_at hl 1 rfl) ?_
  obtain ⟨q1, h⟩ := ck_some h
  refine G_X5_rates (pc := 1) C hM bw_1_40 q1 dX5_copyFrom_1 ?_
  refine m_iconst (pc := 4) C dX5_copyFrom_4 ?_
  refine m_aload_n (pc := 5) C dX5_copyFrom_5 rfl (lv_at hl 0 rfl) ?_
  obtain ⟨q2, h⟩ := ck_some h
  refine G_X5_rates (pc := 6) C hM bw_1_40 q2 dX5_copyFrom_6 ?_
  refine m_iconst (pc := 9) C dX5_copyFrom_9 ?_
  refine m_bipush (pc := 10) C dX5_copyFrom_10 rfl ?_
  obtain ⟨q3, h⟩ := ck_some h
  obtain ⟨μ4, eμ4, h⟩ := nm_some h
  refine m_acopy (kc := 23) (pc := 12) C hM bw_2_106 (Or.inr rfl) q3 rk_0 rk_0 rk_6 hl.1 rc0 ⟨Nat.le_of_ble_eq_true rfl, Nat.le_of_ble_eq_true rfl⟩ eμ4 dX5_copyFrom_12 (fun H locs hM => ?_)
  refine m_aload_n (pc := 15) C dX5_copyFrom_15 rfl (lv_at hl 0 rfl) ?_
  refine m_aload_n (pc := 16) C dX5_copyFrom_16 rfl (lv_at hl 1 rfl) ?_
  obtain ⟨q5, h⟩ := ck_some h
  have gq5 := Gr_X5_term hM q5
  refine G_X5_term (pc := 17) C hM bw_1_42 q5 dX5_copyFrom_17 ?_
  obtain ⟨q6, h⟩ := ck_some h
  obtain ⟨μ7, eμ7, h⟩ := nm_some h
  refine P_X5_term (pc := 20) C hM bw_1_42 q6 gq5 eμ7 dX5_copyFrom_20 (fun H locs hM => ?_)
  refine m_aload_n (pc := 23) C dX5_copyFrom_23 rfl (lv_at hl 0 rfl) ?_
  refine m_aload_n (pc := 24) C dX5_copyFrom_24 rfl (lv_at hl 1 rfl) ?_
  obtain ⟨q8, h⟩ := ck_some h
  have gq8 := Gr_X5_proof hM q8
  refine G_X5_proof (pc := 25) C hM bw_1_44 q8 dX5_copyFrom_25 ?_
  obtain ⟨q9, h⟩ := ck_some h
  obtain ⟨μ10, eμ10, h⟩ := nm_some h
  refine P_X5_proof (pc := 28) C hM bw_1_44 q9 gq8 eμ10 dX5_copyFrom_28 (fun H locs hM => ?_)
  refine m_aload_n (pc := 31) C dX5_copyFrom_31 rfl (lv_at hl 0 rfl) ?_
  refine m_aload_n (pc := 32) C dX5_copyFrom_32 rfl (lv_at hl 1 rfl) ?_
  obtain ⟨q11, h⟩ := ck_some h
  have gq11 := Gr_X5_cover hM q11
  refine G_X5_cover (pc := 33) C hM bw_1_46 q11 dX5_copyFrom_33 ?_
  obtain ⟨q12, h⟩ := ck_some h
  obtain ⟨μ13, eμ13, h⟩ := nm_some h
  refine P_X5_cover (pc := 36) C hM bw_1_46 q12 gq11 eμ13 dX5_copyFrom_36 (fun H locs hM => ?_)
  refine m_aload_n (pc := 39) C dX5_copyFrom_39 rfl (lv_at hl 0 rfl) ?_
  refine m_aload_n (pc := 40) C dX5_copyFrom_40 rfl (lv_at hl 1 rfl) ?_
  obtain ⟨q14, h⟩ := ck_some h
  have gq14 := Gr_X5_allowance hM q14
  refine G_X5_allowance (pc := 41) C hM bw_1_48 q14 dX5_copyFrom_41 ?_
  obtain ⟨q15, h⟩ := ck_some h
  obtain ⟨μ16, eμ16, h⟩ := nm_some h
  refine P_X5_allowance (pc := 44) C hM bw_1_48 q15 gq14 eμ16 dX5_copyFrom_44 (fun H locs hM => ?_)
  refine m_aload_n (pc := 47) C dX5_copyFrom_47 rfl (lv_at hl 0 rfl) ?_
  refine m_aload_n (pc := 48) C dX5_copyFrom_48 rfl (lv_at hl 1 rfl) ?_
  obtain ⟨q17, h⟩ := ck_some h
  have gq17 := Gr_X5_fee hM q17
  refine G_X5_fee (pc := 49) C hM bw_1_50 q17 dX5_copyFrom_49 ?_
  obtain ⟨q18, h⟩ := ck_some h
  obtain ⟨μ19, eμ19, h⟩ := nm_some h
  refine P_X5_fee (pc := 52) C hM bw_1_50 q18 gq17 eμ19 dX5_copyFrom_52 (fun H locs hM => ?_)
  cases h
  exact m_vret (pc := 55) C hM trivial dX5_copyFrom_55
theorem hd_X5_copyFrom : yX5_copyFrom.cls ≠ "java/lang/invoke/MethodHandle" ∧ yX5_copyFrom.cls ≠ "java/lang/invoke/VarHandle" ∧ (parseMethodDescriptor yX5_copyFrom.desc).map (fun d => d.parameters.length) = some 1 := by decide +kernel

theorem V_X5_copyFrom {p : Program} {l : Launch} {e : Env} {R : Room} {s : State} {m : MethodId} {args : Array Value} {below : List Frame} {meth : Method} {c : Code} {H : Heap} {locs : List Loc} {cells slots : Nat} {Q : State → Prop} {cc : ByteArray} {pc nL : Nat} {ls : Array Slot} {rest : List Value} {ret : Option FieldType} {nmm own : String} {E : gE} {μ μ1 : Mm} {index : Nat} (C : gCx p s m args meth c cc nL ret nmm own) (hM : MS E μ s H locs) {N : Nat} {x0 x1 v : Int} (hc : f_X5_copyFrom N x0 x1 μ = some (v, μ1)) (hck : μ x0 (-2) = 7) (h1 : Cond.methodLink own index yX5_copyFrom ∈ bigL) (hR : 2 ≤ R.frames ∧ 61 ≤ R.locals) (hl : ls.size = nL) (hcat : RC rest 8) (hf : cells + 0 ≤ R.cells ∧ slots + 0 ≤ R.slots) (hdg : decode cc pc = .ok (.invokevirtual index, 3)) (kk : True → ∀ (H1 : Heap) (locs1 : List Loc), MS E μ1 s H1 locs1 → W p l e R s m args below meth c H1 locs1 (cells + 0) (slots + 0) Q (F0 m (pc + 3) ls rest)) : W p l e R s m args below meth c H locs cells slots Q (F0 m pc ls (vr E x1 :: vr E x0 :: rest)) := g_callV C KF_X5 hM (c_X5_copyFrom l E N x0 x1 μ μ1 v hc) hck (gV h1 bw_2_103 bw_2_104 bw_1_3 bw_2_105) ⟨rfl, hd_X5_copyFrom⟩ hR rfl hl rfl hcat hf hdg kk
/-! X4_copyFrom -/
def f_X4_copyFrom (N : Nat) (x0 x1 : Int) (μ : Mm) : Rs :=
  ck (μ x1 (-2) = 6) <|
  ck (μ x0 (-2) = 6) <|
  nm (mset μ x0 0 (μ x1 0)) fun μ3 =>
  ck (μ3 x1 (-2) = 6) <|
  ck (μ3 x0 (-2) = 6) <|
  nm (mset μ3 x0 1 (μ3 x1 1)) fun μ6 =>
  ck (μ6 x1 (-2) = 6) <|
  ck (μ6 x0 (-2) = 6) <|
  nm (mset μ6 x0 2 (μ6 x1 2)) fun μ9 =>
  ck (μ9 x1 (-2) = 6) <|
  ck (μ9 x0 (-2) = 6) <|
  nm (mset μ9 x0 3 (μ9 x1 3)) fun μ12 =>
  some (0, μ12)
set_option maxHeartbeats 4000000 in
set_option maxRecDepth 100000 in
theorem c_X4_copyFrom (l : Launch) (E : gE) (N : Nat) (x0 x1 : Int) (μ μ' : Mm) (r : Int) (h : f_X4_copyFrom N x0 x1 μ = some (r, μ')) : gMet l E yX4_copyFrom cX4_copyFrom 2 none 0 0 [vr E x0, vr E x1] none True μ μ' 0 0 := by
  refine g_ofW [1, 1] (by first | (simp only [List.map_cons, List.map_nil, vr_cat]; done) | (simp only [List.map_cons, List.map_nil, vr_cat]; rfl)) (by decide) (by decide) (fun p e s m below meth c ls C hM hl => ?_)
  replace C : gCx p s m _ meth c cX4_copyFrom 2 none "copyFrom" RX4 := C
  replace hl : lv_has ls 2 [(0, vr E x0), (1, vr E x1)] := hl
  unfold f_X4_copyFrom at h
  refine m_aload_n (pc := 0) C dX4_copyFrom_0 rfl (lv_at hl 0 rfl) ?_
  refine m_aload_n (pc := 1) C dX4_copyFrom_1 rfl (lv_at hl 1 rfl) ?_
  obtain ⟨q1, h⟩ := ck_some h
  have gq1 := Gr_X4_cash hM q1
  refine G_X4_cash (pc := 2) C hM bw_1_73 q1 dX4_copyFrom_2 ?_
  obtain ⟨q2, h⟩ := ck_some h
  obtain ⟨μ3, eμ3, h⟩ := nm_some h
  refine P_X4_cash (pc := 5) C hM bw_1_73 q2 gq1 eμ3 dX4_copyFrom_5 (fun H locs hM => ?_)
  refine m_aload_n (pc := 8) C dX4_copyFrom_8 rfl (lv_at hl 0 rfl) ?_
  refine m_aload_n (pc := 9) C dX4_copyFrom_9 rfl (lv_at hl 1 rfl) ?_
  obtain ⟨q4, h⟩ := ck_some h
  have gq4 := Gr_X4_guarantee hM q4
  refine G_X4_guarantee (pc := 10) C hM bw_1_75 q4 dX4_copyFrom_10 ?_
  obtain ⟨q5, h⟩ := ck_some h
  obtain ⟨μ6, eμ6, h⟩ := nm_some h
  refine P_X4_guarantee (pc := 13) C hM bw_1_75 q5 gq4 eμ6 dX4_copyFrom_13 (fun H locs hM => ?_)
  refine m_aload_n (pc := 16) C dX4_copyFrom_16 rfl (lv_at hl 0 rfl) ?_
  refine m_aload_n (pc := 17) C dX4_copyFrom_17 rfl (lv_at hl 1 rfl) ?_
  obtain ⟨q7, h⟩ := ck_some h
  have gq7 := Gr_X4_debt hM q7
  refine G_X4_debt (pc := 18) C hM bw_1_77 q7 dX4_copyFrom_18 ?_
  obtain ⟨q8, h⟩ := ck_some h
  obtain ⟨μ9, eμ9, h⟩ := nm_some h
  refine P_X4_debt (pc := 21) C hM bw_1_77 q8 gq7 eμ9 dX4_copyFrom_21 (fun H locs hM => ?_)
  refine m_aload_n (pc := 24) C dX4_copyFrom_24 rfl (lv_at hl 0 rfl) ?_
  refine m_aload_n (pc := 25) C dX4_copyFrom_25 rfl (lv_at hl 1 rfl) ?_
  obtain ⟨q10, h⟩ := ck_some h
  have gq10 := Gr_X4_called hM q10
  refine G_X4_called (pc := 26) C hM bw_1_79 q10 dX4_copyFrom_26 ?_
  obtain ⟨q11, h⟩ := ck_some h
  obtain ⟨μ12, eμ12, h⟩ := nm_some h
  refine P_X4_called (pc := 29) C hM bw_1_79 q11 gq10 eμ12 dX4_copyFrom_29 (fun H locs hM => ?_)
  cases h
  exact m_vret (pc := 32) C hM trivial dX4_copyFrom_32
theorem hd_X4_copyFrom : yX4_copyFrom.cls ≠ "java/lang/invoke/MethodHandle" ∧ yX4_copyFrom.cls ≠ "java/lang/invoke/VarHandle" ∧ (parseMethodDescriptor yX4_copyFrom.desc).map (fun d => d.parameters.length) = some 1 := by decide +kernel

theorem V_X4_copyFrom {p : Program} {l : Launch} {e : Env} {R : Room} {s : State} {m : MethodId} {args : Array Value} {below : List Frame} {meth : Method} {c : Code} {H : Heap} {locs : List Loc} {cells slots : Nat} {Q : State → Prop} {cc : ByteArray} {pc nL : Nat} {ls : Array Slot} {rest : List Value} {ret : Option FieldType} {nmm own : String} {E : gE} {μ μ1 : Mm} {index : Nat} (C : gCx p s m args meth c cc nL ret nmm own) (hM : MS E μ s H locs) {N : Nat} {x0 x1 v : Int} (hc : f_X4_copyFrom N x0 x1 μ = some (v, μ1)) (hck : μ x0 (-2) = 6) (h1 : Cond.methodLink own index yX4_copyFrom ∈ bigL) (hR : 1 ≤ R.frames ∧ 21 ≤ R.locals) (hl : ls.size = nL) (hcat : RC rest 8) (hf : cells + 0 ≤ R.cells ∧ slots + 0 ≤ R.slots) (hdg : decode cc pc = .ok (.invokevirtual index, 3)) (kk : True → ∀ (H1 : Heap) (locs1 : List Loc), MS E μ1 s H1 locs1 → W p l e R s m args below meth c H1 locs1 (cells + 0) (slots + 0) Q (F0 m (pc + 3) ls rest)) : W p l e R s m args below meth c H locs cells slots Q (F0 m pc ls (vr E x1 :: vr E x0 :: rest)) := g_callV C KF_X4 hM (c_X4_copyFrom l E N x0 x1 μ μ1 v hc) hck (gV h1 bw_2_110 bw_2_111 bw_1_4 bw_2_112) ⟨rfl, hd_X4_copyFrom⟩ hR rfl hl rfl hcat hf hdg kk
/-! X2_copyFrom -/
def f_X2_copyFrom (N : Nat) (x0 x1 : Int) (μ : Mm) : Rs :=
  ck (μ x1 (-2) = 4) <|
  ck (μ x0 (-2) = 4) <|
  nm (mset μ x0 0 (μ x1 0)) fun μ3 =>
  ck (μ3 x1 (-2) = 4) <|
  ck (μ3 x0 (-2) = 4) <|
  nm (mset μ3 x0 1 (μ3 x1 1)) fun μ6 =>
  ck (μ6 x1 (-2) = 4) <|
  ck (μ6 x0 (-2) = 4) <|
  nm (mset μ6 x0 2 (μ6 x1 2)) fun μ9 =>
  ck (μ9 x1 (-2) = 4) <|
  ck (μ9 x0 (-2) = 4) <|
  nm (mset μ9 x0 3 (μ9 x1 3)) fun μ12 =>
  ck (μ12 x1 (-2) = 4) <|
  ck (μ12 x0 (-2) = 4) <|
  nm (mset μ12 x0 4 (μ12 x1 4)) fun μ15 =>
  ck (μ15 x1 (-2) = 4) <|
  ck (μ15 x0 (-2) = 4) <|
  nm (mset μ15 x0 5 (μ15 x1 5)) fun μ18 =>
  ck (μ18 x1 (-2) = 4) <|
  ck (μ18 x0 (-2) = 4) <|
  nm (mset μ18 x0 6 (μ18 x1 6)) fun μ21 =>
  ck (μ21 x1 (-2) = 4) <|
  ck (μ21 x0 (-2) = 4) <|
  nm (mset μ21 x0 7 (μ21 x1 7)) fun μ24 =>
  ck (μ24 x1 (-2) = 4) <|
  ck (μ24 x0 (-2) = 4) <|
  nm (mset μ24 x0 8 (μ24 x1 8)) fun μ27 =>
  ck (μ27 x1 (-2) = 4) <|
  ck (μ27 x0 (-2) = 4) <|
  nm (mset μ27 x0 9 (μ27 x1 9)) fun μ30 =>
  ck (μ30 x1 (-2) = 4) <|
  ck (μ30 x0 (-2) = 4) <|
  nm (mset μ30 x0 10 (μ30 x1 10)) fun μ33 =>
  some (0, μ33)
set_option maxHeartbeats 4000000 in
set_option maxRecDepth 100000 in
theorem c_X2_copyFrom (l : Launch) (E : gE) (N : Nat) (x0 x1 : Int) (μ μ' : Mm) (r : Int) (h : f_X2_copyFrom N x0 x1 μ = some (r, μ')) : gMet l E yX2_copyFrom cX2_copyFrom 2 none 0 0 [vr E x0, vr E x1] none True μ μ' 0 0 := by
  refine g_ofW [1, 1] (by first | (simp only [List.map_cons, List.map_nil, vr_cat]; done) | (simp only [List.map_cons, List.map_nil, vr_cat]; rfl)) (by decide) (by decide) (fun p e s m below meth c ls C hM hl => ?_)
  replace C : gCx p s m _ meth c cX2_copyFrom 2 none "copyFrom" RX2 := C
  replace hl : lv_has ls 2 [(0, vr E x0), (1, vr E x1)] := hl
  unfold f_X2_copyFrom at h
  refine m_aload_n (pc := 0) C dX2_copyFrom_0 rfl (lv_at hl 0 rfl) ?_
  refine m_aload_n (pc := 1) C dX2_copyFrom_1 rfl (lv_at hl 1 rfl) ?_
  obtain ⟨q1, h⟩ := ck_some h
  have gq1 := Gr_X2_owner hM q1
  refine G_X2_owner (pc := 2) C hM bw_1_98 q1 dX2_copyFrom_2 ?_
  obtain ⟨q2, h⟩ := ck_some h
  obtain ⟨μ3, eμ3, h⟩ := nm_some h
  refine P_X2_owner (pc := 5) C hM bw_1_98 q2 gq1 eμ3 dX2_copyFrom_5 (fun H locs hM => ?_)
  refine m_aload_n (pc := 8) C dX2_copyFrom_8 rfl (lv_at hl 0 rfl) ?_
  refine m_aload_n (pc := 9) C dX2_copyFrom_9 rfl (lv_at hl 1 rfl) ?_
  obtain ⟨q4, h⟩ := ck_some h
  have gq4 := Gr_X2_kind hM q4
  refine G_X2_kind (pc := 10) C hM bw_1_101 q4 dX2_copyFrom_10 ?_
  obtain ⟨q5, h⟩ := ck_some h
  obtain ⟨μ6, eμ6, h⟩ := nm_some h
  refine P_X2_kind (pc := 13) C hM bw_1_101 q5 gq4 eμ6 dX2_copyFrom_13 (fun H locs hM => ?_)
  refine m_aload_n (pc := 16) C dX2_copyFrom_16 rfl (lv_at hl 0 rfl) ?_
  refine m_aload_n (pc := 17) C dX2_copyFrom_17 rfl (lv_at hl 1 rfl) ?_
  obtain ⟨q7, h⟩ := ck_some h
  have gq7 := Gr_X2_quantity hM q7
  refine G_X2_quantity (pc := 18) C hM bw_1_103 q7 dX2_copyFrom_18 ?_
  obtain ⟨q8, h⟩ := ck_some h
  obtain ⟨μ9, eμ9, h⟩ := nm_some h
  refine P_X2_quantity (pc := 21) C hM bw_1_103 q8 gq7 eμ9 dX2_copyFrom_21 (fun H locs hM => ?_)
  refine m_aload_n (pc := 24) C dX2_copyFrom_24 rfl (lv_at hl 0 rfl) ?_
  refine m_aload_n (pc := 25) C dX2_copyFrom_25 rfl (lv_at hl 1 rfl) ?_
  obtain ⟨q10, h⟩ := ck_some h
  have gq10 := Gr_X2_value hM q10
  refine G_X2_value (pc := 26) C hM bw_1_106 q10 dX2_copyFrom_26 ?_
  obtain ⟨q11, h⟩ := ck_some h
  obtain ⟨μ12, eμ12, h⟩ := nm_some h
  refine P_X2_value (pc := 29) C hM bw_1_106 q11 gq10 eμ12 dX2_copyFrom_29 (fun H locs hM => ?_)
  refine m_aload_n (pc := 32) C dX2_copyFrom_32 rfl (lv_at hl 0 rfl) ?_
  refine m_aload_n (pc := 33) C dX2_copyFrom_33 rfl (lv_at hl 1 rfl) ?_
  obtain ⟨q13, h⟩ := ck_some h
  have gq13 := Gr_X2_entered hM q13
  refine G_X2_entered (pc := 34) C hM bw_1_108 q13 dX2_copyFrom_34 ?_
  obtain ⟨q14, h⟩ := ck_some h
  obtain ⟨μ15, eμ15, h⟩ := nm_some h
  refine P_X2_entered (pc := 37) C hM bw_1_108 q14 gq13 eμ15 dX2_copyFrom_37 (fun H locs hM => ?_)
  refine m_aload_n (pc := 40) C dX2_copyFrom_40 rfl (lv_at hl 0 rfl) ?_
  refine m_aload_n (pc := 41) C dX2_copyFrom_41 rfl (lv_at hl 1 rfl) ?_
  obtain ⟨q16, h⟩ := ck_some h
  have gq16 := Gr_X2_deadline hM q16
  refine G_X2_deadline (pc := 42) C hM bw_1_110 q16 dX2_copyFrom_42 ?_
  obtain ⟨q17, h⟩ := ck_some h
  obtain ⟨μ18, eμ18, h⟩ := nm_some h
  refine P_X2_deadline (pc := 45) C hM bw_1_110 q17 gq16 eμ18 dX2_copyFrom_45 (fun H locs hM => ?_)
  refine m_aload_n (pc := 48) C dX2_copyFrom_48 rfl (lv_at hl 0 rfl) ?_
  refine m_aload_n (pc := 49) C dX2_copyFrom_49 rfl (lv_at hl 1 rfl) ?_
  obtain ⟨q19, h⟩ := ck_some h
  have gq19 := Gr_X2_due hM q19
  refine G_X2_due (pc := 50) C hM bw_1_112 q19 dX2_copyFrom_50 ?_
  obtain ⟨q20, h⟩ := ck_some h
  obtain ⟨μ21, eμ21, h⟩ := nm_some h
  refine P_X2_due (pc := 53) C hM bw_1_112 q20 gq19 eμ21 dX2_copyFrom_53 (fun H locs hM => ?_)
  refine m_aload_n (pc := 56) C dX2_copyFrom_56 rfl (lv_at hl 0 rfl) ?_
  refine m_aload_n (pc := 57) C dX2_copyFrom_57 rfl (lv_at hl 1 rfl) ?_
  obtain ⟨q22, h⟩ := ck_some h
  have gq22 := Gr_X2_stored hM q22
  refine G_X2_stored (pc := 58) C hM bw_1_114 q22 dX2_copyFrom_58 ?_
  obtain ⟨q23, h⟩ := ck_some h
  obtain ⟨μ24, eμ24, h⟩ := nm_some h
  refine P_X2_stored (pc := 61) C hM bw_1_114 q23 gq22 eμ24 dX2_copyFrom_61 (fun H locs hM => ?_)
  refine m_aload_n (pc := 64) C dX2_copyFrom_64 rfl (lv_at hl 0 rfl) ?_
  refine m_aload_n (pc := 65) C dX2_copyFrom_65 rfl (lv_at hl 1 rfl) ?_
  obtain ⟨q25, h⟩ := ck_some h
  have gq25 := Gr_X2_paid hM q25
  refine G_X2_paid (pc := 66) C hM bw_1_117 q25 dX2_copyFrom_66 ?_
  obtain ⟨q26, h⟩ := ck_some h
  obtain ⟨μ27, eμ27, h⟩ := nm_some h
  refine P_X2_paid (pc := 69) C hM bw_1_117 q26 gq25 eμ27 dX2_copyFrom_69 (fun H locs hM => ?_)
  refine m_aload_n (pc := 72) C dX2_copyFrom_72 rfl (lv_at hl 0 rfl) ?_
  refine m_aload_n (pc := 73) C dX2_copyFrom_73 rfl (lv_at hl 1 rfl) ?_
  obtain ⟨q28, h⟩ := ck_some h
  have gq28 := Gr_X2_discharged hM q28
  refine G_X2_discharged (pc := 74) C hM bw_1_120 q28 dX2_copyFrom_74 ?_
  obtain ⟨q29, h⟩ := ck_some h
  obtain ⟨μ30, eμ30, h⟩ := nm_some h
  refine P_X2_discharged (pc := 77) C hM bw_1_120 q29 gq28 eμ30 dX2_copyFrom_77 (fun H locs hM => ?_)
  refine m_aload_n (pc := 80) C dX2_copyFrom_80 rfl (lv_at hl 0 rfl) ?_
  refine m_aload_n (pc := 81) C dX2_copyFrom_81 rfl (lv_at hl 1 rfl) ?_
  obtain ⟨q31, h⟩ := ck_some h
  have gq31 := Gr_X2_sampled hM q31
  refine G_X2_sampled (pc := 82) C hM bw_1_122 q31 dX2_copyFrom_82 ?_
  obtain ⟨q32, h⟩ := ck_some h
  obtain ⟨μ33, eμ33, h⟩ := nm_some h
  refine P_X2_sampled (pc := 85) C hM bw_1_122 q32 gq31 eμ33 dX2_copyFrom_85 (fun H locs hM => ?_)
  cases h
  exact m_vret (pc := 88) C hM trivial dX2_copyFrom_88
theorem hd_X2_copyFrom : yX2_copyFrom.cls ≠ "java/lang/invoke/MethodHandle" ∧ yX2_copyFrom.cls ≠ "java/lang/invoke/VarHandle" ∧ (parseMethodDescriptor yX2_copyFrom.desc).map (fun d => d.parameters.length) = some 1 := by decide +kernel

theorem V_X2_copyFrom {p : Program} {l : Launch} {e : Env} {R : Room} {s : State} {m : MethodId} {args : Array Value} {below : List Frame} {meth : Method} {c : Code} {H : Heap} {locs : List Loc} {cells slots : Nat} {Q : State → Prop} {cc : ByteArray} {pc nL : Nat} {ls : Array Slot} {rest : List Value} {ret : Option FieldType} {nmm own : String} {E : gE} {μ μ1 : Mm} {index : Nat} (C : gCx p s m args meth c cc nL ret nmm own) (hM : MS E μ s H locs) {N : Nat} {x0 x1 v : Int} (hc : f_X2_copyFrom N x0 x1 μ = some (v, μ1)) (hck : μ x0 (-2) = 4) (h1 : Cond.methodLink own index yX2_copyFrom ∈ bigL) (hR : 1 ≤ R.frames ∧ 21 ≤ R.locals) (hl : ls.size = nL) (hcat : RC rest 8) (hf : cells + 0 ≤ R.cells ∧ slots + 0 ≤ R.slots) (hdg : decode cc pc = .ok (.invokevirtual index, 3)) (kk : True → ∀ (H1 : Heap) (locs1 : List Loc), MS E μ1 s H1 locs1 → W p l e R s m args below meth c H1 locs1 (cells + 0) (slots + 0) Q (F0 m (pc + 3) ls rest)) : W p l e R s m args below meth c H locs cells slots Q (F0 m pc ls (vr E x1 :: vr E x0 :: rest)) := g_callV C KF_X2 hM (c_X2_copyFrom l E N x0 x1 μ μ1 v hc) hck (gV h1 bw_2_114 bw_2_115 bw_1_5 bw_2_116) ⟨rfl, hd_X2_copyFrom⟩ hR rfl hl rfl hcat hf hdg kk
/-! X6_copyFrom -/
def f_X6_copyFrom_b70 (N : Nat) : Nat → Int → Int → Int → Mm → Rs
  | 0, _, _, _, _ => none
  | n + 1, x0, x1, x2, μ =>
    if 30 ≤ x2 then
      (ck (μ x1 (-2) = 8) <|
       ck (μ x0 (-2) = 8) <|
       nm (mset μ x0 4 (μ x1 4)) fun μ4 =>
       ck (μ4 x1 (-2) = 8) <|
       ck (μ4 x0 (-2) = 8) <|
       nm (mset μ4 x0 5 (μ4 x1 5)) fun μ7 =>
       ck (μ7 x1 (-2) = 8) <|
       ck (μ7 x0 (-2) = 8) <|
       nm (mset μ7 x0 6 (μ7 x1 6)) fun μ10 =>
       ck (μ10 x1 (-2) = 8) <|
       ck (μ10 x0 (-2) = 8) <|
       nm (mset μ10 x0 7 (μ10 x1 7)) fun μ13 =>
       ck (μ13 x1 (-2) = 8) <|
       ck (μ13 x0 (-2) = 8) <|
       nm (mset μ13 x0 8 (μ13 x1 8)) fun μ16 =>
       ck (μ16 x1 (-2) = 8) <|
       ck (μ16 x0 (-2) = 8) <|
       nm (mset μ16 x0 9 (μ16 x1 9)) fun μ19 =>
       ck (μ19 x1 (-2) = 8) <|
       ck (μ19 x0 (-2) = 8) <|
       nm (mset μ19 x0 10 (μ19 x1 10)) fun μ22 =>
       some (0, μ22))
    else
    ck (μ x0 (-2) = 8) <|
    ck (μ (μ x0 3) (-2) = 29 ∧ (0 : Int) ≤ x2 ∧ x2 < μ (μ x0 3) (-1)) <|
    ck (μ x1 (-2) = 8) <|
    ck (μ (μ x1 3) (-2) = 29 ∧ (0 : Int) ≤ x2 ∧ x2 < μ (μ x1 3) (-1)) <|
    ck (μ (μ (μ x0 3) x2) (-2) = 2) <|
    bd (f_X0_copyFrom N (μ (μ x0 3) x2) (μ (μ x1 3) x2) μ) fun a28 μ29 =>
    nm (w32 (x2 + 1)) fun a30 =>
    f_X6_copyFrom_b70 N n x0 x1 a30 μ29
def f_X6_copyFrom_b41 (N : Nat) : Nat → Int → Int → Int → Mm → Rs
  | 0, _, _, _, _ => none
  | n + 1, x0, x1, x2, μ =>
    if 30 ≤ x2 then
      (f_X6_copyFrom_b70 N N x0 x1 0 μ)
    else
    ck (μ x0 (-2) = 8) <|
    ck (μ (μ x0 2) (-2) = 28 ∧ (0 : Int) ≤ x2 ∧ x2 < μ (μ x0 2) (-1)) <|
    ck (μ x1 (-2) = 8) <|
    ck (μ (μ x1 2) (-2) = 28 ∧ (0 : Int) ≤ x2 ∧ x2 < μ (μ x1 2) (-1)) <|
    ck (μ (μ (μ x0 2) x2) (-2) = 4) <|
    bd (f_X2_copyFrom N (μ (μ x0 2) x2) (μ (μ x1 2) x2) μ) fun a7 μ8 =>
    nm (w32 (x2 + 1)) fun a9 =>
    f_X6_copyFrom_b41 N n x0 x1 a9 μ8
def f_X6_copyFrom_b13 (N : Nat) : Nat → Int → Int → Int → Mm → Rs
  | 0, _, _, _, _ => none
  | n + 1, x0, x1, x2, μ =>
    if 5 ≤ x2 then
      (f_X6_copyFrom_b41 N N x0 x1 0 μ)
    else
    ck (μ x0 (-2) = 8) <|
    ck (μ (μ x0 1) (-2) = 27 ∧ (0 : Int) ≤ x2 ∧ x2 < μ (μ x0 1) (-1)) <|
    ck (μ x1 (-2) = 8) <|
    ck (μ (μ x1 1) (-2) = 27 ∧ (0 : Int) ≤ x2 ∧ x2 < μ (μ x1 1) (-1)) <|
    ck (μ (μ (μ x0 1) x2) (-2) = 6) <|
    bd (f_X4_copyFrom N (μ (μ x0 1) x2) (μ (μ x1 1) x2) μ) fun a7 μ8 =>
    nm (w32 (x2 + 1)) fun a9 =>
    f_X6_copyFrom_b13 N n x0 x1 a9 μ8
def f_X6_copyFrom (N : Nat) (x0 x1 : Int) (μ : Mm) : Rs :=
  ck (μ x0 (-2) = 8) <|
  ck (μ x1 (-2) = 8) <|
  ck (μ (μ x0 0) (-2) = 7) <|
  bd (f_X5_copyFrom N (μ x0 0) (μ x1 0) μ) fun a4 μ5 =>
  f_X6_copyFrom_b13 N N x0 x1 0 μ5
set_option maxHeartbeats 4000000 in
set_option maxRecDepth 100000 in
theorem k_X6_copyFrom_b70 (C : gCx p s m args meth c cX6_copyFrom 3 none "copyFrom" RX6) (N : Nat) {r : Int} {μ' : Mm} : ∀ (n : Nat), ∀ (x0 x1 x2 : Int) (μ : Mm), f_X6_copyFrom_b70 N n x0 x1 x2 μ = some (r, μ') → R32 x2 → ∀ (H : Heap) (locs : List Loc) (ls : Array Slot), MS E μ s H locs → lv_has ls 3 [(0, vr E x0), (1, vr E x1), (2, vi x2)] → W p l e ({ frames := 2, cells := 0, slots := 0, locals := 61 } : Room) s m args below meth c H locs 0 0 (MQ below (gQ E none True μ') args s 0 0 (gA E)) (F0 m 70 ls []) := by
  intro n
  induction n with
  | zero => intro x0 x1 x2 μ h; simp [f_X6_copyFrom_b70] at h
  | succ n ih =>
    intro x0 x1 x2 μ h rx2 H locs ls hM hl
    rw [f_X6_copyFrom_b70] at h
    refine m_iload_n (pc := 70) C dX6_copyFrom_70 rfl (lv_at hl 2 rfl) ?_
    refine m_bipush (pc := 71) C dX6_copyFrom_71 rfl ?_
    refine m_icmp_ge (tgt := 97) (pc := 73) C rx2 rk_30 dX6_copyFrom_73 (by decide) (fun c1 => ?_) (fun c1 => ?_)
    · have h := if_t h c1
      refine m_aload_n (pc := 97) C dX6_copyFrom_97 rfl (lv_at hl 0 rfl) ?_
      refine m_aload_n (pc := 98) C dX6_copyFrom_98 rfl (lv_at hl 1 rfl) ?_
      obtain ⟨q2, h⟩ := ck_some h
      have gq2 := Gr_X6_ownerCount hM q2
      refine G_X6_ownerCount (pc := 99) C hM bw_1_188 q2 dX6_copyFrom_99 ?_
      obtain ⟨q3, h⟩ := ck_some h
      obtain ⟨μ4, eμ4, h⟩ := nm_some h
      refine P_X6_ownerCount (pc := 102) C hM bw_1_188 q3 gq2 eμ4 dX6_copyFrom_102 (fun H locs hM => ?_)
      refine m_aload_n (pc := 105) C dX6_copyFrom_105 rfl (lv_at hl 0 rfl) ?_
      refine m_aload_n (pc := 106) C dX6_copyFrom_106 rfl (lv_at hl 1 rfl) ?_
      obtain ⟨q5, h⟩ := ck_some h
      have gq5 := Gr_X6_lotCount hM q5
      refine G_X6_lotCount (pc := 107) C hM bw_1_189 q5 dX6_copyFrom_107 ?_
      obtain ⟨q6, h⟩ := ck_some h
      obtain ⟨μ7, eμ7, h⟩ := nm_some h
      refine P_X6_lotCount (pc := 110) C hM bw_1_189 q6 gq5 eμ7 dX6_copyFrom_110 (fun H locs hM => ?_)
      refine m_aload_n (pc := 113) C dX6_copyFrom_113 rfl (lv_at hl 0 rfl) ?_
      refine m_aload_n (pc := 114) C dX6_copyFrom_114 rfl (lv_at hl 1 rfl) ?_
      obtain ⟨q8, h⟩ := ck_some h
      have gq8 := Gr_X6_exportCount hM q8
      refine G_X6_exportCount (pc := 115) C hM bw_1_191 q8 dX6_copyFrom_115 ?_
      obtain ⟨q9, h⟩ := ck_some h
      obtain ⟨μ10, eμ10, h⟩ := nm_some h
      refine P_X6_exportCount (pc := 118) C hM bw_1_191 q9 gq8 eμ10 dX6_copyFrom_118 (fun H locs hM => ?_)
      refine m_aload_n (pc := 121) C dX6_copyFrom_121 rfl (lv_at hl 0 rfl) ?_
      refine m_aload_n (pc := 122) C dX6_copyFrom_122 rfl (lv_at hl 1 rfl) ?_
      obtain ⟨q11, h⟩ := ck_some h
      have gq11 := Gr_X6_seizedLots hM q11
      refine G_X6_seizedLots (pc := 123) C hM bw_1_193 q11 dX6_copyFrom_123 ?_
      obtain ⟨q12, h⟩ := ck_some h
      obtain ⟨μ13, eμ13, h⟩ := nm_some h
      refine P_X6_seizedLots (pc := 126) C hM bw_1_193 q12 gq11 eμ13 dX6_copyFrom_126 (fun H locs hM => ?_)
      refine m_aload_n (pc := 129) C dX6_copyFrom_129 rfl (lv_at hl 0 rfl) ?_
      refine m_aload_n (pc := 130) C dX6_copyFrom_130 rfl (lv_at hl 1 rfl) ?_
      obtain ⟨q14, h⟩ := ck_some h
      have gq14 := Gr_X6_day hM q14
      refine G_X6_day (pc := 131) C hM bw_1_195 q14 dX6_copyFrom_131 ?_
      obtain ⟨q15, h⟩ := ck_some h
      obtain ⟨μ16, eμ16, h⟩ := nm_some h
      refine P_X6_day (pc := 134) C hM bw_1_195 q15 gq14 eμ16 dX6_copyFrom_134 (fun H locs hM => ?_)
      refine m_aload_n (pc := 137) C dX6_copyFrom_137 rfl (lv_at hl 0 rfl) ?_
      refine m_aload_n (pc := 138) C dX6_copyFrom_138 rfl (lv_at hl 1 rfl) ?_
      obtain ⟨q17, h⟩ := ck_some h
      have gq17 := Gr_X6_fees hM q17
      refine G_X6_fees (pc := 139) C hM bw_1_197 q17 dX6_copyFrom_139 ?_
      obtain ⟨q18, h⟩ := ck_some h
      obtain ⟨μ19, eμ19, h⟩ := nm_some h
      refine P_X6_fees (pc := 142) C hM bw_1_197 q18 gq17 eμ19 dX6_copyFrom_142 (fun H locs hM => ?_)
      refine m_aload_n (pc := 145) C dX6_copyFrom_145 rfl (lv_at hl 0 rfl) ?_
      refine m_aload_n (pc := 146) C dX6_copyFrom_146 rfl (lv_at hl 1 rfl) ?_
      obtain ⟨q20, h⟩ := ck_some h
      have gq20 := Gr_X6_deposits hM q20
      refine G_X6_deposits (pc := 147) C hM bw_1_199 q20 dX6_copyFrom_147 ?_
      obtain ⟨q21, h⟩ := ck_some h
      obtain ⟨μ22, eμ22, h⟩ := nm_some h
      refine P_X6_deposits (pc := 150) C hM bw_1_199 q21 gq20 eμ22 dX6_copyFrom_150 (fun H locs hM => ?_)
      cases h
      exact m_vret (pc := 153) C hM trivial dX6_copyFrom_153
    · have h := if_f h c1
      refine m_aload_n (pc := 76) C dX6_copyFrom_76 rfl (lv_at hl 0 rfl) ?_
      obtain ⟨q23, h⟩ := ck_some h
      refine G_X6_exports (pc := 77) C hM bw_1_185 q23 dX6_copyFrom_77 ?_
      refine m_iload_n (pc := 80) C dX6_copyFrom_80 rfl (lv_at hl 2 rfl) ?_
      obtain ⟨q24, h⟩ := ck_some h
      refine m_aald (pc := 81) C hM q24.1 (by decide) (by decide) q24.2.1 q24.2.2 dX6_copyFrom_81 ?_
      refine m_aload_n (pc := 82) C dX6_copyFrom_82 rfl (lv_at hl 1 rfl) ?_
      obtain ⟨q25, h⟩ := ck_some h
      refine G_X6_exports (pc := 83) C hM bw_1_185 q25 dX6_copyFrom_83 ?_
      refine m_iload_n (pc := 86) C dX6_copyFrom_86 rfl (lv_at hl 2 rfl) ?_
      obtain ⟨q26, h⟩ := ck_some h
      refine m_aald (pc := 87) C hM q26.1 (by decide) (by decide) q26.2.1 q26.2.2 dX6_copyFrom_87 ?_
      obtain ⟨q27, h⟩ := ck_some h
      obtain ⟨a28, μ29, ca28, h⟩ := bd_some h
      refine V_X0_copyFrom (pc := 88) C hM ca28 q27 bw_2_117 ⟨Nat.le_of_ble_eq_true rfl, Nat.le_of_ble_eq_true rfl⟩ hl.1 rc0 ⟨Nat.le_refl _, Nat.le_refl _⟩ dX6_copyFrom_88 (fun _ H locs hM => ?_)
      obtain ⟨a30, ea30, h⟩ := nm_some h
      have ra30 : R32 a30 := by rw [ea30]; exact w32_R _
      refine m_iinc (k := 2) (pc := 91) C dX6_copyFrom_91 hl rfl (by decide) ea30 (lvK1 0 rfl (Nat.ne_of_beq_eq_false rfl) (Nat.ne_of_beq_eq_false rfl) (lvK2 1 rfl (Nat.ne_of_beq_eq_false rfl) (vr_cat _ _) lvK0)) (fun ls hl => ?_)
      refine m_goto (tgt := 70) (pc := 94) C dX6_copyFrom_94 (by decide) ?_
      exact ih _ _ _ _ h ra30 _ _ _ hM (lv_sub hl [1, 2, 0] rfl)
set_option maxHeartbeats 4000000 in
set_option maxRecDepth 100000 in
theorem k_X6_copyFrom_b41 (C : gCx p s m args meth c cX6_copyFrom 3 none "copyFrom" RX6) (N : Nat) {r : Int} {μ' : Mm} : ∀ (n : Nat), ∀ (x0 x1 x2 : Int) (μ : Mm), f_X6_copyFrom_b41 N n x0 x1 x2 μ = some (r, μ') → R32 x2 → ∀ (H : Heap) (locs : List Loc) (ls : Array Slot), MS E μ s H locs → lv_has ls 3 [(0, vr E x0), (1, vr E x1), (2, vi x2)] → W p l e ({ frames := 2, cells := 0, slots := 0, locals := 61 } : Room) s m args below meth c H locs 0 0 (MQ below (gQ E none True μ') args s 0 0 (gA E)) (F0 m 41 ls []) := by
  intro n
  induction n with
  | zero => intro x0 x1 x2 μ h; simp [f_X6_copyFrom_b41] at h
  | succ n ih =>
    intro x0 x1 x2 μ h rx2 H locs ls hM hl
    rw [f_X6_copyFrom_b41] at h
    refine m_iload_n (pc := 41) C dX6_copyFrom_41 rfl (lv_at hl 2 rfl) ?_
    refine m_bipush (pc := 42) C dX6_copyFrom_42 rfl ?_
    refine m_icmp_ge (tgt := 68) (pc := 44) C rx2 rk_30 dX6_copyFrom_44 (by decide) (fun c1 => ?_) (fun c1 => ?_)
    · have h := if_t h c1
      refine m_iconst (pc := 68) C dX6_copyFrom_68 ?_
      refine m_istore_n (pc := 69) C dX6_copyFrom_69 rfl hl (by decide) (lvK1 0 rfl (Nat.ne_of_beq_eq_false rfl) (Nat.ne_of_beq_eq_false rfl) (lvK2 1 rfl (Nat.ne_of_beq_eq_false rfl) (vr_cat _ _) lvK0)) (fun ls hl => ?_)
      exact k_X6_copyFrom_b70 C N N _ _ _ _ h rk_0 _ _ _ hM (lv_sub hl [1, 2, 0] rfl)
    · have h := if_f h c1
      refine m_aload_n (pc := 47) C dX6_copyFrom_47 rfl (lv_at hl 0 rfl) ?_
      obtain ⟨q2, h⟩ := ck_some h
      refine G_X6_lots (pc := 48) C hM bw_1_183 q2 dX6_copyFrom_48 ?_
      refine m_iload_n (pc := 51) C dX6_copyFrom_51 rfl (lv_at hl 2 rfl) ?_
      obtain ⟨q3, h⟩ := ck_some h
      refine m_aald (pc := 52) C hM q3.1 (by decide) (by decide) q3.2.1 q3.2.2 dX6_copyFrom_52 ?_
      refine m_aload_n (pc := 53) C dX6_copyFrom_53 rfl (lv_at hl 1 rfl) ?_
      obtain ⟨q4, h⟩ := ck_some h
      refine G_X6_lots (pc := 54) C hM bw_1_183 q4 dX6_copyFrom_54 ?_
      refine m_iload_n (pc := 57) C dX6_copyFrom_57 rfl (lv_at hl 2 rfl) ?_
      obtain ⟨q5, h⟩ := ck_some h
      refine m_aald (pc := 58) C hM q5.1 (by decide) (by decide) q5.2.1 q5.2.2 dX6_copyFrom_58 ?_
      obtain ⟨q6, h⟩ := ck_some h
      obtain ⟨a7, μ8, ca7, h⟩ := bd_some h
      refine V_X2_copyFrom (pc := 59) C hM ca7 q6 bw_2_113 ⟨Nat.le_of_ble_eq_true rfl, Nat.le_of_ble_eq_true rfl⟩ hl.1 rc0 ⟨Nat.le_refl _, Nat.le_refl _⟩ dX6_copyFrom_59 (fun _ H locs hM => ?_)
      obtain ⟨a9, ea9, h⟩ := nm_some h
      have ra9 : R32 a9 := by rw [ea9]; exact w32_R _
      refine m_iinc (k := 2) (pc := 62) C dX6_copyFrom_62 hl rfl (by decide) ea9 (lvK1 0 rfl (Nat.ne_of_beq_eq_false rfl) (Nat.ne_of_beq_eq_false rfl) (lvK2 1 rfl (Nat.ne_of_beq_eq_false rfl) (vr_cat _ _) lvK0)) (fun ls hl => ?_)
      refine m_goto (tgt := 41) (pc := 65) C dX6_copyFrom_65 (by decide) ?_
      exact ih _ _ _ _ h ra9 _ _ _ hM (lv_sub hl [1, 2, 0] rfl)
set_option maxHeartbeats 4000000 in
set_option maxRecDepth 100000 in
theorem k_X6_copyFrom_b13 (C : gCx p s m args meth c cX6_copyFrom 3 none "copyFrom" RX6) (N : Nat) {r : Int} {μ' : Mm} : ∀ (n : Nat), ∀ (x0 x1 x2 : Int) (μ : Mm), f_X6_copyFrom_b13 N n x0 x1 x2 μ = some (r, μ') → R32 x2 → ∀ (H : Heap) (locs : List Loc) (ls : Array Slot), MS E μ s H locs → lv_has ls 3 [(0, vr E x0), (1, vr E x1), (2, vi x2)] → W p l e ({ frames := 2, cells := 0, slots := 0, locals := 61 } : Room) s m args below meth c H locs 0 0 (MQ below (gQ E none True μ') args s 0 0 (gA E)) (F0 m 13 ls []) := by
  intro n
  induction n with
  | zero => intro x0 x1 x2 μ h; simp [f_X6_copyFrom_b13] at h
  | succ n ih =>
    intro x0 x1 x2 μ h rx2 H locs ls hM hl
    rw [f_X6_copyFrom_b13] at h
    refine m_iload_n (pc := 13) C dX6_copyFrom_13 rfl (lv_at hl 2 rfl) ?_
    refine m_iconst (pc := 14) C dX6_copyFrom_14 ?_
    refine m_icmp_ge (tgt := 39) (pc := 15) C rx2 rk_5 dX6_copyFrom_15 (by decide) (fun c1 => ?_) (fun c1 => ?_)
    · have h := if_t h c1
      refine m_iconst (pc := 39) C dX6_copyFrom_39 ?_
      refine m_istore_n (pc := 40) C dX6_copyFrom_40 rfl hl (by decide) (lvK1 0 rfl (Nat.ne_of_beq_eq_false rfl) (Nat.ne_of_beq_eq_false rfl) (lvK2 1 rfl (Nat.ne_of_beq_eq_false rfl) (vr_cat _ _) lvK0)) (fun ls hl => ?_)
      exact k_X6_copyFrom_b41 C N N _ _ _ _ h rk_0 _ _ _ hM (lv_sub hl [1, 2, 0] rfl)
    · have h := if_f h c1
      refine m_aload_n (pc := 18) C dX6_copyFrom_18 rfl (lv_at hl 0 rfl) ?_
      obtain ⟨q2, h⟩ := ck_some h
      refine G_X6_owners (pc := 19) C hM bw_1_182 q2 dX6_copyFrom_19 ?_
      refine m_iload_n (pc := 22) C dX6_copyFrom_22 rfl (lv_at hl 2 rfl) ?_
      obtain ⟨q3, h⟩ := ck_some h
      refine m_aald (pc := 23) C hM q3.1 (by decide) (by decide) q3.2.1 q3.2.2 dX6_copyFrom_23 ?_
      refine m_aload_n (pc := 24) C dX6_copyFrom_24 rfl (lv_at hl 1 rfl) ?_
      obtain ⟨q4, h⟩ := ck_some h
      refine G_X6_owners (pc := 25) C hM bw_1_182 q4 dX6_copyFrom_25 ?_
      refine m_iload_n (pc := 28) C dX6_copyFrom_28 rfl (lv_at hl 2 rfl) ?_
      obtain ⟨q5, h⟩ := ck_some h
      refine m_aald (pc := 29) C hM q5.1 (by decide) (by decide) q5.2.1 q5.2.2 dX6_copyFrom_29 ?_
      obtain ⟨q6, h⟩ := ck_some h
      obtain ⟨a7, μ8, ca7, h⟩ := bd_some h
      refine V_X4_copyFrom (pc := 30) C hM ca7 q6 bw_2_109 ⟨Nat.le_of_ble_eq_true rfl, Nat.le_of_ble_eq_true rfl⟩ hl.1 rc0 ⟨Nat.le_refl _, Nat.le_refl _⟩ dX6_copyFrom_30 (fun _ H locs hM => ?_)
      obtain ⟨a9, ea9, h⟩ := nm_some h
      have ra9 : R32 a9 := by rw [ea9]; exact w32_R _
      refine m_iinc (k := 2) (pc := 33) C dX6_copyFrom_33 hl rfl (by decide) ea9 (lvK1 0 rfl (Nat.ne_of_beq_eq_false rfl) (Nat.ne_of_beq_eq_false rfl) (lvK2 1 rfl (Nat.ne_of_beq_eq_false rfl) (vr_cat _ _) lvK0)) (fun ls hl => ?_)
      refine m_goto (tgt := 13) (pc := 36) C dX6_copyFrom_36 (by decide) ?_
      exact ih _ _ _ _ h ra9 _ _ _ hM (lv_sub hl [1, 2, 0] rfl)
set_option maxHeartbeats 4000000 in
set_option maxRecDepth 100000 in
theorem c_X6_copyFrom (l : Launch) (E : gE) (N : Nat) (x0 x1 : Int) (μ μ' : Mm) (r : Int) (h : f_X6_copyFrom N x0 x1 μ = some (r, μ')) : gMet l E yX6_copyFrom cX6_copyFrom 3 none 2 61 [vr E x0, vr E x1] none True μ μ' 0 0 := by
  refine g_ofW [1, 1] (by first | (simp only [List.map_cons, List.map_nil, vr_cat]; done) | (simp only [List.map_cons, List.map_nil, vr_cat]; rfl)) (by decide) (by decide) (fun p e s m below meth c ls C hM hl => ?_)
  replace C : gCx p s m _ meth c cX6_copyFrom 3 none "copyFrom" RX6 := C
  replace hl : lv_has ls 3 [(0, vr E x0), (1, vr E x1)] := hl
  unfold f_X6_copyFrom at h
  refine m_aload_n (pc := 0) C dX6_copyFrom_0 rfl (lv_at hl 0 rfl) ?_
  obtain ⟨q1, h⟩ := ck_some h
  refine G_X6_settings (pc := 1) C hM bw_1_180 q1 dX6_copyFrom_1 ?_
  refine m_aload_n (pc := 4) C dX6_copyFrom_4 rfl (lv_at hl 1 rfl) ?_
  obtain ⟨q2, h⟩ := ck_some h
  refine G_X6_settings (pc := 5) C hM bw_1_180 q2 dX6_copyFrom_5 ?_
  obtain ⟨q3, h⟩ := ck_some h
  obtain ⟨a4, μ5, ca4, h⟩ := bd_some h
  refine V_X5_copyFrom (pc := 8) C hM ca4 q3 bw_2_102 ⟨Nat.le_of_ble_eq_true rfl, Nat.le_of_ble_eq_true rfl⟩ hl.1 rc0 ⟨Nat.le_refl _, Nat.le_refl _⟩ dX6_copyFrom_8 (fun _ H locs hM => ?_)
  refine m_iconst (pc := 11) C dX6_copyFrom_11 ?_
  refine m_istore_n (pc := 12) C dX6_copyFrom_12 rfl hl (by decide) (lvK1 0 rfl (Nat.ne_of_beq_eq_false rfl) (Nat.ne_of_beq_eq_false rfl) (lvK2 1 rfl (Nat.ne_of_beq_eq_false rfl) (vr_cat _ _) lvK0)) (fun ls hl => ?_)
  exact k_X6_copyFrom_b13 C N N _ _ _ _ h rk_0 _ _ _ hM (lv_sub hl [1, 2, 0] rfl)
theorem hd_X6_copyFrom : yX6_copyFrom.cls ≠ "java/lang/invoke/MethodHandle" ∧ yX6_copyFrom.cls ≠ "java/lang/invoke/VarHandle" ∧ (parseMethodDescriptor yX6_copyFrom.desc).map (fun d => d.parameters.length) = some 1 := by decide +kernel

theorem V_X6_copyFrom {p : Program} {l : Launch} {e : Env} {R : Room} {s : State} {m : MethodId} {args : Array Value} {below : List Frame} {meth : Method} {c : Code} {H : Heap} {locs : List Loc} {cells slots : Nat} {Q : State → Prop} {cc : ByteArray} {pc nL : Nat} {ls : Array Slot} {rest : List Value} {ret : Option FieldType} {nmm own : String} {E : gE} {μ μ1 : Mm} {index : Nat} (C : gCx p s m args meth c cc nL ret nmm own) (hM : MS E μ s H locs) {N : Nat} {x0 x1 v : Int} (hc : f_X6_copyFrom N x0 x1 μ = some (v, μ1)) (hck : μ x0 (-2) = 8) (h1 : Cond.methodLink own index yX6_copyFrom ∈ bigL) (hR : 3 ≤ R.frames ∧ 83 ≤ R.locals) (hl : ls.size = nL) (hcat : RC rest 8) (hf : cells + 0 ≤ R.cells ∧ slots + 0 ≤ R.slots) (hdg : decode cc pc = .ok (.invokevirtual index, 3)) (kk : True → ∀ (H1 : Heap) (locs1 : List Loc), MS E μ1 s H1 locs1 → W p l e R s m args below meth c H1 locs1 (cells + 0) (slots + 0) Q (F0 m (pc + 3) ls rest)) : W p l e R s m args below meth c H locs cells slots Q (F0 m pc ls (vr E x1 :: vr E x0 :: rest)) := g_callV C KF_X6 hM (c_X6_copyFrom l E N x0 x1 μ μ1 v hc) hck (gV h1 bw_2_99 bw_2_100 bw_1_2 bw_2_101) ⟨rfl, hd_X6_copyFrom⟩ hR rfl hl rfl hcat hf hdg kk
end G00
