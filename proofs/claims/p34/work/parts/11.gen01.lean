section G01
variable {p : Program} {l : Launch} {e : Env} {R : Room} {s : State} {m : MethodId} {args : Array Value} {below : List Frame} {meth : Method} {c : Code} {E : gE}
/-! X1_prepare -/
def f_X1_prepare (N : Nat) (x0 x1 : Int) (μ : Mm) : Rs :=
  ck (μ x0 (-2) = 3) <|
  ck (μ x0 (-2) = 3) <|
  ck (μ x0 (-2) = 3) <|
  nm (w32 ((μ x0 1) + (μ x0 2))) fun a4 =>
  nm (o_rem a4 7) fun a5 =>
  ck (μ (μ x0 0) (-2) = 26 ∧ (0 : Int) ≤ a5 ∧ a5 < μ (μ x0 0) (-1)) <|
  ck (μ (μ (μ x0 0) a5) (-2) = 8) <|
  bd (f_X6_copyFrom N (μ (μ x0 0) a5) x1 μ) fun a9 μ10 =>
  some (0, μ10)
set_option maxHeartbeats 4000000 in
set_option maxRecDepth 100000 in
theorem c_X1_prepare (l : Launch) (E : gE) (N : Nat) (x0 x1 : Int) (μ μ' : Mm) (r : Int) (h : f_X1_prepare N x0 x1 μ = some (r, μ')) : gMet l E yX1_prepare cX1_prepare 2 none 3 83 [vr E x0, vr E x1] none True μ μ' 0 0 := by
  refine g_ofW [1, 1] (by first | (simp only [List.map_cons, List.map_nil, vr_cat]; done) | (simp only [List.map_cons, List.map_nil, vr_cat]; rfl)) (by decide) (by decide) (fun p e s m below meth c ls C hM hl => ?_)
  replace C : gCx p s m _ meth c cX1_prepare 2 none "prepare" RX1 := C
  replace hl : lv_has ls 2 [(0, vr E x0), (1, vr E x1)] := hl
  unfold f_X1_prepare at h
  refine m_aload_n (pc := 0) C dX1_prepare_0 rfl (lv_at hl 0 rfl) ?_
  obtain ⟨q1, h⟩ := ck_some h
  refine G_X1_rows (pc := 1) C hM bw_1_233 q1 dX1_prepare_1 ?_
  refine m_aload_n (pc := 4) C dX1_prepare_4 rfl (lv_at hl 0 rfl) ?_
  obtain ⟨q2, h⟩ := ck_some h
  have gq2 := Gr_X1_first hM q2
  refine G_X1_first (pc := 5) C hM bw_1_234 q2 dX1_prepare_5 ?_
  refine m_aload_n (pc := 8) C dX1_prepare_8 rfl (lv_at hl 0 rfl) ?_
  obtain ⟨q3, h⟩ := ck_some h
  have gq3 := Gr_X1_size hM q3
  refine G_X1_size (pc := 9) C hM bw_1_235 q3 dX1_prepare_9 ?_
  obtain ⟨a4, ea4, h⟩ := nm_some h
  have ra4 : R32 a4 := by rw [ea4]; exact w32_R _
  refine m_iadd (pc := 12) C dX1_prepare_12 ea4 ?_
  refine m_bipush (pc := 13) C dX1_prepare_13 rfl ?_
  obtain ⟨a5, ea5, h⟩ := nm_some h
  have ra5 : R32 a5 := by rw [ea5]; exact R32_of _
  refine m_irem (pc := 15) C rk_7 (by decide) dX1_prepare_15 ea5 ?_
  obtain ⟨q7, h⟩ := ck_some h
  refine m_aald (pc := 16) C hM q7.1 (by decide) (by decide) q7.2.1 q7.2.2 dX1_prepare_16 ?_
  refine m_aload_n (pc := 17) C dX1_prepare_17 rfl (lv_at hl 1 rfl) ?_
  obtain ⟨q8, h⟩ := ck_some h
  obtain ⟨a9, μ10, ca9, h⟩ := bd_some h
  refine V_X6_copyFrom (pc := 18) C hM ca9 q8 bw_2_98 ⟨Nat.le_of_ble_eq_true rfl, Nat.le_of_ble_eq_true rfl⟩ hl.1 rc0 ⟨Nat.le_refl _, Nat.le_refl _⟩ dX1_prepare_18 (fun _ H locs hM => ?_)
  cases h
  exact m_vret (pc := 21) C hM trivial dX1_prepare_21
theorem hd_X1_prepare : yX1_prepare.cls ≠ "java/lang/invoke/MethodHandle" ∧ yX1_prepare.cls ≠ "java/lang/invoke/VarHandle" ∧ (parseMethodDescriptor yX1_prepare.desc).map (fun d => d.parameters.length) = some 1 := by decide +kernel

theorem V_X1_prepare {p : Program} {l : Launch} {e : Env} {R : Room} {s : State} {m : MethodId} {args : Array Value} {below : List Frame} {meth : Method} {c : Code} {H : Heap} {locs : List Loc} {cells slots : Nat} {Q : State → Prop} {cc : ByteArray} {pc nL : Nat} {ls : Array Slot} {rest : List Value} {ret : Option FieldType} {nmm own : String} {E : gE} {μ μ1 : Mm} {index : Nat} (C : gCx p s m args meth c cc nL ret nmm own) (hM : MS E μ s H locs) {N : Nat} {x0 x1 v : Int} (hc : f_X1_prepare N x0 x1 μ = some (v, μ1)) (hck : μ x0 (-2) = 3) (h1 : Cond.methodLink own index yX1_prepare ∈ bigL) (hR : 4 ≤ R.frames ∧ 104 ≤ R.locals) (hl : ls.size = nL) (hcat : RC rest 8) (hf : cells + 0 ≤ R.cells ∧ slots + 0 ≤ R.slots) (hdg : decode cc pc = .ok (.invokevirtual index, 3)) (kk : True → ∀ (H1 : Heap) (locs1 : List Loc), MS E μ1 s H1 locs1 → W p l e R s m args below meth c H1 locs1 (cells + 0) (slots + 0) Q (F0 m (pc + 3) ls rest)) : W p l e R s m args below meth c H locs cells slots Q (F0 m pc ls (vr E x1 :: vr E x0 :: rest)) := g_callV C KF_X1 hM (c_X1_prepare l E N x0 x1 μ μ1 v hc) hck (gV h1 bw_2_95 bw_2_96 bw_1_7 bw_2_97) ⟨rfl, hd_X1_prepare⟩ hR rfl hl rfl hcat hf hdg kk
/-! X1_addPrepared -/
def f_X1_addPrepared (N : Nat) (x0 : Int) (μ : Mm) : Rs :=
  ck (μ x0 (-2) = 3) <|
  if 6 ≤ (μ x0 2) then
    (ck (μ x0 (-2) = 3) <|
     nm (w32 ((μ x0 1) + 1)) fun a4 =>
     nm (o_rem a4 7) fun a5 =>
     ck (μ x0 (-2) = 3) <|
     nm (mset μ x0 1 a5) fun μ8 =>
     some (0, μ8))
  else
  ck (μ x0 (-2) = 3) <|
  nm (w32 ((μ x0 2) + 1)) fun a10 =>
  ck (μ x0 (-2) = 3) <|
  nm (mset μ x0 2 a10) fun μ12 =>
  some (0, μ12)
set_option maxHeartbeats 4000000 in
set_option maxRecDepth 100000 in
theorem c_X1_addPrepared (l : Launch) (E : gE) (N : Nat) (x0 : Int) (μ μ' : Mm) (r : Int) (h : f_X1_addPrepared N x0 μ = some (r, μ')) : gMet l E yX1_addPrepared cX1_addPrepared 1 none 0 0 [vr E x0] none True μ μ' 0 0 := by
  refine g_ofW [1] (by first | (simp only [List.map_cons, List.map_nil, vr_cat]; done) | (simp only [List.map_cons, List.map_nil, vr_cat]; rfl)) (by decide) (by decide) (fun p e s m below meth c ls C hM hl => ?_)
  replace C : gCx p s m _ meth c cX1_addPrepared 1 none "addPrepared" RX1 := C
  replace hl : lv_has ls 1 [(0, vr E x0)] := hl
  unfold f_X1_addPrepared at h
  refine m_aload_n (pc := 0) C dX1_addPrepared_0 rfl (lv_at hl 0 rfl) ?_
  obtain ⟨q1, h⟩ := ck_some h
  have gq1 := Gr_X1_size hM q1
  refine G_X1_size (pc := 1) C hM bw_1_235 q1 dX1_addPrepared_1 ?_
  refine m_bipush (pc := 4) C dX1_addPrepared_4 rfl ?_
  refine m_icmp_ge (tgt := 22) (pc := 6) C gq1 rk_6 dX1_addPrepared_6 (by decide) (fun c2 => ?_) (fun c2 => ?_)
  · have h := if_t h c2
    refine m_aload_n (pc := 22) C dX1_addPrepared_22 rfl (lv_at hl 0 rfl) ?_
    refine m_aload_n (pc := 23) C dX1_addPrepared_23 rfl (lv_at hl 0 rfl) ?_
    obtain ⟨q3, h⟩ := ck_some h
    have gq3 := Gr_X1_first hM q3
    refine G_X1_first (pc := 24) C hM bw_1_234 q3 dX1_addPrepared_24 ?_
    refine m_iconst (pc := 27) C dX1_addPrepared_27 ?_
    obtain ⟨a4, ea4, h⟩ := nm_some h
    have ra4 : R32 a4 := by rw [ea4]; exact w32_R _
    refine m_iadd (pc := 28) C dX1_addPrepared_28 ea4 ?_
    refine m_bipush (pc := 29) C dX1_addPrepared_29 rfl ?_
    obtain ⟨a5, ea5, h⟩ := nm_some h
    have ra5 : R32 a5 := by rw [ea5]; exact R32_of _
    refine m_irem (pc := 31) C rk_7 (by decide) dX1_addPrepared_31 ea5 ?_
    obtain ⟨q7, h⟩ := ck_some h
    obtain ⟨μ8, eμ8, h⟩ := nm_some h
    refine P_X1_first (pc := 32) C hM bw_1_234 q7 ra5 eμ8 dX1_addPrepared_32 (fun H locs hM => ?_)
    cases h
    exact m_vret (pc := 35) C hM trivial dX1_addPrepared_35
  · have h := if_f h c2
    refine m_aload_n (pc := 9) C dX1_addPrepared_9 rfl (lv_at hl 0 rfl) ?_
    refine m_dup (pc := 10) C (vr_cat _ _) dX1_addPrepared_10 ?_
    obtain ⟨q9, h⟩ := ck_some h
    have gq9 := Gr_X1_size hM q9
    refine G_X1_size (pc := 11) C hM bw_1_235 q9 dX1_addPrepared_11 ?_
    refine m_iconst (pc := 14) C dX1_addPrepared_14 ?_
    obtain ⟨a10, ea10, h⟩ := nm_some h
    have ra10 : R32 a10 := by rw [ea10]; exact w32_R _
    refine m_iadd (pc := 15) C dX1_addPrepared_15 ea10 ?_
    obtain ⟨q11, h⟩ := ck_some h
    obtain ⟨μ12, eμ12, h⟩ := nm_some h
    refine P_X1_size (pc := 16) C hM bw_1_235 q11 ra10 eμ12 dX1_addPrepared_16 (fun H locs hM => ?_)
    refine m_goto (tgt := 35) (pc := 19) C dX1_addPrepared_19 (by decide) ?_
    cases h
    exact m_vret (pc := 35) C hM trivial dX1_addPrepared_35
theorem hd_X1_addPrepared : yX1_addPrepared.cls ≠ "java/lang/invoke/MethodHandle" ∧ yX1_addPrepared.cls ≠ "java/lang/invoke/VarHandle" ∧ (parseMethodDescriptor yX1_addPrepared.desc).map (fun d => d.parameters.length) = some 0 := by decide +kernel

theorem V_X1_addPrepared {p : Program} {l : Launch} {e : Env} {R : Room} {s : State} {m : MethodId} {args : Array Value} {below : List Frame} {meth : Method} {c : Code} {H : Heap} {locs : List Loc} {cells slots : Nat} {Q : State → Prop} {cc : ByteArray} {pc nL : Nat} {ls : Array Slot} {rest : List Value} {ret : Option FieldType} {nmm own : String} {E : gE} {μ μ1 : Mm} {index : Nat} (C : gCx p s m args meth c cc nL ret nmm own) (hM : MS E μ s H locs) {N : Nat} {x0 v : Int} (hc : f_X1_addPrepared N x0 μ = some (v, μ1)) (hck : μ x0 (-2) = 3) (h1 : Cond.methodLink own index yX1_addPrepared ∈ bigL) (hR : 1 ≤ R.frames ∧ 20 ≤ R.locals) (hl : ls.size = nL) (hcat : RC rest 8) (hf : cells + 0 ≤ R.cells ∧ slots + 0 ≤ R.slots) (hdg : decode cc pc = .ok (.invokevirtual index, 3)) (kk : True → ∀ (H1 : Heap) (locs1 : List Loc), MS E μ1 s H1 locs1 → W p l e R s m args below meth c H1 locs1 (cells + 0) (slots + 0) Q (F0 m (pc + 3) ls rest)) : W p l e R s m args below meth c H locs cells slots Q (F0 m pc ls (vr E x0 :: rest)) := g_callV C KF_X1 hM (c_X1_addPrepared l E N x0 μ μ1 v hc) hck (gV h1 bw_2_126 bw_2_127 bw_1_7 bw_2_128) ⟨rfl, hd_X1_addPrepared⟩ hR rfl hl rfl hcat hf hdg kk
/-! X1_takeBack -/
def f_X1_takeBack (N : Nat) (x0 x1 : Int) (μ : Mm) : Rs :=
  ck (μ x0 (-2) = 3) <|
  if ¬ (μ x0 2) = 0 then
    (ck (μ x0 (-2) = 3) <|
     nm (w32 ((μ x0 2) - 1)) fun a4 =>
     ck (μ x0 (-2) = 3) <|
     nm (mset μ x0 2 a4) fun μ6 =>
     ck (μ6 x0 (-2) = 3) <|
     ck (μ6 x0 (-2) = 3) <|
     ck (μ6 x0 (-2) = 3) <|
     nm (w32 ((μ6 x0 1) + (μ6 x0 2))) fun a10 =>
     nm (o_rem a10 7) fun a11 =>
     ck (μ6 (μ6 x0 0) (-2) = 26 ∧ (0 : Int) ≤ a11 ∧ a11 < μ6 (μ6 x0 0) (-1)) <|
     ck (μ6 x1 (-2) = 8) <|
     bd (f_X6_copyFrom N x1 (μ6 (μ6 x0 0) a11) μ6) fun a15 μ16 =>
     some (1, μ16))
  else
  some (0, μ)
set_option maxHeartbeats 4000000 in
set_option maxRecDepth 100000 in
theorem c_X1_takeBack (l : Launch) (E : gE) (N : Nat) (x0 x1 : Int) (μ μ' : Mm) (r : Int) (h : f_X1_takeBack N x0 x1 μ = some (r, μ')) : gMet l E yX1_takeBack cX1_takeBack 2 (some .boolean) 3 83 [vr E x0, vr E x1] (some (vi r)) (R32 r) μ μ' 0 0 := by
  refine g_ofW [1, 1] (by first | (simp only [List.map_cons, List.map_nil, vr_cat]; done) | (simp only [List.map_cons, List.map_nil, vr_cat]; rfl)) (by decide) (by decide) (fun p e s m below meth c ls C hM hl => ?_)
  replace C : gCx p s m _ meth c cX1_takeBack 2 (some .boolean) "takeBack" RX1 := C
  replace hl : lv_has ls 2 [(0, vr E x0), (1, vr E x1)] := hl
  unfold f_X1_takeBack at h
  refine m_aload_n (pc := 0) C dX1_takeBack_0 rfl (lv_at hl 0 rfl) ?_
  obtain ⟨q1, h⟩ := ck_some h
  have gq1 := Gr_X1_size hM q1
  refine G_X1_size (pc := 1) C hM bw_1_235 q1 dX1_takeBack_1 ?_
  refine m_if_ne (tgt := 9) (pc := 4) C gq1 dX1_takeBack_4 (by decide) (fun c2 => ?_) (fun c2 => ?_)
  · have h := if_t h c2
    refine m_aload_n (pc := 9) C dX1_takeBack_9 rfl (lv_at hl 0 rfl) ?_
    refine m_dup (pc := 10) C (vr_cat _ _) dX1_takeBack_10 ?_
    obtain ⟨q3, h⟩ := ck_some h
    have gq3 := Gr_X1_size hM q3
    refine G_X1_size (pc := 11) C hM bw_1_235 q3 dX1_takeBack_11 ?_
    refine m_iconst (pc := 14) C dX1_takeBack_14 ?_
    obtain ⟨a4, ea4, h⟩ := nm_some h
    have ra4 : R32 a4 := by rw [ea4]; exact w32_R _
    refine m_isub (pc := 15) C dX1_takeBack_15 ea4 ?_
    obtain ⟨q5, h⟩ := ck_some h
    obtain ⟨μ6, eμ6, h⟩ := nm_some h
    refine P_X1_size (pc := 16) C hM bw_1_235 q5 ra4 eμ6 dX1_takeBack_16 (fun H locs hM => ?_)
    refine m_aload_n (pc := 19) C dX1_takeBack_19 rfl (lv_at hl 1 rfl) ?_
    refine m_aload_n (pc := 20) C dX1_takeBack_20 rfl (lv_at hl 0 rfl) ?_
    obtain ⟨q7, h⟩ := ck_some h
    refine G_X1_rows (pc := 21) C hM bw_1_233 q7 dX1_takeBack_21 ?_
    refine m_aload_n (pc := 24) C dX1_takeBack_24 rfl (lv_at hl 0 rfl) ?_
    obtain ⟨q8, h⟩ := ck_some h
    have gq8 := Gr_X1_first hM q8
    refine G_X1_first (pc := 25) C hM bw_1_234 q8 dX1_takeBack_25 ?_
    refine m_aload_n (pc := 28) C dX1_takeBack_28 rfl (lv_at hl 0 rfl) ?_
    obtain ⟨q9, h⟩ := ck_some h
    have gq9 := Gr_X1_size hM q9
    refine G_X1_size (pc := 29) C hM bw_1_235 q9 dX1_takeBack_29 ?_
    obtain ⟨a10, ea10, h⟩ := nm_some h
    have ra10 : R32 a10 := by rw [ea10]; exact w32_R _
    refine m_iadd (pc := 32) C dX1_takeBack_32 ea10 ?_
    refine m_bipush (pc := 33) C dX1_takeBack_33 rfl ?_
    obtain ⟨a11, ea11, h⟩ := nm_some h
    have ra11 : R32 a11 := by rw [ea11]; exact R32_of _
    refine m_irem (pc := 35) C rk_7 (by decide) dX1_takeBack_35 ea11 ?_
    obtain ⟨q13, h⟩ := ck_some h
    refine m_aald (pc := 36) C hM q13.1 (by decide) (by decide) q13.2.1 q13.2.2 dX1_takeBack_36 ?_
    obtain ⟨q14, h⟩ := ck_some h
    obtain ⟨a15, μ16, ca15, h⟩ := bd_some h
    refine V_X6_copyFrom (pc := 37) C hM ca15 q14 bw_2_98 ⟨Nat.le_of_ble_eq_true rfl, Nat.le_of_ble_eq_true rfl⟩ hl.1 rc0 ⟨Nat.le_refl _, Nat.le_refl _⟩ dX1_takeBack_37 (fun _ H locs hM => ?_)
    refine m_iconst (pc := 40) C dX1_takeBack_40 ?_
    cases h
    exact m_zret (pc := 41) C rfl hM rk_1 dX1_takeBack_41
  · have h := if_f h c2
    refine m_iconst (pc := 7) C dX1_takeBack_7 ?_
    cases h
    exact m_zret (pc := 8) C rfl hM rk_0 dX1_takeBack_8
theorem hd_X1_takeBack : yX1_takeBack.cls ≠ "java/lang/invoke/MethodHandle" ∧ yX1_takeBack.cls ≠ "java/lang/invoke/VarHandle" ∧ (parseMethodDescriptor yX1_takeBack.desc).map (fun d => d.parameters.length) = some 1 := by decide +kernel

theorem V_X1_takeBack {p : Program} {l : Launch} {e : Env} {R : Room} {s : State} {m : MethodId} {args : Array Value} {below : List Frame} {meth : Method} {c : Code} {H : Heap} {locs : List Loc} {cells slots : Nat} {Q : State → Prop} {cc : ByteArray} {pc nL : Nat} {ls : Array Slot} {rest : List Value} {ret : Option FieldType} {nmm own : String} {E : gE} {μ μ1 : Mm} {index : Nat} (C : gCx p s m args meth c cc nL ret nmm own) (hM : MS E μ s H locs) {N : Nat} {x0 x1 v : Int} (hc : f_X1_takeBack N x0 x1 μ = some (v, μ1)) (hck : μ x0 (-2) = 3) (h1 : Cond.methodLink own index yX1_takeBack ∈ bigL) (hR : 4 ≤ R.frames ∧ 104 ≤ R.locals) (hl : ls.size = nL) (hcat : RC rest 8) (hf : cells + 0 ≤ R.cells ∧ slots + 0 ≤ R.slots) (hdg : decode cc pc = .ok (.invokevirtual index, 3)) (kk : (R32 v) → ∀ (H1 : Heap) (locs1 : List Loc), MS E μ1 s H1 locs1 → W p l e R s m args below meth c H1 locs1 (cells + 0) (slots + 0) Q (F0 m (pc + 3) ls (vi v :: rest))) : W p l e R s m args below meth c H locs cells slots Q (F0 m pc ls (vr E x1 :: vr E x0 :: rest)) := g_callV C KF_X1 hM (c_X1_takeBack l E N x0 x1 μ μ1 v hc) hck (gV h1 bw_2_213 bw_2_214 bw_1_7 bw_2_215) ⟨rfl, hd_X1_takeBack⟩ hR rfl hl rfl hcat hf hdg kk
/-! X2_suspended -/
def f_X2_suspended (N : Nat) (x0 : Int) (μ : Mm) : Rs :=
  ck (μ x0 (-2) = 4) <|
  ck (μ x0 (-2) = 4) <|
  nm (w32 ((μ x0 6) - (μ x0 8))) fun a3 =>
  ck (μ x0 (-2) = 4) <|
  nm (w32 (a3 - (μ x0 9))) fun a5 =>
  some (a5, μ)
set_option maxHeartbeats 4000000 in
set_option maxRecDepth 100000 in
theorem c_X2_suspended (l : Launch) (E : gE) (N : Nat) (x0 : Int) (μ μ' : Mm) (r : Int) (h : f_X2_suspended N x0 μ = some (r, μ')) : gMet l E yX2_suspended cX2_suspended 1 (some .int) 0 0 [vr E x0] (some (vi r)) (R32 r) μ μ' 0 0 := by
  refine g_ofW [1] (by first | (simp only [List.map_cons, List.map_nil, vr_cat]; done) | (simp only [List.map_cons, List.map_nil, vr_cat]; rfl)) (by decide) (by decide) (fun p e s m below meth c ls C hM hl => ?_)
  replace C : gCx p s m _ meth c cX2_suspended 1 (some .int) "suspended" RX2 := C
  replace hl : lv_has ls 1 [(0, vr E x0)] := hl
  unfold f_X2_suspended at h
  refine m_aload_n (pc := 0) C dX2_suspended_0 rfl (lv_at hl 0 rfl) ?_
  obtain ⟨q1, h⟩ := ck_some h
  have gq1 := Gr_X2_due hM q1
  refine G_X2_due (pc := 1) C hM bw_1_112 q1 dX2_suspended_1 ?_
  refine m_aload_n (pc := 4) C dX2_suspended_4 rfl (lv_at hl 0 rfl) ?_
  obtain ⟨q2, h⟩ := ck_some h
  have gq2 := Gr_X2_paid hM q2
  refine G_X2_paid (pc := 5) C hM bw_1_117 q2 dX2_suspended_5 ?_
  obtain ⟨a3, ea3, h⟩ := nm_some h
  have ra3 : R32 a3 := by rw [ea3]; exact w32_R _
  refine m_isub (pc := 8) C dX2_suspended_8 ea3 ?_
  refine m_aload_n (pc := 9) C dX2_suspended_9 rfl (lv_at hl 0 rfl) ?_
  obtain ⟨q4, h⟩ := ck_some h
  have gq4 := Gr_X2_discharged hM q4
  refine G_X2_discharged (pc := 10) C hM bw_1_120 q4 dX2_suspended_10 ?_
  obtain ⟨a5, ea5, h⟩ := nm_some h
  have ra5 : R32 a5 := by rw [ea5]; exact w32_R _
  refine m_isub (pc := 13) C dX2_suspended_13 ea5 ?_
  cases h
  exact m_iret (pc := 14) C hM ra5 dX2_suspended_14
theorem hd_X2_suspended : yX2_suspended.cls ≠ "java/lang/invoke/MethodHandle" ∧ yX2_suspended.cls ≠ "java/lang/invoke/VarHandle" ∧ (parseMethodDescriptor yX2_suspended.desc).map (fun d => d.parameters.length) = some 0 := by decide +kernel

theorem V_X2_suspended {p : Program} {l : Launch} {e : Env} {R : Room} {s : State} {m : MethodId} {args : Array Value} {below : List Frame} {meth : Method} {c : Code} {H : Heap} {locs : List Loc} {cells slots : Nat} {Q : State → Prop} {cc : ByteArray} {pc nL : Nat} {ls : Array Slot} {rest : List Value} {ret : Option FieldType} {nmm own : String} {E : gE} {μ μ1 : Mm} {index : Nat} (C : gCx p s m args meth c cc nL ret nmm own) (hM : MS E μ s H locs) {N : Nat} {x0 v : Int} (hc : f_X2_suspended N x0 μ = some (v, μ1)) (hck : μ x0 (-2) = 4) (h1 : Cond.methodLink own index yX2_suspended ∈ bigL) (hR : 1 ≤ R.frames ∧ 20 ≤ R.locals) (hl : ls.size = nL) (hcat : RC rest 8) (hf : cells + 0 ≤ R.cells ∧ slots + 0 ≤ R.slots) (hdg : decode cc pc = .ok (.invokevirtual index, 3)) (kk : (R32 v) → ∀ (H1 : Heap) (locs1 : List Loc), MS E μ1 s H1 locs1 → W p l e R s m args below meth c H1 locs1 (cells + 0) (slots + 0) Q (F0 m (pc + 3) ls (vi v :: rest))) : W p l e R s m args below meth c H locs cells slots Q (F0 m pc ls (vr E x0 :: rest)) := g_callV C KF_X2 hM (c_X2_suspended l E N x0 μ μ1 v hc) hck (gV h1 bw_3_41 bw_3_42 bw_1_5 bw_3_43) ⟨rfl, hd_X2_suspended⟩ hR rfl hl rfl hcat hf hdg kk
/-! X2_partOfDuty -/
def f_X2_partOfDuty (N : Nat) (x0 x1 : Int) (μ : Mm) : Rs :=
  if x1 = 0 then
    (ck (μ x0 (-2) = 4) <|
     some (μ x0 6, μ))
  else
  if x1 = 1 then
    (ck (μ x0 (-2) = 4) <|
     bd (f_X2_suspended N x0 μ) fun a5 μ6 =>
     some (a5, μ6))
  else
  if x1 = 2 then
    (ck (μ x0 (-2) = 4) <|
     some (μ x0 8, μ))
  else
  ck (μ x0 (-2) = 4) <|
  some (μ x0 9, μ)
set_option maxHeartbeats 4000000 in
set_option maxRecDepth 100000 in
theorem c_X2_partOfDuty (l : Launch) (E : gE) (N : Nat) (x0 x1 : Int) (μ μ' : Mm) (r : Int) (h : f_X2_partOfDuty N x0 x1 μ = some (r, μ')) (rx1 : R32 x1) : gMet l E yX2_partOfDuty cX2_partOfDuty 2 (some .int) 1 20 [vr E x0, vi x1] (some (vi r)) (R32 r) μ μ' 0 0 := by
  refine g_ofW [1, 1] (by first | (simp only [List.map_cons, List.map_nil, vr_cat]; done) | (simp only [List.map_cons, List.map_nil, vr_cat]; rfl)) (by decide) (by decide) (fun p e s m below meth c ls C hM hl => ?_)
  replace C : gCx p s m _ meth c cX2_partOfDuty 2 (some .int) "partOfDuty" RX2 := C
  replace hl : lv_has ls 2 [(0, vr E x0), (1, vi x1)] := hl
  unfold f_X2_partOfDuty at h
  refine m_iload_n (pc := 0) C dX2_partOfDuty_0 rfl (lv_at hl 1 rfl) ?_
  by_cases c1 : x1 = 0
  · have h := if_t h c1
    refine m_tab (pc := 1) (tgt := 28) C rx1 c1 dX2_partOfDuty_1 (by decide) (by decide) rfl (by decide) ?_
    refine m_aload_n (pc := 28) C dX2_partOfDuty_28 rfl (lv_at hl 0 rfl) ?_
    obtain ⟨q2, h⟩ := ck_some h
    have gq2 := Gr_X2_due hM q2
    refine G_X2_due (pc := 29) C hM bw_1_112 q2 dX2_partOfDuty_29 ?_
    cases h
    exact m_iret (pc := 32) C hM gq2 dX2_partOfDuty_32
  replace h := if_f h c1
  by_cases c3 : x1 = 1
  · have h := if_t h c3
    refine m_tab (pc := 1) (tgt := 33) C rx1 c3 dX2_partOfDuty_1 (by decide) (by decide) rfl (by decide) ?_
    refine m_aload_n (pc := 33) C dX2_partOfDuty_33 rfl (lv_at hl 0 rfl) ?_
    obtain ⟨q4, h⟩ := ck_some h
    obtain ⟨a5, μ6, ca5, h⟩ := bd_some h
    refine V_X2_suspended (pc := 34) C hM ca5 q4 bw_3_75 ⟨Nat.le_of_ble_eq_true rfl, Nat.le_of_ble_eq_true rfl⟩ hl.1 rc0 ⟨Nat.le_refl _, Nat.le_refl _⟩ dX2_partOfDuty_34 (fun ra5 H locs hM => ?_)
    cases h
    exact m_iret (pc := 37) C hM ra5 dX2_partOfDuty_37
  replace h := if_f h c3
  by_cases c7 : x1 = 2
  · have h := if_t h c7
    refine m_tab (pc := 1) (tgt := 38) C rx1 c7 dX2_partOfDuty_1 (by decide) (by decide) rfl (by decide) ?_
    refine m_aload_n (pc := 38) C dX2_partOfDuty_38 rfl (lv_at hl 0 rfl) ?_
    obtain ⟨q8, h⟩ := ck_some h
    have gq8 := Gr_X2_paid hM q8
    refine G_X2_paid (pc := 39) C hM bw_1_117 q8 dX2_partOfDuty_39 ?_
    cases h
    exact m_iret (pc := 42) C hM gq8 dX2_partOfDuty_42
  replace h := if_f h c7
  refine m_tabD (pc := 1) (tgt := 43) C rx1 dX2_partOfDuty_1 (by omega) (by decide) ?_
  refine m_aload_n (pc := 43) C dX2_partOfDuty_43 rfl (lv_at hl 0 rfl) ?_
  obtain ⟨q9, h⟩ := ck_some h
  have gq9 := Gr_X2_discharged hM q9
  refine G_X2_discharged (pc := 44) C hM bw_1_120 q9 dX2_partOfDuty_44 ?_
  cases h
  exact m_iret (pc := 47) C hM gq9 dX2_partOfDuty_47
theorem hd_X2_partOfDuty : yX2_partOfDuty.cls ≠ "java/lang/invoke/MethodHandle" ∧ yX2_partOfDuty.cls ≠ "java/lang/invoke/VarHandle" ∧ (parseMethodDescriptor yX2_partOfDuty.desc).map (fun d => d.parameters.length) = some 1 := by decide +kernel

theorem V_X2_partOfDuty {p : Program} {l : Launch} {e : Env} {R : Room} {s : State} {m : MethodId} {args : Array Value} {below : List Frame} {meth : Method} {c : Code} {H : Heap} {locs : List Loc} {cells slots : Nat} {Q : State → Prop} {cc : ByteArray} {pc nL : Nat} {ls : Array Slot} {rest : List Value} {ret : Option FieldType} {nmm own : String} {E : gE} {μ μ1 : Mm} {index : Nat} (C : gCx p s m args meth c cc nL ret nmm own) (hM : MS E μ s H locs) {N : Nat} {x0 x1 v : Int} (hc : f_X2_partOfDuty N x0 x1 μ = some (v, μ1)) (rx1 : R32 x1) (hck : μ x0 (-2) = 4) (h1 : Cond.methodLink own index yX2_partOfDuty ∈ bigL) (hR : 2 ≤ R.frames ∧ 41 ≤ R.locals) (hl : ls.size = nL) (hcat : RC rest 8) (hf : cells + 0 ≤ R.cells ∧ slots + 0 ≤ R.slots) (hdg : decode cc pc = .ok (.invokevirtual index, 3)) (kk : (R32 v) → ∀ (H1 : Heap) (locs1 : List Loc), MS E μ1 s H1 locs1 → W p l e R s m args below meth c H1 locs1 (cells + 0) (slots + 0) Q (F0 m (pc + 3) ls (vi v :: rest))) : W p l e R s m args below meth c H locs cells slots Q (F0 m pc ls (vi x1 :: vr E x0 :: rest)) := g_callV C KF_X2 hM (c_X2_partOfDuty l E N x0 x1 μ μ1 v hc rx1) hck (gV h1 bw_3_72 bw_3_73 bw_1_5 bw_3_74) ⟨rfl, hd_X2_partOfDuty⟩ hR rfl hl rfl hcat hf hdg kk
/-! X2_dutyOfFirst -/
def f_X2_dutyOfFirst (N : Nat) (x0 x1 : Int) (μ : Mm) : Rs :=
  ck (μ x0 (-2) = 4) <|
  if 0 < (μ x0 2) then
    (ck (μ x0 (-2) = 4) <|
     nm (w64 ((μ x0 6) * x1)) fun a4 =>
     ck (μ x0 (-2) = 4) <|
     ck ((μ x0 2) ≠ 0) <|
     nm (w64 (Int.tdiv a4 (μ x0 2))) fun a6 =>
     nm (w32 a6) fun a8 =>
     some (a8, μ))
  else
  some (0, μ)
set_option maxHeartbeats 4000000 in
set_option maxRecDepth 100000 in
theorem c_X2_dutyOfFirst (l : Launch) (E : gE) (N : Nat) (x0 x1 : Int) (μ μ' : Mm) (r : Int) (h : f_X2_dutyOfFirst N x0 x1 μ = some (r, μ')) (rx1 : R32 x1) : gMet l E yX2_dutyOfFirst cX2_dutyOfFirst 2 (some .int) 0 0 [vr E x0, vi x1] (some (vi r)) (R32 r) μ μ' 0 0 := by
  refine g_ofW [1, 1] (by first | (simp only [List.map_cons, List.map_nil, vr_cat]; done) | (simp only [List.map_cons, List.map_nil, vr_cat]; rfl)) (by decide) (by decide) (fun p e s m below meth c ls C hM hl => ?_)
  replace C : gCx p s m _ meth c cX2_dutyOfFirst 2 (some .int) "dutyOfFirst" RX2 := C
  replace hl : lv_has ls 2 [(0, vr E x0), (1, vi x1)] := hl
  unfold f_X2_dutyOfFirst at h
  refine m_aload_n (pc := 0) C dX2_dutyOfFirst_0 rfl (lv_at hl 0 rfl) ?_
  obtain ⟨q1, h⟩ := ck_some h
  have gq1 := Gr_X2_quantity hM q1
  refine G_X2_quantity (pc := 1) C hM bw_1_103 q1 dX2_dutyOfFirst_1 ?_
  refine m_if_gt (tgt := 9) (pc := 4) C gq1 dX2_dutyOfFirst_4 (by decide) (fun c2 => ?_) (fun c2 => ?_)
  · have h := if_t h c2
    refine m_aload_n (pc := 9) C dX2_dutyOfFirst_9 rfl (lv_at hl 0 rfl) ?_
    obtain ⟨q3, h⟩ := ck_some h
    have gq3 := Gr_X2_due hM q3
    refine G_X2_due (pc := 10) C hM bw_1_112 q3 dX2_dutyOfFirst_10 ?_
    refine m_i2l (pc := 13) C gq3 dX2_dutyOfFirst_13 ?_
    refine m_iload_n (pc := 14) C dX2_dutyOfFirst_14 rfl (lv_at hl 1 rfl) ?_
    refine m_i2l (pc := 15) C rx1 dX2_dutyOfFirst_15 ?_
    obtain ⟨a4, ea4, h⟩ := nm_some h
    have ra4 : R64 a4 := by rw [ea4]; exact w64_R _
    refine m_lmul (pc := 16) C dX2_dutyOfFirst_16 ea4 ?_
    refine m_aload_n (pc := 17) C dX2_dutyOfFirst_17 rfl (lv_at hl 0 rfl) ?_
    obtain ⟨q5, h⟩ := ck_some h
    have gq5 := Gr_X2_quantity hM q5
    refine G_X2_quantity (pc := 18) C hM bw_1_103 q5 dX2_dutyOfFirst_18 ?_
    refine m_i2l (pc := 21) C gq5 dX2_dutyOfFirst_21 ?_
    obtain ⟨q7, h⟩ := ck_some h
    obtain ⟨a6, ea6, h⟩ := nm_some h
    have ra6 : R64 a6 := by rw [ea6]; exact w64_R _
    refine m_ldiv (pc := 22) C ra4 (R32.to64 gq5) q7 dX2_dutyOfFirst_22 ea6 ?_
    obtain ⟨a8, ea8, h⟩ := nm_some h
    have ra8 : R32 a8 := by rw [ea8]; exact w32_R _
    refine m_l2i (pc := 23) C dX2_dutyOfFirst_23 ea8 ?_
    cases h
    exact m_iret (pc := 24) C hM ra8 dX2_dutyOfFirst_24
  · have h := if_f h c2
    refine m_iconst (pc := 7) C dX2_dutyOfFirst_7 ?_
    cases h
    exact m_iret (pc := 8) C hM rk_0 dX2_dutyOfFirst_8
theorem hd_X2_dutyOfFirst : yX2_dutyOfFirst.cls ≠ "java/lang/invoke/MethodHandle" ∧ yX2_dutyOfFirst.cls ≠ "java/lang/invoke/VarHandle" ∧ (parseMethodDescriptor yX2_dutyOfFirst.desc).map (fun d => d.parameters.length) = some 1 := by decide +kernel

theorem V_X2_dutyOfFirst {p : Program} {l : Launch} {e : Env} {R : Room} {s : State} {m : MethodId} {args : Array Value} {below : List Frame} {meth : Method} {c : Code} {H : Heap} {locs : List Loc} {cells slots : Nat} {Q : State → Prop} {cc : ByteArray} {pc nL : Nat} {ls : Array Slot} {rest : List Value} {ret : Option FieldType} {nmm own : String} {E : gE} {μ μ1 : Mm} {index : Nat} (C : gCx p s m args meth c cc nL ret nmm own) (hM : MS E μ s H locs) {N : Nat} {x0 x1 v : Int} (hc : f_X2_dutyOfFirst N x0 x1 μ = some (v, μ1)) (rx1 : R32 x1) (hck : μ x0 (-2) = 4) (h1 : Cond.methodLink own index yX2_dutyOfFirst ∈ bigL) (hR : 1 ≤ R.frames ∧ 21 ≤ R.locals) (hl : ls.size = nL) (hcat : RC rest 8) (hf : cells + 0 ≤ R.cells ∧ slots + 0 ≤ R.slots) (hdg : decode cc pc = .ok (.invokevirtual index, 3)) (kk : (R32 v) → ∀ (H1 : Heap) (locs1 : List Loc), MS E μ1 s H1 locs1 → W p l e R s m args below meth c H1 locs1 (cells + 0) (slots + 0) Q (F0 m (pc + 3) ls (vi v :: rest))) : W p l e R s m args below meth c H locs cells slots Q (F0 m pc ls (vi x1 :: vr E x0 :: rest)) := g_callV C KF_X2 hM (c_X2_dutyOfFirst l E N x0 x1 μ μ1 v hc rx1) hck (gV h1 bw_2_206 bs_5 bw_1_5 bw_2_207) ⟨rfl, hd_X2_dutyOfFirst⟩ hR rfl hl rfl hcat hf hdg kk
/-! X2_dutyOfNext -/
def f_X2_dutyOfNext (N : Nat) (x0 x1 x2 : Int) (μ : Mm) : Rs :=
  ck (μ x0 (-2) = 4) <|
  ck (μ x0 (-2) = 4) <|
  nm (w32 ((μ x0 2) - (μ x0 7))) fun a3 =>
  nm (w32 (a3 + x1)) fun a4 =>
  nm (w32 (a4 + x2)) fun a5 =>
  ck (μ x0 (-2) = 4) <|
  bd (f_X2_dutyOfFirst N x0 a5 μ) fun a7 μ8 =>
  ck (μ8 x0 (-2) = 4) <|
  bd (f_X2_dutyOfFirst N x0 a4 μ8) fun a10 μ11 =>
  nm (w32 (a7 - a10)) fun a12 =>
  some (a12, μ11)
set_option maxHeartbeats 4000000 in
set_option maxRecDepth 100000 in
theorem c_X2_dutyOfNext (l : Launch) (E : gE) (N : Nat) (x0 x1 x2 : Int) (μ μ' : Mm) (r : Int) (h : f_X2_dutyOfNext N x0 x1 x2 μ = some (r, μ')) (rx1 : R32 x1) (rx2 : R32 x2) : gMet l E yX2_dutyOfNext cX2_dutyOfNext 4 (some .int) 1 21 [vr E x0, vi x1, vi x2] (some (vi r)) (R32 r) μ μ' 0 0 := by
  refine g_ofW [1, 1, 1] (by first | (simp only [List.map_cons, List.map_nil, vr_cat]; done) | (simp only [List.map_cons, List.map_nil, vr_cat]; rfl)) (by decide) (by decide) (fun p e s m below meth c ls C hM hl => ?_)
  replace C : gCx p s m _ meth c cX2_dutyOfNext 4 (some .int) "dutyOfNext" RX2 := C
  replace hl : lv_has ls 4 [(0, vr E x0), (1, vi x1), (2, vi x2)] := hl
  unfold f_X2_dutyOfNext at h
  refine m_aload_n (pc := 0) C dX2_dutyOfNext_0 rfl (lv_at hl 0 rfl) ?_
  obtain ⟨q1, h⟩ := ck_some h
  have gq1 := Gr_X2_quantity hM q1
  refine G_X2_quantity (pc := 1) C hM bw_1_103 q1 dX2_dutyOfNext_1 ?_
  refine m_aload_n (pc := 4) C dX2_dutyOfNext_4 rfl (lv_at hl 0 rfl) ?_
  obtain ⟨q2, h⟩ := ck_some h
  have gq2 := Gr_X2_stored hM q2
  refine G_X2_stored (pc := 5) C hM bw_1_114 q2 dX2_dutyOfNext_5 ?_
  obtain ⟨a3, ea3, h⟩ := nm_some h
  have ra3 : R32 a3 := by rw [ea3]; exact w32_R _
  refine m_isub (pc := 8) C dX2_dutyOfNext_8 ea3 ?_
  refine m_iload_n (pc := 9) C dX2_dutyOfNext_9 rfl (lv_at hl 1 rfl) ?_
  obtain ⟨a4, ea4, h⟩ := nm_some h
  have ra4 : R32 a4 := by rw [ea4]; exact w32_R _
  refine m_iadd (pc := 10) C dX2_dutyOfNext_10 ea4 ?_
  refine m_istore_n (pc := 11) C dX2_dutyOfNext_11 rfl hl (by decide) (lvK1 0 rfl (Nat.ne_of_beq_eq_false rfl) (Nat.ne_of_beq_eq_false rfl) (lvK2 2 rfl (Nat.ne_of_beq_eq_false rfl) rfl lvK0)) (fun ls hl => ?_)
  refine m_aload_n (pc := 12) C dX2_dutyOfNext_12 rfl (lv_at hl 1 rfl) ?_
  refine m_iload_n (pc := 13) C dX2_dutyOfNext_13 rfl (lv_at hl 0 rfl) ?_
  refine m_iload_n (pc := 14) C dX2_dutyOfNext_14 rfl (lv_at hl 2 rfl) ?_
  obtain ⟨a5, ea5, h⟩ := nm_some h
  have ra5 : R32 a5 := by rw [ea5]; exact w32_R _
  refine m_iadd (pc := 15) C dX2_dutyOfNext_15 ea5 ?_
  obtain ⟨q6, h⟩ := ck_some h
  obtain ⟨a7, μ8, ca7, h⟩ := bd_some h
  refine V_X2_dutyOfFirst (pc := 16) C hM ca7 ra5 q6 bw_2_204 ⟨Nat.le_of_ble_eq_true rfl, Nat.le_of_ble_eq_true rfl⟩ hl.1 rc0 ⟨Nat.le_refl _, Nat.le_refl _⟩ dX2_dutyOfNext_16 (fun ra7 H locs hM => ?_)
  refine m_aload_n (pc := 19) C dX2_dutyOfNext_19 rfl (lv_at hl 1 rfl) ?_
  refine m_iload_n (pc := 20) C dX2_dutyOfNext_20 rfl (lv_at hl 0 rfl) ?_
  obtain ⟨q9, h⟩ := ck_some h
  obtain ⟨a10, μ11, ca10, h⟩ := bd_some h
  refine V_X2_dutyOfFirst (pc := 21) C hM ca10 ra4 q9 bw_2_204 ⟨Nat.le_of_ble_eq_true rfl, Nat.le_of_ble_eq_true rfl⟩ hl.1 (rcI rc0) ⟨Nat.le_refl _, Nat.le_refl _⟩ dX2_dutyOfNext_21 (fun ra10 H locs hM => ?_)
  obtain ⟨a12, ea12, h⟩ := nm_some h
  have ra12 : R32 a12 := by rw [ea12]; exact w32_R _
  refine m_isub (pc := 24) C dX2_dutyOfNext_24 ea12 ?_
  cases h
  exact m_iret (pc := 25) C hM ra12 dX2_dutyOfNext_25
theorem hd_X2_dutyOfNext : yX2_dutyOfNext.cls ≠ "java/lang/invoke/MethodHandle" ∧ yX2_dutyOfNext.cls ≠ "java/lang/invoke/VarHandle" ∧ (parseMethodDescriptor yX2_dutyOfNext.desc).map (fun d => d.parameters.length) = some 2 := by decide +kernel

theorem V_X2_dutyOfNext {p : Program} {l : Launch} {e : Env} {R : Room} {s : State} {m : MethodId} {args : Array Value} {below : List Frame} {meth : Method} {c : Code} {H : Heap} {locs : List Loc} {cells slots : Nat} {Q : State → Prop} {cc : ByteArray} {pc nL : Nat} {ls : Array Slot} {rest : List Value} {ret : Option FieldType} {nmm own : String} {E : gE} {μ μ1 : Mm} {index : Nat} (C : gCx p s m args meth c cc nL ret nmm own) (hM : MS E μ s H locs) {N : Nat} {x0 x1 x2 v : Int} (hc : f_X2_dutyOfNext N x0 x1 x2 μ = some (v, μ1)) (rx1 : R32 x1) (rx2 : R32 x2) (hck : μ x0 (-2) = 4) (h1 : Cond.methodLink own index yX2_dutyOfNext ∈ bigL) (hR : 2 ≤ R.frames ∧ 44 ≤ R.locals) (hl : ls.size = nL) (hcat : RC rest 8) (hf : cells + 0 ≤ R.cells ∧ slots + 0 ≤ R.slots) (hdg : decode cc pc = .ok (.invokevirtual index, 3)) (kk : (R32 v) → ∀ (H1 : Heap) (locs1 : List Loc), MS E μ1 s H1 locs1 → W p l e R s m args below meth c H1 locs1 (cells + 0) (slots + 0) Q (F0 m (pc + 3) ls (vi v :: rest))) : W p l e R s m args below meth c H locs cells slots Q (F0 m pc ls (vi x2 :: vi x1 :: vr E x0 :: rest)) := g_callV C KF_X2 hM (c_X2_dutyOfNext l E N x0 x1 x2 μ μ1 v hc rx1 rx2) hck (gV h1 bw_2_201 bw_2_202 bw_1_5 bw_2_203) ⟨rfl, hd_X2_dutyOfNext⟩ hR rfl hl rfl hcat hf hdg kk
/-! X2_endsBefore -/
def f_X2_endsBefore (N : Nat) (x0 x1 : Int) (μ : Mm) : Rs :=
  ck (μ x0 (-2) = 4) <|
  if (μ x0 7) ≤ 0 then
    (some (0, μ))
  else
  ck (μ x0 (-2) = 4) <|
  if x1 ≤ (μ x0 5) then
    (some (0, μ))
  else
  some (1, μ)
set_option maxHeartbeats 4000000 in
set_option maxRecDepth 100000 in
theorem c_X2_endsBefore (l : Launch) (E : gE) (N : Nat) (x0 x1 : Int) (μ μ' : Mm) (r : Int) (h : f_X2_endsBefore N x0 x1 μ = some (r, μ')) (rx1 : R32 x1) : gMet l E yX2_endsBefore cX2_endsBefore 2 (some .boolean) 0 0 [vr E x0, vi x1] (some (vi r)) (R32 r) μ μ' 0 0 := by
  refine g_ofW [1, 1] (by first | (simp only [List.map_cons, List.map_nil, vr_cat]; done) | (simp only [List.map_cons, List.map_nil, vr_cat]; rfl)) (by decide) (by decide) (fun p e s m below meth c ls C hM hl => ?_)
  replace C : gCx p s m _ meth c cX2_endsBefore 2 (some .boolean) "endsBefore" RX2 := C
  replace hl : lv_has ls 2 [(0, vr E x0), (1, vi x1)] := hl
  unfold f_X2_endsBefore at h
  refine m_aload_n (pc := 0) C dX2_endsBefore_0 rfl (lv_at hl 0 rfl) ?_
  obtain ⟨q1, h⟩ := ck_some h
  have gq1 := Gr_X2_stored hM q1
  refine G_X2_stored (pc := 1) C hM bw_1_114 q1 dX2_endsBefore_1 ?_
  refine m_if_le (tgt := 19) (pc := 4) C gq1 dX2_endsBefore_4 (by decide) (fun c2 => ?_) (fun c2 => ?_)
  · have h := if_t h c2
    refine m_iconst (pc := 19) C dX2_endsBefore_19 ?_
    cases h
    exact m_zret (pc := 20) C rfl hM rk_0 dX2_endsBefore_20
  · have h := if_f h c2
    refine m_aload_n (pc := 7) C dX2_endsBefore_7 rfl (lv_at hl 0 rfl) ?_
    obtain ⟨q3, h⟩ := ck_some h
    have gq3 := Gr_X2_deadline hM q3
    refine G_X2_deadline (pc := 8) C hM bw_1_110 q3 dX2_endsBefore_8 ?_
    refine m_iload_n (pc := 11) C dX2_endsBefore_11 rfl (lv_at hl 1 rfl) ?_
    refine m_icmp_ge (tgt := 19) (pc := 12) C gq3 rx1 dX2_endsBefore_12 (by decide) (fun c4 => ?_) (fun c4 => ?_)
    · have h := if_t h c4
      refine m_iconst (pc := 19) C dX2_endsBefore_19 ?_
      cases h
      exact m_zret (pc := 20) C rfl hM rk_0 dX2_endsBefore_20
    · have h := if_f h c4
      refine m_iconst (pc := 15) C dX2_endsBefore_15 ?_
      refine m_goto (tgt := 20) (pc := 16) C dX2_endsBefore_16 (by decide) ?_
      cases h
      exact m_zret (pc := 20) C rfl hM rk_1 dX2_endsBefore_20
theorem hd_X2_endsBefore : yX2_endsBefore.cls ≠ "java/lang/invoke/MethodHandle" ∧ yX2_endsBefore.cls ≠ "java/lang/invoke/VarHandle" ∧ (parseMethodDescriptor yX2_endsBefore.desc).map (fun d => d.parameters.length) = some 1 := by decide +kernel

theorem V_X2_endsBefore {p : Program} {l : Launch} {e : Env} {R : Room} {s : State} {m : MethodId} {args : Array Value} {below : List Frame} {meth : Method} {c : Code} {H : Heap} {locs : List Loc} {cells slots : Nat} {Q : State → Prop} {cc : ByteArray} {pc nL : Nat} {ls : Array Slot} {rest : List Value} {ret : Option FieldType} {nmm own : String} {E : gE} {μ μ1 : Mm} {index : Nat} (C : gCx p s m args meth c cc nL ret nmm own) (hM : MS E μ s H locs) {N : Nat} {x0 x1 v : Int} (hc : f_X2_endsBefore N x0 x1 μ = some (v, μ1)) (rx1 : R32 x1) (hck : μ x0 (-2) = 4) (h1 : Cond.methodLink own index yX2_endsBefore ∈ bigL) (hR : 1 ≤ R.frames ∧ 21 ≤ R.locals) (hl : ls.size = nL) (hcat : RC rest 8) (hf : cells + 0 ≤ R.cells ∧ slots + 0 ≤ R.slots) (hdg : decode cc pc = .ok (.invokevirtual index, 3)) (kk : (R32 v) → ∀ (H1 : Heap) (locs1 : List Loc), MS E μ1 s H1 locs1 → W p l e R s m args below meth c H1 locs1 (cells + 0) (slots + 0) Q (F0 m (pc + 3) ls (vi v :: rest))) : W p l e R s m args below meth c H locs cells slots Q (F0 m pc ls (vi x1 :: vr E x0 :: rest)) := g_callV C KF_X2 hM (c_X2_endsBefore l E N x0 x1 μ μ1 v hc rx1) hck (gV h1 bw_2_197 bw_2_198 bw_1_5 bw_2_199) ⟨rfl, hd_X2_endsBefore⟩ hR rfl hl rfl hcat hf hdg kk
/-! X3_init -/
def f_X3_init (N : Nat) (x0 : Int) (μ : Mm) : Rs :=
  ck ((1 : Int) ≤ x0) <|
  ck ((1 : Int) ≤ 2 ∧ (0 : Int) ≤ 80 ∧ (80 : Int) ≤ 84 ∧ (80 : Int) ≤ 4096) <|
  nm (μ 0 0 + 1) fun o4 =>
  nm (mnew μ 22 80 80) fun μ3 =>
  ck (μ3 x0 (-2) = 5) <|
  nm (mset μ3 x0 0 o4) fun μ6 =>
  ck ((1 : Int) ≤ (2 - 1) ∧ (0 : Int) ≤ 4 ∧ (4 : Int) ≤ (84 - 80) ∧ (4 : Int) ≤ 4096) <|
  nm (μ6 0 0 + 1) fun o9 =>
  nm (mnew μ6 23 4 4) fun μ8 =>
  ck (μ8 x0 (-2) = 5) <|
  nm (mset μ8 x0 4 o9) fun μ11 =>
  some (0, μ11)
set_option maxHeartbeats 4000000 in
set_option maxRecDepth 100000 in
theorem c_X3_init (l : Launch) (E : gE) (N : Nat) (x0 : Int) (μ μ' : Mm) (r : Int) (h : f_X3_init N x0 μ = some (r, μ')) : gMet l E yX3_init cX3_init 1 none 1 20 [vr E x0] none True μ μ' 2 84 := by
  refine g_ofW [1] (by first | (simp only [List.map_cons, List.map_nil, vr_cat]; done) | (simp only [List.map_cons, List.map_nil, vr_cat]; rfl)) (by decide) (by decide) (fun p e s m below meth c ls C hM hl => ?_)
  replace C : gCx p s m _ meth c cX3_init 1 none "<init>" RX3 := C
  replace hl : lv_has ls 1 [(0, vr E x0)] := hl
  unfold f_X3_init at h
  have hb : ((0 : Nat) : Int) + 2 ≤ 2 ∧ (0 : Int) ≤ 2 ∧ ((0 : Nat) : Int) + 84 ≤ 84 ∧ (0 : Int) ≤ 84 := by decide
  refine m_aload_n (pc := 0) C dX3_init_0 rfl (lv_at hl 0 rfl) ?_
  obtain ⟨q1, h⟩ := ck_some h
  refine m_objInit (pc := 1) C q1 bw_2_9 bw_1_26 bw_1_27 hl.1 rc0 ⟨Nat.le_of_ble_eq_true rfl, Nat.le_of_ble_eq_true rfl⟩ dX3_init_1 ?_
  refine m_aload_n (pc := 4) C dX3_init_4 rfl (lv_at hl 0 rfl) ?_
  refine m_bipush (pc := 5) C dX3_init_5 rfl ?_
  obtain ⟨q2, h⟩ := ck_some h
  obtain ⟨o4, eo4, h⟩ := nm_some h
  obtain ⟨μ3, eμ3, h⟩ := nm_some h
  have po4 : 1 ≤ o4 := by have := hM.wf.1; omega
  refine m_newa (atype := .char) (kc := 22) (t0 := 1) (pc := 7) C hM rfl (by decide) rfl (fun C => by intro q; cases q) bw_2_30 rk_80 q2.2.1 (nb8 q2.2.2.2 (by decide)) (by show _ + 1 ≤ 2; omega) (by show _ + (80 : Int).toNat ≤ 84; omega) eμ3 dX3_init_7 (fun H hM => ?_)
  rw [← eo4]
  replace hb : ((0 + 1 : Nat) : Int) + (2 - 1) ≤ 2 ∧ (0 : Int) ≤ 2 - 1 ∧ ((0 + (80 : Int).toNat : Nat) : Int) + (84 - 80) ≤ 84 ∧ (0 : Int) ≤ 84 - 80 := by omega
  obtain ⟨q5, h⟩ := ck_some h
  obtain ⟨μ6, eμ6, h⟩ := nm_some h
  refine P_X3_text (pc := 9) C hM bw_2_10 q5 eμ6 dX3_init_9 (fun H locs hM => ?_)
  refine m_aload_n (pc := 12) C dX3_init_12 rfl (lv_at hl 0 rfl) ?_
  refine m_iconst (pc := 13) C dX3_init_13 ?_
  obtain ⟨q7, h⟩ := ck_some h
  obtain ⟨o9, eo9, h⟩ := nm_some h
  obtain ⟨μ8, eμ8, h⟩ := nm_some h
  have po9 : 1 ≤ o9 := by have := hM.wf.1; omega
  refine m_newa (atype := .int) (kc := 23) (t0 := 2) (pc := 14) C hM rfl (by decide) rfl (fun C => by intro q; cases q) bw_1_65 rk_4 q7.2.1 (nb8 q7.2.2.2 (by decide)) (by show _ + 1 ≤ 2; omega) (by show _ + (4 : Int).toNat ≤ 84; omega) eμ8 dX3_init_14 (fun H hM => ?_)
  rw [← eo9]
  replace hb : ((0 + 1 + 1 : Nat) : Int) + (2 - 1 - 1) ≤ 2 ∧ (0 : Int) ≤ 2 - 1 - 1 ∧ ((0 + (80 : Int).toNat + (4 : Int).toNat : Nat) : Int) + (84 - 80 - 4) ≤ 84 ∧ (0 : Int) ≤ 84 - 80 - 4 := by omega
  obtain ⟨q10, h⟩ := ck_some h
  obtain ⟨μ11, eμ11, h⟩ := nm_some h
  refine P_X3_numbers (pc := 16) C hM bw_2_16 q10 eμ11 dX3_init_16 (fun H locs hM => ?_)
  cases h
  refine W.widen (k := 2) (n := 84) (by omega) (by omega) ?_
  exact m_vret (pc := 19) C hM trivial dX3_init_19
theorem hd_X3_init : yX3_init.cls ≠ "java/lang/invoke/MethodHandle" ∧ yX3_init.cls ≠ "java/lang/invoke/VarHandle" ∧ (parseMethodDescriptor yX3_init.desc).map (fun d => d.parameters.length) = some 0 := by decide +kernel

theorem V_X3_init {p : Program} {l : Launch} {e : Env} {R : Room} {s : State} {m : MethodId} {args : Array Value} {below : List Frame} {meth : Method} {c : Code} {H : Heap} {locs : List Loc} {cells slots : Nat} {Q : State → Prop} {cc : ByteArray} {pc nL : Nat} {ls : Array Slot} {rest : List Value} {ret : Option FieldType} {nmm own : String} {E : gE} {μ μ1 : Mm} {index : Nat} (C : gCx p s m args meth c cc nL ret nmm own) (hM : MS E μ s H locs) {N : Nat} {x0 v : Int} (hc : f_X3_init N x0 μ = some (v, μ1)) (hck : 1 ≤ x0) (h1 : Cond.methodLink own index yX3_init ∈ bigL) (hR : 2 ≤ R.frames ∧ 40 ≤ R.locals) (hl : ls.size = nL) (hcat : RC rest 8) (hf : cells + 2 ≤ R.cells ∧ slots + 84 ≤ R.slots) (hdg : decode cc pc = .ok (.invokespecial index, 3)) (kk : True → ∀ (H1 : Heap) (locs1 : List Loc), MS E μ1 s H1 locs1 → W p l e R s m args below meth c H1 locs1 (cells + 2) (slots + 84) Q (F0 m (pc + 3) ls rest)) : W p l e R s m args below meth c H locs cells slots Q (F0 m pc ls (vr E x0 :: rest)) := g_callI C hM (c_X3_init l E N x0 μ μ1 v hc) hck h1 bw_2_7 bw_1_8 bw_2_8 rfl hd_X3_init hR rfl hl rfl hcat hf hdg kk
/-! X3_append -/
def f_X3_append (N : Nat) (x0 x1 : Int) (μ : Mm) : Rs :=
  ck (μ x0 (-2) = 5) <|
  if (μ x0 1) < 80 then
    (ck (μ x0 (-2) = 5) <|
     ck (μ x0 (-2) = 5) <|
     ck (μ (μ x0 0) (-2) = 22 ∧ (0 : Int) ≤ (μ x0 1) ∧ (μ x0 1) < μ (μ x0 0) (-1) ∧ (0 : Int) ≤ x1 ∧ x1 ≤ (65535 : Int)) <|
     nm (mset μ (μ x0 0) (μ x0 1) x1) fun μ6 =>
     ck (μ6 x0 (-2) = 5) <|
     nm (w32 ((μ6 x0 1) + 1)) fun a8 =>
     ck (μ6 x0 (-2) = 5) <|
     nm (mset μ6 x0 1 a8) fun μ10 =>
     some (1, μ10))
  else
  some (0, μ)
set_option maxHeartbeats 4000000 in
set_option maxRecDepth 100000 in
theorem c_X3_append (l : Launch) (E : gE) (N : Nat) (x0 x1 : Int) (μ μ' : Mm) (r : Int) (h : f_X3_append N x0 x1 μ = some (r, μ')) (rx1 : R32 x1) : gMet l E yX3_append cX3_append 2 (some .boolean) 0 0 [vr E x0, vi x1] (some (vi r)) (R32 r) μ μ' 0 0 := by
  refine g_ofW [1, 1] (by first | (simp only [List.map_cons, List.map_nil, vr_cat]; done) | (simp only [List.map_cons, List.map_nil, vr_cat]; rfl)) (by decide) (by decide) (fun p e s m below meth c ls C hM hl => ?_)
  replace C : gCx p s m _ meth c cX3_append 2 (some .boolean) "append" RX3 := C
  replace hl : lv_has ls 2 [(0, vr E x0), (1, vi x1)] := hl
  unfold f_X3_append at h
  refine m_aload_n (pc := 0) C dX3_append_0 rfl (lv_at hl 0 rfl) ?_
  obtain ⟨q1, h⟩ := ck_some h
  have gq1 := Gr_X3_length hM q1
  refine G_X3_length (pc := 1) C hM bw_2_11 q1 dX3_append_1 ?_
  refine m_bipush (pc := 4) C dX3_append_4 rfl ?_
  refine m_icmp_lt (tgt := 11) (pc := 6) C gq1 rk_80 dX3_append_6 (by decide) (fun c2 => ?_) (fun c2 => ?_)
  · have h := if_t h c2
    refine m_aload_n (pc := 11) C dX3_append_11 rfl (lv_at hl 0 rfl) ?_
    obtain ⟨q3, h⟩ := ck_some h
    refine G_X3_text (pc := 12) C hM bw_2_10 q3 dX3_append_12 ?_
    refine m_aload_n (pc := 15) C dX3_append_15 rfl (lv_at hl 0 rfl) ?_
    obtain ⟨q4, h⟩ := ck_some h
    have gq4 := Gr_X3_length hM q4
    refine G_X3_length (pc := 16) C hM bw_2_11 q4 dX3_append_16 ?_
    refine m_iload_n (pc := 19) C dX3_append_19 rfl (lv_at hl 1 rfl) ?_
    obtain ⟨q5, h⟩ := ck_some h
    obtain ⟨μ6, eμ6, h⟩ := nm_some h
    refine m_cast (pc := 20) C hM q5.1 q5.2.1  q5.2.2.1 q5.2.2.2.1 q5.2.2.2.2 eμ6 dX3_append_20 (fun H locs hM => ?_)
    refine m_aload_n (pc := 21) C dX3_append_21 rfl (lv_at hl 0 rfl) ?_
    refine m_dup (pc := 22) C (vr_cat _ _) dX3_append_22 ?_
    obtain ⟨q7, h⟩ := ck_some h
    have gq7 := Gr_X3_length hM q7
    refine G_X3_length (pc := 23) C hM bw_2_11 q7 dX3_append_23 ?_
    refine m_iconst (pc := 26) C dX3_append_26 ?_
    obtain ⟨a8, ea8, h⟩ := nm_some h
    have ra8 : R32 a8 := by rw [ea8]; exact w32_R _
    refine m_iadd (pc := 27) C dX3_append_27 ea8 ?_
    obtain ⟨q9, h⟩ := ck_some h
    obtain ⟨μ10, eμ10, h⟩ := nm_some h
    refine P_X3_length (pc := 28) C hM bw_2_11 q9 ra8 eμ10 dX3_append_28 (fun H locs hM => ?_)
    refine m_iconst (pc := 31) C dX3_append_31 ?_
    cases h
    exact m_zret (pc := 32) C rfl hM rk_1 dX3_append_32
  · have h := if_f h c2
    refine m_iconst (pc := 9) C dX3_append_9 ?_
    cases h
    exact m_zret (pc := 10) C rfl hM rk_0 dX3_append_10
theorem hd_X3_append : yX3_append.cls ≠ "java/lang/invoke/MethodHandle" ∧ yX3_append.cls ≠ "java/lang/invoke/VarHandle" ∧ (parseMethodDescriptor yX3_append.desc).map (fun d => d.parameters.length) = some 1 := by decide +kernel

theorem V_X3_append {p : Program} {l : Launch} {e : Env} {R : Room} {s : State} {m : MethodId} {args : Array Value} {below : List Frame} {meth : Method} {c : Code} {H : Heap} {locs : List Loc} {cells slots : Nat} {Q : State → Prop} {cc : ByteArray} {pc nL : Nat} {ls : Array Slot} {rest : List Value} {ret : Option FieldType} {nmm own : String} {E : gE} {μ μ1 : Mm} {index : Nat} (C : gCx p s m args meth c cc nL ret nmm own) (hM : MS E μ s H locs) {N : Nat} {x0 x1 v : Int} (hc : f_X3_append N x0 x1 μ = some (v, μ1)) (rx1 : R32 x1) (hck : μ x0 (-2) = 5) (h1 : Cond.methodLink own index yX3_append ∈ bigL) (hR : 1 ≤ R.frames ∧ 21 ≤ R.locals) (hl : ls.size = nL) (hcat : RC rest 8) (hf : cells + 0 ≤ R.cells ∧ slots + 0 ≤ R.slots) (hdg : decode cc pc = .ok (.invokevirtual index, 3)) (kk : (R32 v) → ∀ (H1 : Heap) (locs1 : List Loc), MS E μ1 s H1 locs1 → W p l e R s m args below meth c H1 locs1 (cells + 0) (slots + 0) Q (F0 m (pc + 3) ls (vi v :: rest))) : W p l e R s m args below meth c H locs cells slots Q (F0 m pc ls (vi x1 :: vr E x0 :: rest)) := g_callV C KF_X3 hM (c_X3_append l E N x0 x1 μ μ1 v hc rx1) hck (gV h1 bw_5_24 bw_5_25 bw_1_8 bw_5_26) ⟨rfl, hd_X3_append⟩ hR rfl hl rfl hcat hf hdg kk
/-! X3_goToStart -/
def f_X3_goToStart (N : Nat) (x0 : Int) (μ : Mm) : Rs :=
  ck (μ x0 (-2) = 5) <|
  nm (mset μ x0 2 0) fun μ2 =>
  some (0, μ2)
set_option maxHeartbeats 4000000 in
set_option maxRecDepth 100000 in
theorem c_X3_goToStart (l : Launch) (E : gE) (N : Nat) (x0 : Int) (μ μ' : Mm) (r : Int) (h : f_X3_goToStart N x0 μ = some (r, μ')) : gMet l E yX3_goToStart cX3_goToStart 1 none 0 0 [vr E x0] none True μ μ' 0 0 := by
  refine g_ofW [1] (by first | (simp only [List.map_cons, List.map_nil, vr_cat]; done) | (simp only [List.map_cons, List.map_nil, vr_cat]; rfl)) (by decide) (by decide) (fun p e s m below meth c ls C hM hl => ?_)
  replace C : gCx p s m _ meth c cX3_goToStart 1 none "goToStart" RX3 := C
  replace hl : lv_has ls 1 [(0, vr E x0)] := hl
  unfold f_X3_goToStart at h
  refine m_aload_n (pc := 0) C dX3_goToStart_0 rfl (lv_at hl 0 rfl) ?_
  refine m_iconst (pc := 1) C dX3_goToStart_1 ?_
  obtain ⟨q1, h⟩ := ck_some h
  obtain ⟨μ2, eμ2, h⟩ := nm_some h
  refine P_X3_position (pc := 2) C hM bw_2_13 q1 rk_0 eμ2 dX3_goToStart_2 (fun H locs hM => ?_)
  cases h
  exact m_vret (pc := 5) C hM trivial dX3_goToStart_5
theorem hd_X3_goToStart : yX3_goToStart.cls ≠ "java/lang/invoke/MethodHandle" ∧ yX3_goToStart.cls ≠ "java/lang/invoke/VarHandle" ∧ (parseMethodDescriptor yX3_goToStart.desc).map (fun d => d.parameters.length) = some 0 := by decide +kernel

theorem V_X3_goToStart {p : Program} {l : Launch} {e : Env} {R : Room} {s : State} {m : MethodId} {args : Array Value} {below : List Frame} {meth : Method} {c : Code} {H : Heap} {locs : List Loc} {cells slots : Nat} {Q : State → Prop} {cc : ByteArray} {pc nL : Nat} {ls : Array Slot} {rest : List Value} {ret : Option FieldType} {nmm own : String} {E : gE} {μ μ1 : Mm} {index : Nat} (C : gCx p s m args meth c cc nL ret nmm own) (hM : MS E μ s H locs) {N : Nat} {x0 v : Int} (hc : f_X3_goToStart N x0 μ = some (v, μ1)) (hck : μ x0 (-2) = 5) (h1 : Cond.methodLink own index yX3_goToStart ∈ bigL) (hR : 1 ≤ R.frames ∧ 20 ≤ R.locals) (hl : ls.size = nL) (hcat : RC rest 8) (hf : cells + 0 ≤ R.cells ∧ slots + 0 ≤ R.slots) (hdg : decode cc pc = .ok (.invokevirtual index, 3)) (kk : True → ∀ (H1 : Heap) (locs1 : List Loc), MS E μ1 s H1 locs1 → W p l e R s m args below meth c H1 locs1 (cells + 0) (slots + 0) Q (F0 m (pc + 3) ls rest)) : W p l e R s m args below meth c H locs cells slots Q (F0 m pc ls (vr E x0 :: rest)) := g_callV C KF_X3 hM (c_X3_goToStart l E N x0 μ μ1 v hc) hck (gV h1 bw_4_163 bw_4_164 bw_1_8 bw_4_165) ⟨rfl, hd_X3_goToStart⟩ hR rfl hl rfl hcat hf hdg kk
/-! X3_endOfToken -/
def f_X3_endOfToken_b2 (N : Nat) : Nat → Int → Int → Mm → Rs
  | 0, _, _, _ => none
  | n + 1, x0, x2, μ =>
    ck (μ x0 (-2) = 5) <|
    if (μ x0 1) ≤ x2 then
      (ck (μ x0 (-2) = 5) <|
       some (μ x0 1, μ))
    else
    ck (μ x0 (-2) = 5) <|
    ck (μ (μ x0 0) (-2) = 22 ∧ (0 : Int) ≤ x2 ∧ x2 < μ (μ x0 0) (-1)) <|
    if (μ (μ x0 0) x2) = 32 then
      (some (x2, μ))
    else
    ck (μ x0 (-2) = 5) <|
    ck (μ (μ x0 0) (-2) = 22 ∧ (0 : Int) ≤ x2 ∧ x2 < μ (μ x0 0) (-1)) <|
    if ¬ (μ (μ x0 0) x2) = 59 then
      (nm (w32 (x2 + 1)) fun a10 =>
       f_X3_endOfToken_b2 N n x0 a10 μ)
    else
    some (x2, μ)
def f_X3_endOfToken (N : Nat) (x0 x1 : Int) (μ : Mm) : Rs :=
  f_X3_endOfToken_b2 N N x0 x1 μ
set_option maxHeartbeats 4000000 in
set_option maxRecDepth 100000 in
theorem k_X3_endOfToken_b2 (C : gCx p s m args meth c cX3_endOfToken 3 (some .int) "endOfToken" RX3) (N : Nat) {r : Int} {μ' : Mm} : ∀ (n : Nat), ∀ (x0 x2 : Int) (μ : Mm), f_X3_endOfToken_b2 N n x0 x2 μ = some (r, μ') → R32 x2 → ∀ (H : Heap) (locs : List Loc) (ls : Array Slot), MS E μ s H locs → lv_has ls 3 [(0, vr E x0), (2, vi x2)] → W p l e ({ frames := 0, cells := 0, slots := 0, locals := 0 } : Room) s m args below meth c H locs 0 0 (MQ below (gQ E (some (vi r)) (R32 r) μ') args s 0 0 (gA E)) (F0 m 2 ls []) := by
  intro n
  induction n with
  | zero => intro x0 x2 μ h; simp [f_X3_endOfToken_b2] at h
  | succ n ih =>
    intro x0 x2 μ h rx2 H locs ls hM hl
    rw [f_X3_endOfToken_b2] at h
    refine m_iload_n (pc := 2) C dX3_endOfToken_2 rfl (lv_at hl 1 rfl) ?_
    refine m_aload_n (pc := 3) C dX3_endOfToken_3 rfl (lv_at hl 0 rfl) ?_
    obtain ⟨q1, h⟩ := ck_some h
    have gq1 := Gr_X3_length hM q1
    refine G_X3_length (pc := 4) C hM bw_2_11 q1 dX3_endOfToken_4 ?_
    refine m_icmp_ge (tgt := 40) (pc := 7) C rx2 gq1 dX3_endOfToken_7 (by decide) (fun c2 => ?_) (fun c2 => ?_)
    · have h := if_t h c2
      refine m_aload_n (pc := 40) C dX3_endOfToken_40 rfl (lv_at hl 0 rfl) ?_
      obtain ⟨q3, h⟩ := ck_some h
      have gq3 := Gr_X3_length hM q3
      refine G_X3_length (pc := 41) C hM bw_2_11 q3 dX3_endOfToken_41 ?_
      cases h
      exact m_iret (pc := 44) C hM gq3 dX3_endOfToken_44
    · have h := if_f h c2
      refine m_aload_n (pc := 10) C dX3_endOfToken_10 rfl (lv_at hl 0 rfl) ?_
      obtain ⟨q4, h⟩ := ck_some h
      refine G_X3_text (pc := 11) C hM bw_2_10 q4 dX3_endOfToken_11 ?_
      refine m_iload_n (pc := 14) C dX3_endOfToken_14 rfl (lv_at hl 1 rfl) ?_
      obtain ⟨q5, h⟩ := ck_some h
      have gq5 := Ar_cald hM q5.1 q5.2.1 q5.2.2
      refine m_cald (pc := 15) C hM q5.1 q5.2.1 q5.2.2 dX3_endOfToken_15 ?_
      refine m_bipush (pc := 16) C dX3_endOfToken_16 rfl ?_
      refine m_icmp_eq (tgt := 32) (pc := 18) C gq5 rk_32 dX3_endOfToken_18 (by decide) (fun c6 => ?_) (fun c6 => ?_)
      · have h := if_t h c6
        refine m_iload_n (pc := 32) C dX3_endOfToken_32 rfl (lv_at hl 1 rfl) ?_
        cases h
        exact m_iret (pc := 33) C hM rx2 dX3_endOfToken_33
      · have h := if_f h c6
        refine m_aload_n (pc := 21) C dX3_endOfToken_21 rfl (lv_at hl 0 rfl) ?_
        obtain ⟨q7, h⟩ := ck_some h
        refine G_X3_text (pc := 22) C hM bw_2_10 q7 dX3_endOfToken_22 ?_
        refine m_iload_n (pc := 25) C dX3_endOfToken_25 rfl (lv_at hl 1 rfl) ?_
        obtain ⟨q8, h⟩ := ck_some h
        have gq8 := Ar_cald hM q8.1 q8.2.1 q8.2.2
        refine m_cald (pc := 26) C hM q8.1 q8.2.1 q8.2.2 dX3_endOfToken_26 ?_
        refine m_bipush (pc := 27) C dX3_endOfToken_27 rfl ?_
        refine m_icmp_ne (tgt := 34) (pc := 29) C gq8 rk_59 dX3_endOfToken_29 (by decide) (fun c9 => ?_) (fun c9 => ?_)
        · have h := if_t h c9
          obtain ⟨a10, ea10, h⟩ := nm_some h
          have ra10 : R32 a10 := by rw [ea10]; exact w32_R _
          refine m_iinc (k := 1) (pc := 34) C dX3_endOfToken_34 hl rfl (by decide) ea10 (lvK1 0 rfl (Nat.ne_of_beq_eq_false rfl) (Nat.ne_of_beq_eq_false rfl) lvK0) (fun ls hl => ?_)
          refine m_goto (tgt := 2) (pc := 37) C dX3_endOfToken_37 (by decide) ?_
          exact ih _ _ _ h ra10 _ _ _ hM (lv_sub hl [1, 0] rfl)
        · have h := if_f h c9
          refine m_iload_n (pc := 32) C dX3_endOfToken_32 rfl (lv_at hl 1 rfl) ?_
          cases h
          exact m_iret (pc := 33) C hM rx2 dX3_endOfToken_33
set_option maxHeartbeats 4000000 in
set_option maxRecDepth 100000 in
theorem c_X3_endOfToken (l : Launch) (E : gE) (N : Nat) (x0 x1 : Int) (μ μ' : Mm) (r : Int) (h : f_X3_endOfToken N x0 x1 μ = some (r, μ')) (rx1 : R32 x1) : gMet l E yX3_endOfToken cX3_endOfToken 3 (some .int) 0 0 [vr E x0, vi x1] (some (vi r)) (R32 r) μ μ' 0 0 := by
  refine g_ofW [1, 1] (by first | (simp only [List.map_cons, List.map_nil, vr_cat]; done) | (simp only [List.map_cons, List.map_nil, vr_cat]; rfl)) (by decide) (by decide) (fun p e s m below meth c ls C hM hl => ?_)
  replace C : gCx p s m _ meth c cX3_endOfToken 3 (some .int) "endOfToken" RX3 := C
  replace hl : lv_has ls 3 [(0, vr E x0), (1, vi x1)] := hl
  unfold f_X3_endOfToken at h
  refine m_iload_n (pc := 0) C dX3_endOfToken_0 rfl (lv_at hl 1 rfl) ?_
  refine m_istore_n (pc := 1) C dX3_endOfToken_1 rfl hl (by decide) (lvK1 0 rfl (Nat.ne_of_beq_eq_false rfl) (Nat.ne_of_beq_eq_false rfl) lvK0) (fun ls hl => ?_)
  exact k_X3_endOfToken_b2 C N N _ _ _ h rx1 _ _ _ hM (lv_sub hl [1, 0] rfl)
theorem hd_X3_endOfToken : yX3_endOfToken.cls ≠ "java/lang/invoke/MethodHandle" ∧ yX3_endOfToken.cls ≠ "java/lang/invoke/VarHandle" ∧ (parseMethodDescriptor yX3_endOfToken.desc).map (fun d => d.parameters.length) = some 1 := by decide +kernel

theorem V_X3_endOfToken {p : Program} {l : Launch} {e : Env} {R : Room} {s : State} {m : MethodId} {args : Array Value} {below : List Frame} {meth : Method} {c : Code} {H : Heap} {locs : List Loc} {cells slots : Nat} {Q : State → Prop} {cc : ByteArray} {pc nL : Nat} {ls : Array Slot} {rest : List Value} {ret : Option FieldType} {nmm own : String} {E : gE} {μ μ1 : Mm} {index : Nat} (C : gCx p s m args meth c cc nL ret nmm own) (hM : MS E μ s H locs) {N : Nat} {x0 x1 v : Int} (hc : f_X3_endOfToken N x0 x1 μ = some (v, μ1)) (rx1 : R32 x1) (hck : μ x0 (-2) = 5) (h1 : Cond.methodLink own index yX3_endOfToken ∈ bigL) (hR : 1 ≤ R.frames ∧ 22 ≤ R.locals) (hl : ls.size = nL) (hcat : RC rest 8) (hf : cells + 0 ≤ R.cells ∧ slots + 0 ≤ R.slots) (hdg : decode cc pc = .ok (.invokevirtual index, 3)) (kk : (R32 v) → ∀ (H1 : Heap) (locs1 : List Loc), MS E μ1 s H1 locs1 → W p l e R s m args below meth c H1 locs1 (cells + 0) (slots + 0) Q (F0 m (pc + 3) ls (vi v :: rest))) : W p l e R s m args below meth c H locs cells slots Q (F0 m pc ls (vi x1 :: vr E x0 :: rest)) := g_callV C KF_X3 hM (c_X3_endOfToken l E N x0 x1 μ μ1 v hc rx1) hck (gV h1 bw_4_172 bs_14 bw_1_8 bw_4_173) ⟨rfl, hd_X3_endOfToken⟩ hR rfl hl rfl hcat hf hdg kk
/-! X3_wordOf -/
def f_X3_wordOf_b44 (N : Nat) (μ : Mm) : Rs :=
  some ((-1), μ)
def f_X3_wordOf_b47 (N : Nat) (μ : Mm) : Rs :=
  some ((-2), μ)
def f_X3_wordOf_b50 (N : Nat) (μ : Mm) : Rs :=
  some ((-3), μ)
def f_X3_wordOf_b53 (N : Nat) (μ : Mm) : Rs :=
  some ((-4), μ)
def f_X3_wordOf_b56 (N : Nat) (μ : Mm) : Rs :=
  some ((-5), μ)
def f_X3_wordOf_b59 (N : Nat) (μ : Mm) : Rs :=
  some ((-6), μ)
def f_X3_wordOf_b62 (N : Nat) (μ : Mm) : Rs :=
  some ((-7), μ)
def f_X3_wordOf_b65 (N : Nat) (μ : Mm) : Rs :=
  some ((-8), μ)
def f_X3_wordOf (N : Nat) (x0 : Int) (μ : Mm) : Rs :=
  if x0 = 0 then
    (f_X3_wordOf_b44 N μ)
  else
  if x0 = 1 then
    (f_X3_wordOf_b47 N μ)
  else
  if x0 = 2 then
    (f_X3_wordOf_b50 N μ)
  else
  if x0 = 3 then
    (f_X3_wordOf_b53 N μ)
  else
  if x0 = 4 then
    (f_X3_wordOf_b56 N μ)
  else
  if x0 = 5 then
    (f_X3_wordOf_b59 N μ)
  else
  if x0 = 6 then
    (f_X3_wordOf_b62 N μ)
  else
  f_X3_wordOf_b65 N μ
set_option maxHeartbeats 4000000 in
set_option maxRecDepth 100000 in
theorem k_X3_wordOf_b44 (C : gCx p s m args meth c cX3_wordOf 1 (some (.object "java/lang/String")) "wordOf" RX3) (N : Nat) {r : Int} {μ' : Mm} : ∀ (μ : Mm), f_X3_wordOf_b44 N μ = some (r, μ') → ∀ (H : Heap) (locs : List Loc) (ls : Array Slot), MS E μ s H locs → lv_has ls 1 [] → W p l e ({ frames := 0, cells := 0, slots := 0, locals := 0 } : Room) s m args below meth c H locs 0 0 (MQ below (gQ E (some (vr E r)) True μ') args s 0 0 (gA E)) (F0 m 44 ls []) := by
  intro μ h H locs ls hM hl
  unfold f_X3_wordOf_b44 at h
  refine m_ldcS (pc := 44) C hM 0 rfl (by decide) rfl dX3_wordOf_44 ?_
  cases h
  exact m_aret (pc := 46) C (Or.inl ⟨_, rfl⟩) hM trivial dX3_wordOf_46
set_option maxHeartbeats 4000000 in
set_option maxRecDepth 100000 in
theorem k_X3_wordOf_b47 (C : gCx p s m args meth c cX3_wordOf 1 (some (.object "java/lang/String")) "wordOf" RX3) (N : Nat) {r : Int} {μ' : Mm} : ∀ (μ : Mm), f_X3_wordOf_b47 N μ = some (r, μ') → ∀ (H : Heap) (locs : List Loc) (ls : Array Slot), MS E μ s H locs → lv_has ls 1 [] → W p l e ({ frames := 0, cells := 0, slots := 0, locals := 0 } : Room) s m args below meth c H locs 0 0 (MQ below (gQ E (some (vr E r)) True μ') args s 0 0 (gA E)) (F0 m 47 ls []) := by
  intro μ h H locs ls hM hl
  unfold f_X3_wordOf_b47 at h
  refine m_ldcS (pc := 47) C hM 1 rfl (by decide) rfl dX3_wordOf_47 ?_
  cases h
  exact m_aret (pc := 49) C (Or.inl ⟨_, rfl⟩) hM trivial dX3_wordOf_49
set_option maxHeartbeats 4000000 in
set_option maxRecDepth 100000 in
theorem k_X3_wordOf_b50 (C : gCx p s m args meth c cX3_wordOf 1 (some (.object "java/lang/String")) "wordOf" RX3) (N : Nat) {r : Int} {μ' : Mm} : ∀ (μ : Mm), f_X3_wordOf_b50 N μ = some (r, μ') → ∀ (H : Heap) (locs : List Loc) (ls : Array Slot), MS E μ s H locs → lv_has ls 1 [] → W p l e ({ frames := 0, cells := 0, slots := 0, locals := 0 } : Room) s m args below meth c H locs 0 0 (MQ below (gQ E (some (vr E r)) True μ') args s 0 0 (gA E)) (F0 m 50 ls []) := by
  intro μ h H locs ls hM hl
  unfold f_X3_wordOf_b50 at h
  refine m_ldcS (pc := 50) C hM 2 rfl (by decide) rfl dX3_wordOf_50 ?_
  cases h
  exact m_aret (pc := 52) C (Or.inl ⟨_, rfl⟩) hM trivial dX3_wordOf_52
set_option maxHeartbeats 4000000 in
set_option maxRecDepth 100000 in
theorem k_X3_wordOf_b53 (C : gCx p s m args meth c cX3_wordOf 1 (some (.object "java/lang/String")) "wordOf" RX3) (N : Nat) {r : Int} {μ' : Mm} : ∀ (μ : Mm), f_X3_wordOf_b53 N μ = some (r, μ') → ∀ (H : Heap) (locs : List Loc) (ls : Array Slot), MS E μ s H locs → lv_has ls 1 [] → W p l e ({ frames := 0, cells := 0, slots := 0, locals := 0 } : Room) s m args below meth c H locs 0 0 (MQ below (gQ E (some (vr E r)) True μ') args s 0 0 (gA E)) (F0 m 53 ls []) := by
  intro μ h H locs ls hM hl
  unfold f_X3_wordOf_b53 at h
  refine m_ldcS (pc := 53) C hM 3 rfl (by decide) rfl dX3_wordOf_53 ?_
  cases h
  exact m_aret (pc := 55) C (Or.inl ⟨_, rfl⟩) hM trivial dX3_wordOf_55
set_option maxHeartbeats 4000000 in
set_option maxRecDepth 100000 in
theorem k_X3_wordOf_b56 (C : gCx p s m args meth c cX3_wordOf 1 (some (.object "java/lang/String")) "wordOf" RX3) (N : Nat) {r : Int} {μ' : Mm} : ∀ (μ : Mm), f_X3_wordOf_b56 N μ = some (r, μ') → ∀ (H : Heap) (locs : List Loc) (ls : Array Slot), MS E μ s H locs → lv_has ls 1 [] → W p l e ({ frames := 0, cells := 0, slots := 0, locals := 0 } : Room) s m args below meth c H locs 0 0 (MQ below (gQ E (some (vr E r)) True μ') args s 0 0 (gA E)) (F0 m 56 ls []) := by
  intro μ h H locs ls hM hl
  unfold f_X3_wordOf_b56 at h
  refine m_ldcS (pc := 56) C hM 4 rfl (by decide) rfl dX3_wordOf_56 ?_
  cases h
  exact m_aret (pc := 58) C (Or.inl ⟨_, rfl⟩) hM trivial dX3_wordOf_58
set_option maxHeartbeats 4000000 in
set_option maxRecDepth 100000 in
theorem k_X3_wordOf_b59 (C : gCx p s m args meth c cX3_wordOf 1 (some (.object "java/lang/String")) "wordOf" RX3) (N : Nat) {r : Int} {μ' : Mm} : ∀ (μ : Mm), f_X3_wordOf_b59 N μ = some (r, μ') → ∀ (H : Heap) (locs : List Loc) (ls : Array Slot), MS E μ s H locs → lv_has ls 1 [] → W p l e ({ frames := 0, cells := 0, slots := 0, locals := 0 } : Room) s m args below meth c H locs 0 0 (MQ below (gQ E (some (vr E r)) True μ') args s 0 0 (gA E)) (F0 m 59 ls []) := by
  intro μ h H locs ls hM hl
  unfold f_X3_wordOf_b59 at h
  refine m_ldcS (pc := 59) C hM 5 rfl (by decide) rfl dX3_wordOf_59 ?_
  cases h
  exact m_aret (pc := 61) C (Or.inl ⟨_, rfl⟩) hM trivial dX3_wordOf_61
set_option maxHeartbeats 4000000 in
set_option maxRecDepth 100000 in
theorem k_X3_wordOf_b62 (C : gCx p s m args meth c cX3_wordOf 1 (some (.object "java/lang/String")) "wordOf" RX3) (N : Nat) {r : Int} {μ' : Mm} : ∀ (μ : Mm), f_X3_wordOf_b62 N μ = some (r, μ') → ∀ (H : Heap) (locs : List Loc) (ls : Array Slot), MS E μ s H locs → lv_has ls 1 [] → W p l e ({ frames := 0, cells := 0, slots := 0, locals := 0 } : Room) s m args below meth c H locs 0 0 (MQ below (gQ E (some (vr E r)) True μ') args s 0 0 (gA E)) (F0 m 62 ls []) := by
  intro μ h H locs ls hM hl
  unfold f_X3_wordOf_b62 at h
  refine m_ldcS (pc := 62) C hM 6 rfl (by decide) rfl dX3_wordOf_62 ?_
  cases h
  exact m_aret (pc := 64) C (Or.inl ⟨_, rfl⟩) hM trivial dX3_wordOf_64
set_option maxHeartbeats 4000000 in
set_option maxRecDepth 100000 in
theorem k_X3_wordOf_b65 (C : gCx p s m args meth c cX3_wordOf 1 (some (.object "java/lang/String")) "wordOf" RX3) (N : Nat) {r : Int} {μ' : Mm} : ∀ (μ : Mm), f_X3_wordOf_b65 N μ = some (r, μ') → ∀ (H : Heap) (locs : List Loc) (ls : Array Slot), MS E μ s H locs → lv_has ls 1 [] → W p l e ({ frames := 0, cells := 0, slots := 0, locals := 0 } : Room) s m args below meth c H locs 0 0 (MQ below (gQ E (some (vr E r)) True μ') args s 0 0 (gA E)) (F0 m 65 ls []) := by
  intro μ h H locs ls hM hl
  unfold f_X3_wordOf_b65 at h
  refine m_ldcS (pc := 65) C hM 7 rfl (by decide) rfl dX3_wordOf_65 ?_
  cases h
  exact m_aret (pc := 67) C (Or.inl ⟨_, rfl⟩) hM trivial dX3_wordOf_67
set_option maxHeartbeats 4000000 in
set_option maxRecDepth 100000 in
theorem c_X3_wordOf (l : Launch) (E : gE) (N : Nat) (x0 : Int) (μ μ' : Mm) (r : Int) (h : f_X3_wordOf N x0 μ = some (r, μ')) (rx0 : R32 x0) : gMet l E yX3_wordOf cX3_wordOf 1 (some (.object "java/lang/String")) 0 0 [vi x0] (some (vr E r)) True μ μ' 0 0 := by
  refine g_ofW [1] rfl (by decide) (by decide) (fun p e s m below meth c ls C hM hl => ?_)
  replace C : gCx p s m _ meth c cX3_wordOf 1 (some (.object "java/lang/String")) "wordOf" RX3 := C
  replace hl : lv_has ls 1 [(0, vi x0)] := hl
  unfold f_X3_wordOf at h
  refine m_iload_n (pc := 0) C dX3_wordOf_0 rfl (lv_at hl 0 rfl) ?_
  by_cases c1 : x0 = 0
  · have h := if_t h c1
    refine m_tab (pc := 1) (tgt := 44) C rx0 c1 dX3_wordOf_1 (by decide) (by decide) rfl (by decide) ?_
    exact k_X3_wordOf_b44 C N _ h _ _ _ hM (lv_sub hl [] rfl)
  replace h := if_f h c1
  by_cases c2 : x0 = 1
  · have h := if_t h c2
    refine m_tab (pc := 1) (tgt := 47) C rx0 c2 dX3_wordOf_1 (by decide) (by decide) rfl (by decide) ?_
    exact k_X3_wordOf_b47 C N _ h _ _ _ hM (lv_sub hl [] rfl)
  replace h := if_f h c2
  by_cases c3 : x0 = 2
  · have h := if_t h c3
    refine m_tab (pc := 1) (tgt := 50) C rx0 c3 dX3_wordOf_1 (by decide) (by decide) rfl (by decide) ?_
    exact k_X3_wordOf_b50 C N _ h _ _ _ hM (lv_sub hl [] rfl)
  replace h := if_f h c3
  by_cases c4 : x0 = 3
  · have h := if_t h c4
    refine m_tab (pc := 1) (tgt := 53) C rx0 c4 dX3_wordOf_1 (by decide) (by decide) rfl (by decide) ?_
    exact k_X3_wordOf_b53 C N _ h _ _ _ hM (lv_sub hl [] rfl)
  replace h := if_f h c4
  by_cases c5 : x0 = 4
  · have h := if_t h c5
    refine m_tab (pc := 1) (tgt := 56) C rx0 c5 dX3_wordOf_1 (by decide) (by decide) rfl (by decide) ?_
    exact k_X3_wordOf_b56 C N _ h _ _ _ hM (lv_sub hl [] rfl)
  replace h := if_f h c5
  by_cases c6 : x0 = 5
  · have h := if_t h c6
    refine m_tab (pc := 1) (tgt := 59) C rx0 c6 dX3_wordOf_1 (by decide) (by decide) rfl (by decide) ?_
    exact k_X3_wordOf_b59 C N _ h _ _ _ hM (lv_sub hl [] rfl)
  replace h := if_f h c6
  by_cases c7 : x0 = 6
  · have h := if_t h c7
    refine m_tab (pc := 1) (tgt := 62) C rx0 c7 dX3_wordOf_1 (by decide) (by decide) rfl (by decide) ?_
    exact k_X3_wordOf_b62 C N _ h _ _ _ hM (lv_sub hl [] rfl)
  replace h := if_f h c7
  refine m_tabD (pc := 1) (tgt := 65) C rx0 dX3_wordOf_1 (by omega) (by decide) ?_
  exact k_X3_wordOf_b65 C N _ h _ _ _ hM (lv_sub hl [] rfl)
theorem hd_X3_wordOf : yX3_wordOf.cls ≠ "java/lang/invoke/MethodHandle" ∧ yX3_wordOf.cls ≠ "java/lang/invoke/VarHandle" ∧ (parseMethodDescriptor yX3_wordOf.desc).map (fun d => d.parameters.length) = some 1 := by decide +kernel

theorem V_X3_wordOf {p : Program} {l : Launch} {e : Env} {R : Room} {s : State} {m : MethodId} {args : Array Value} {below : List Frame} {meth : Method} {c : Code} {H : Heap} {locs : List Loc} {cells slots : Nat} {Q : State → Prop} {cc : ByteArray} {pc nL : Nat} {ls : Array Slot} {rest : List Value} {ret : Option FieldType} {nmm own : String} {E : gE} {μ μ1 : Mm} {index : Nat} (C : gCx p s m args meth c cc nL ret nmm own) (hM : MS E μ s H locs) {N : Nat} {x0 v : Int} (hc : f_X3_wordOf N x0 μ = some (v, μ1)) (rx0 : R32 x0) (h1 : Cond.methodLink own index yX3_wordOf ∈ bigL) (hR : 1 ≤ R.frames ∧ 20 ≤ R.locals) (hl : ls.size = nL) (hcat : RC rest 8) (hf : cells + 0 ≤ R.cells ∧ slots + 0 ≤ R.slots) (hdg : decode cc pc = .ok (.invokestatic index, 3)) (kk : True → ∀ (H1 : Heap) (locs1 : List Loc), MS E μ1 s H1 locs1 → W p l e R s m args below meth c H1 locs1 (cells + 0) (slots + 0) Q (F0 m (pc + 3) ls (vr E v :: rest))) : W p l e R s m args below meth c H locs cells slots Q (F0 m pc ls (vi x0 :: rest)) := g_callS C hM (c_X3_wordOf l E N x0 μ μ1 v hc rx0) (gS h1 bw_4_179 bw_1_8 bw_4_180) hd_X3_wordOf hR rfl hl rfl hcat hf hdg kk
/-! J0_coder_7d493 -/
def f_J0_coder_7d493 (N : Nat) (x0 : Int) (μ : Mm) : Rs :=
  if (1 : Int) = 0 then
    (some (1, μ))
  else
  ck (μ x0 (-2) = 11) <|
  ck ((-128 : Int) ≤ (μ x0 1) ∧ (μ x0 1) ≤ (127 : Int)) <|
  some (μ x0 1, μ)
set_option maxHeartbeats 4000000 in
set_option maxRecDepth 100000 in
theorem c_J0_coder_7d493 (l : Launch) (E : gE) (N : Nat) (x0 : Int) (μ μ' : Mm) (r : Int) (h : f_J0_coder_7d493 N x0 μ = some (r, μ')) : gMet l E yJ0_coder_7d493 cJ0_coder_7d493 1 (some .byte) 0 0 [vr E x0] (some (vi r)) (R32 r) μ μ' 0 0 := by
  refine g_ofW [1] (by first | (simp only [List.map_cons, List.map_nil, vr_cat]; done) | (simp only [List.map_cons, List.map_nil, vr_cat]; rfl)) (by decide) (by decide) (fun p e s m below meth c ls C hM hl => ?_)
  replace C : gCx p s m _ meth c cJ0_coder_7d493 1 (some .byte) "coder" RJ0 := C
  replace hl : lv_has ls 1 [(0, vr E x0)] := hl
  unfold f_J0_coder_7d493 at h
  refine m_compact (pc := 0) C hM bw_4_201 dJ0_coder_7d493_0 ?_
  refine m_if_eq (tgt := 13) (pc := 3) C rk_1 dJ0_coder_7d493_3 (by decide) (fun c1 => ?_) (fun c1 => ?_)
  · have h := if_t h c1
    refine m_iconst (pc := 13) C dJ0_coder_7d493_13 ?_
    cases h
    exact m_zret (pc := 14) C rfl hM rk_1 dJ0_coder_7d493_14
  · have h := if_f h c1
    refine m_aload_n (pc := 6) C dJ0_coder_7d493_6 rfl (lv_at hl 0 rfl) ?_
    obtain ⟨q2, h⟩ := ck_some h
    have gq2 := GrS_coder hM q2
    refine GS_coder (pc := 7) C hM bw_5_39 q2 dJ0_coder_7d493_7 ?_
    refine m_goto (tgt := 14) (pc := 10) C dJ0_coder_7d493_10 (by decide) ?_
    obtain ⟨q3, h⟩ := ck_some h
    cases h
    exact m_zret (pc := 14) C (nar_b q3.1 q3.2) hM gq2 dJ0_coder_7d493_14
theorem hd_J0_coder_7d493 : yJ0_coder_7d493.cls ≠ "java/lang/invoke/MethodHandle" ∧ yJ0_coder_7d493.cls ≠ "java/lang/invoke/VarHandle" ∧ (parseMethodDescriptor yJ0_coder_7d493.desc).map (fun d => d.parameters.length) = some 0 := by decide +kernel

theorem V_J0_coder_7d493 {p : Program} {l : Launch} {e : Env} {R : Room} {s : State} {m : MethodId} {args : Array Value} {below : List Frame} {meth : Method} {c : Code} {H : Heap} {locs : List Loc} {cells slots : Nat} {Q : State → Prop} {cc : ByteArray} {pc nL : Nat} {ls : Array Slot} {rest : List Value} {ret : Option FieldType} {nmm own : String} {E : gE} {μ μ1 : Mm} {index : Nat} (C : gCx p s m args meth c cc nL ret nmm own) (hM : MS E μ s H locs) {N : Nat} {x0 v : Int} (hc : f_J0_coder_7d493 N x0 μ = some (v, μ1)) (hck : μ x0 (-2) = 11) (h1 : Cond.methodLink own index yJ0_coder_7d493 ∈ bigL) (hR : 1 ≤ R.frames ∧ 20 ≤ R.locals) (hl : ls.size = nL) (hcat : RC rest 8) (hf : cells + 0 ≤ R.cells ∧ slots + 0 ≤ R.slots) (hdg : decode cc pc = .ok (.invokevirtual index, 3)) (kk : (R32 v) → ∀ (H1 : Heap) (locs1 : List Loc), MS E μ1 s H1 locs1 → W p l e R s m args below meth c H1 locs1 (cells + 0) (slots + 0) Q (F0 m (pc + 3) ls (vi v :: rest))) : W p l e R s m args below meth c H locs cells slots Q (F0 m pc ls (vr E x0 :: rest)) := g_callVT C hM (c_J0_coder_7d493 l E N x0 μ μ1 v hc) hck (gV h1 bw_4_198 bw_4_199 bw_1_11 bw_4_200) ⟨rfl, hd_J0_coder_7d493⟩ hR rfl hl rfl hcat hf hdg kk
/-! J0_length_8abf5 -/
def f_J0_length_8abf5 (N : Nat) (x0 : Int) (μ : Mm) : Rs :=
  ck (μ x0 (-2) = 11) <|
  ck (μ (μ x0 0) (-2) = 21) <|
  ck (μ x0 (-2) = 11) <|
  bd (f_J0_coder_7d493 N x0 μ) fun a4 μ5 =>
  nm (o_shr (μ (μ x0 0) (-1)) a4) fun a6 =>
  some (a6, μ5)
set_option maxHeartbeats 4000000 in
set_option maxRecDepth 100000 in
theorem c_J0_length_8abf5 (l : Launch) (E : gE) (N : Nat) (x0 : Int) (μ μ' : Mm) (r : Int) (h : f_J0_length_8abf5 N x0 μ = some (r, μ')) : gMet l E yJ0_length_8abf5 cJ0_length_8abf5 1 (some .int) 1 20 [vr E x0] (some (vi r)) (R32 r) μ μ' 0 0 := by
  refine g_ofW [1] (by first | (simp only [List.map_cons, List.map_nil, vr_cat]; done) | (simp only [List.map_cons, List.map_nil, vr_cat]; rfl)) (by decide) (by decide) (fun p e s m below meth c ls C hM hl => ?_)
  replace C : gCx p s m _ meth c cJ0_length_8abf5 1 (some .int) "length" RJ0 := C
  replace hl : lv_has ls 1 [(0, vr E x0)] := hl
  unfold f_J0_length_8abf5 at h
  refine m_aload_n (pc := 0) C dJ0_length_8abf5_0 rfl (lv_at hl 0 rfl) ?_
  obtain ⟨q1, h⟩ := ck_some h
  refine GS_value (pc := 1) C hM bw_5_38 q1 dJ0_length_8abf5_1 ?_
  obtain ⟨q2, h⟩ := ck_some h
  have gq2 := Al_b hM q2
  refine m_alenB (pc := 4) C hM q2 dJ0_length_8abf5_4 ?_
  refine m_aload_n (pc := 5) C dJ0_length_8abf5_5 rfl (lv_at hl 0 rfl) ?_
  obtain ⟨q3, h⟩ := ck_some h
  obtain ⟨a4, μ5, ca4, h⟩ := bd_some h
  refine V_J0_coder_7d493 (pc := 6) C hM ca4 q3 bw_4_197 ⟨Nat.le_of_ble_eq_true rfl, Nat.le_of_ble_eq_true rfl⟩ hl.1 (rcI rc0) ⟨Nat.le_refl _, Nat.le_refl _⟩ dJ0_length_8abf5_6 (fun ra4 H locs hM => ?_)
  obtain ⟨a6, ea6, h⟩ := nm_some h
  have ra6 : R32 a6 := by rw [ea6]; exact R32_of _
  refine m_ishr (pc := 9) C dJ0_length_8abf5_9 ea6 ?_
  cases h
  exact m_iret (pc := 10) C hM ra6 dJ0_length_8abf5_10
theorem hd_J0_length_8abf5 : yJ0_length_8abf5.cls ≠ "java/lang/invoke/MethodHandle" ∧ yJ0_length_8abf5.cls ≠ "java/lang/invoke/VarHandle" ∧ (parseMethodDescriptor yJ0_length_8abf5.desc).map (fun d => d.parameters.length) = some 0 := by decide +kernel

theorem V_J0_length_8abf5 {p : Program} {l : Launch} {e : Env} {R : Room} {s : State} {m : MethodId} {args : Array Value} {below : List Frame} {meth : Method} {c : Code} {H : Heap} {locs : List Loc} {cells slots : Nat} {Q : State → Prop} {cc : ByteArray} {pc nL : Nat} {ls : Array Slot} {rest : List Value} {ret : Option FieldType} {nmm own : String} {E : gE} {μ μ1 : Mm} {index : Nat} (C : gCx p s m args meth c cc nL ret nmm own) (hM : MS E μ s H locs) {N : Nat} {x0 v : Int} (hc : f_J0_length_8abf5 N x0 μ = some (v, μ1)) (hck : μ x0 (-2) = 11) (h1 : Cond.methodLink own index yJ0_length_8abf5 ∈ bigL) (hR : 2 ≤ R.frames ∧ 40 ≤ R.locals) (hl : ls.size = nL) (hcat : RC rest 8) (hf : cells + 0 ≤ R.cells ∧ slots + 0 ≤ R.slots) (hdg : decode cc pc = .ok (.invokevirtual index, 3)) (kk : (R32 v) → ∀ (H1 : Heap) (locs1 : List Loc), MS E μ1 s H1 locs1 → W p l e R s m args below meth c H1 locs1 (cells + 0) (slots + 0) Q (F0 m (pc + 3) ls (vi v :: rest))) : W p l e R s m args below meth c H locs cells slots Q (F0 m pc ls (vr E x0 :: rest)) := g_callVT C hM (c_J0_length_8abf5 l E N x0 μ μ1 v hc) hck (gV h1 bw_4_194 bw_4_195 bw_1_11 bw_4_196) ⟨rfl, hd_J0_length_8abf5⟩ hR rfl hl rfl hcat hf hdg kk
/-! J0_isLatin1_aae02 -/
def f_J0_isLatin1_aae02 (N : Nat) (x0 : Int) (μ : Mm) : Rs :=
  if (1 : Int) = 0 then
    (some (0, μ))
  else
  ck (μ x0 (-2) = 11) <|
  if ¬ (μ x0 1) = 0 then
    (some (0, μ))
  else
  some (1, μ)
set_option maxHeartbeats 4000000 in
set_option maxRecDepth 100000 in
theorem c_J0_isLatin1_aae02 (l : Launch) (E : gE) (N : Nat) (x0 : Int) (μ μ' : Mm) (r : Int) (h : f_J0_isLatin1_aae02 N x0 μ = some (r, μ')) : gMet l E yJ0_isLatin1_aae02 cJ0_isLatin1_aae02 1 (some .boolean) 0 0 [vr E x0] (some (vi r)) (R32 r) μ μ' 0 0 := by
  refine g_ofW [1] (by first | (simp only [List.map_cons, List.map_nil, vr_cat]; done) | (simp only [List.map_cons, List.map_nil, vr_cat]; rfl)) (by decide) (by decide) (fun p e s m below meth c ls C hM hl => ?_)
  replace C : gCx p s m _ meth c cJ0_isLatin1_aae02 1 (some .boolean) "isLatin1" RJ0 := C
  replace hl : lv_has ls 1 [(0, vr E x0)] := hl
  unfold f_J0_isLatin1_aae02 at h
  refine m_compact (pc := 0) C hM bw_4_201 dJ0_isLatin1_aae02_0 ?_
  refine m_if_eq (tgt := 17) (pc := 3) C rk_1 dJ0_isLatin1_aae02_3 (by decide) (fun c1 => ?_) (fun c1 => ?_)
  · have h := if_t h c1
    refine m_iconst (pc := 17) C dJ0_isLatin1_aae02_17 ?_
    cases h
    exact m_zret (pc := 18) C rfl hM rk_0 dJ0_isLatin1_aae02_18
  · have h := if_f h c1
    refine m_aload_n (pc := 6) C dJ0_isLatin1_aae02_6 rfl (lv_at hl 0 rfl) ?_
    obtain ⟨q2, h⟩ := ck_some h
    have gq2 := GrS_coder hM q2
    refine GS_coder (pc := 7) C hM bw_5_39 q2 dJ0_isLatin1_aae02_7 ?_
    refine m_if_ne (tgt := 17) (pc := 10) C gq2 dJ0_isLatin1_aae02_10 (by decide) (fun c3 => ?_) (fun c3 => ?_)
    · have h := if_t h c3
      refine m_iconst (pc := 17) C dJ0_isLatin1_aae02_17 ?_
      cases h
      exact m_zret (pc := 18) C rfl hM rk_0 dJ0_isLatin1_aae02_18
    · have h := if_f h c3
      refine m_iconst (pc := 13) C dJ0_isLatin1_aae02_13 ?_
      refine m_goto (tgt := 18) (pc := 14) C dJ0_isLatin1_aae02_14 (by decide) ?_
      cases h
      exact m_zret (pc := 18) C rfl hM rk_1 dJ0_isLatin1_aae02_18
theorem hd_J0_isLatin1_aae02 : yJ0_isLatin1_aae02.cls ≠ "java/lang/invoke/MethodHandle" ∧ yJ0_isLatin1_aae02.cls ≠ "java/lang/invoke/VarHandle" ∧ (parseMethodDescriptor yJ0_isLatin1_aae02.desc).map (fun d => d.parameters.length) = some 0 := by decide +kernel

theorem V_J0_isLatin1_aae02 {p : Program} {l : Launch} {e : Env} {R : Room} {s : State} {m : MethodId} {args : Array Value} {below : List Frame} {meth : Method} {c : Code} {H : Heap} {locs : List Loc} {cells slots : Nat} {Q : State → Prop} {cc : ByteArray} {pc nL : Nat} {ls : Array Slot} {rest : List Value} {ret : Option FieldType} {nmm own : String} {E : gE} {μ μ1 : Mm} {index : Nat} (C : gCx p s m args meth c cc nL ret nmm own) (hM : MS E μ s H locs) {N : Nat} {x0 v : Int} (hc : f_J0_isLatin1_aae02 N x0 μ = some (v, μ1)) (hck : μ x0 (-2) = 11) (h1 : Cond.methodLink own index yJ0_isLatin1_aae02 ∈ bigL) (hR : 1 ≤ R.frames ∧ 20 ≤ R.locals) (hl : ls.size = nL) (hcat : RC rest 8) (hf : cells + 0 ≤ R.cells ∧ slots + 0 ≤ R.slots) (hdg : decode cc pc = .ok (.invokevirtual index, 3)) (kk : (R32 v) → ∀ (H1 : Heap) (locs1 : List Loc), MS E μ1 s H1 locs1 → W p l e R s m args below meth c H1 locs1 (cells + 0) (slots + 0) Q (F0 m (pc + 3) ls (vi v :: rest))) : W p l e R s m args below meth c H locs cells slots Q (F0 m pc ls (vr E x0 :: rest)) := g_callVT C hM (c_J0_isLatin1_aae02 l E N x0 μ μ1 v hc) hck (gV h1 bw_4_207 bw_4_208 bw_1_11 bw_4_209) ⟨rfl, hd_J0_isLatin1_aae02⟩ hR rfl hl rfl hcat hf hdg kk
/-! J3_checkIndex_8e157 -/
def f_J3_checkIndex_8e157 (N : Nat) (x0 x1 x2 : Int) (μ : Mm) : Rs :=
  if x0 < 0 then
    (none)
  else
  if x0 < x1 then
    (some (x0, μ))
  else
  none
set_option maxHeartbeats 4000000 in
set_option maxRecDepth 100000 in
theorem c_J3_checkIndex_8e157 (l : Launch) (E : gE) (N : Nat) (x0 x1 x2 : Int) (μ μ' : Mm) (r : Int) (h : f_J3_checkIndex_8e157 N x0 x1 x2 μ = some (r, μ')) (rx0 : R32 x0) (rx1 : R32 x1) : gMet l E yJ3_checkIndex_8e157 cJ3_checkIndex_8e157 3 (some .int) 0 0 [vi x0, vi x1, vr E x2] (some (vi r)) (R32 r) μ μ' 0 0 := by
  refine g_ofW [1, 1, 1] (by first | (simp only [List.map_cons, List.map_nil, vr_cat]; done) | (simp only [List.map_cons, List.map_nil, vr_cat]; rfl)) (by decide) (by decide) (fun p e s m below meth c ls C hM hl => ?_)
  replace C : gCx p s m _ meth c cJ3_checkIndex_8e157 3 (some .int) "checkIndex" RJ3 := C
  replace hl : lv_has ls 3 [(0, vi x0), (1, vi x1), (2, vr E x2)] := hl
  unfold f_J3_checkIndex_8e157 at h
  refine m_iload_n (pc := 0) C dJ3_checkIndex_8e157_0 rfl (lv_at hl 0 rfl) ?_
  refine m_if_lt (tgt := 9) (pc := 1) C rx0 dJ3_checkIndex_8e157_1 (by decide) (fun c1 => ?_) (fun c1 => ?_)
  · have h := if_t h c1
    refine m_aload_n (pc := 9) C dJ3_checkIndex_8e157_9 rfl (lv_at hl 2 rfl) ?_
    refine m_iload_n (pc := 10) C dJ3_checkIndex_8e157_10 rfl (lv_at hl 0 rfl) ?_
    refine m_iload_n (pc := 11) C dJ3_checkIndex_8e157_11 rfl (lv_at hl 1 rfl) ?_
    cases h
  · have h := if_f h c1
    refine m_iload_n (pc := 4) C dJ3_checkIndex_8e157_4 rfl (lv_at hl 0 rfl) ?_
    refine m_iload_n (pc := 5) C dJ3_checkIndex_8e157_5 rfl (lv_at hl 1 rfl) ?_
    refine m_icmp_lt (tgt := 16) (pc := 6) C rx0 rx1 dJ3_checkIndex_8e157_6 (by decide) (fun c2 => ?_) (fun c2 => ?_)
    · have h := if_t h c2
      refine m_iload_n (pc := 16) C dJ3_checkIndex_8e157_16 rfl (lv_at hl 0 rfl) ?_
      cases h
      exact m_iret (pc := 17) C hM rx0 dJ3_checkIndex_8e157_17
    · have h := if_f h c2
      refine m_aload_n (pc := 9) C dJ3_checkIndex_8e157_9 rfl (lv_at hl 2 rfl) ?_
      refine m_iload_n (pc := 10) C dJ3_checkIndex_8e157_10 rfl (lv_at hl 0 rfl) ?_
      refine m_iload_n (pc := 11) C dJ3_checkIndex_8e157_11 rfl (lv_at hl 1 rfl) ?_
      cases h
theorem hd_J3_checkIndex_8e157 : yJ3_checkIndex_8e157.cls ≠ "java/lang/invoke/MethodHandle" ∧ yJ3_checkIndex_8e157.cls ≠ "java/lang/invoke/VarHandle" ∧ (parseMethodDescriptor yJ3_checkIndex_8e157.desc).map (fun d => d.parameters.length) = some 3 := by decide +kernel

theorem V_J3_checkIndex_8e157 {p : Program} {l : Launch} {e : Env} {R : Room} {s : State} {m : MethodId} {args : Array Value} {below : List Frame} {meth : Method} {c : Code} {H : Heap} {locs : List Loc} {cells slots : Nat} {Q : State → Prop} {cc : ByteArray} {pc nL : Nat} {ls : Array Slot} {rest : List Value} {ret : Option FieldType} {nmm own : String} {E : gE} {μ μ1 : Mm} {index : Nat} (C : gCx p s m args meth c cc nL ret nmm own) (hM : MS E μ s H locs) {N : Nat} {x0 x1 x2 v : Int} (hc : f_J3_checkIndex_8e157 N x0 x1 x2 μ = some (v, μ1)) (rx0 : R32 x0) (rx1 : R32 x1) (h1 : Cond.methodLink own index yJ3_checkIndex_8e157 ∈ bigL) (hR : 1 ≤ R.frames ∧ 22 ≤ R.locals) (hl : ls.size = nL) (hcat : RC rest 8) (hf : cells + 0 ≤ R.cells ∧ slots + 0 ≤ R.slots) (hdg : decode cc pc = .ok (.invokestatic index, 3)) (kk : (R32 v) → ∀ (H1 : Heap) (locs1 : List Loc), MS E μ1 s H1 locs1 → W p l e R s m args below meth c H1 locs1 (cells + 0) (slots + 0) Q (F0 m (pc + 3) ls (vi v :: rest))) : W p l e R s m args below meth c H locs cells slots Q (F0 m pc ls (vr E x2 :: vi x1 :: vi x0 :: rest)) := g_callS C hM (c_J3_checkIndex_8e157 l E N x0 x1 x2 μ μ1 v hc rx0 rx1) (gS h1 bw_3_231 bw_1_18 bw_3_232) hd_J3_checkIndex_8e157 hR rfl hl rfl hcat hf hdg kk
/-! J0_checkIndex_df160 -/
def f_J0_checkIndex_df160 (N : Nat) (x0 x1 : Int) (μ : Mm) : Rs :=
  bd (f_J3_checkIndex_8e157 N x0 x1 ((-201)) μ) fun a1 μ2 =>
  some (0, μ2)
set_option maxHeartbeats 4000000 in
set_option maxRecDepth 100000 in
theorem c_J0_checkIndex_df160 (l : Launch) (E : gE) (N : Nat) (x0 x1 : Int) (μ μ' : Mm) (r : Int) (h : f_J0_checkIndex_df160 N x0 x1 μ = some (r, μ')) (rx0 : R32 x0) (rx1 : R32 x1) : gMet l E yJ0_checkIndex_df160 cJ0_checkIndex_df160 2 none 1 22 [vi x0, vi x1] none True μ μ' 0 0 := by
  refine g_ofW [1, 1] rfl (by decide) (by decide) (fun p e s m below meth c ls C hM hl => ?_)
  replace C : gCx p s m _ meth c cJ0_checkIndex_df160 2 none "checkIndex" RJ0 := C
  replace hl : lv_has ls 2 [(0, vi x0), (1, vi x1)] := hl
  unfold f_J0_checkIndex_df160 at h
  refine m_iload_n (pc := 0) C dJ0_checkIndex_df160_0 rfl (lv_at hl 0 rfl) ?_
  refine m_iload_n (pc := 1) C dJ0_checkIndex_df160_1 rfl (lv_at hl 1 rfl) ?_
  refine m_sioobe (pc := 2) C hM bw_3_207 dJ0_checkIndex_df160_2 ?_
  obtain ⟨a1, μ2, ca1, h⟩ := bd_some h
  refine V_J3_checkIndex_8e157 (pc := 5) C hM ca1 rx0 rx1 bw_3_230 ⟨Nat.le_of_ble_eq_true rfl, Nat.le_of_ble_eq_true rfl⟩ hl.1 rc0 ⟨Nat.le_refl _, Nat.le_refl _⟩ dJ0_checkIndex_df160_5 (fun ra1 H locs hM => ?_)
  refine m_pop (pc := 8) C rfl dJ0_checkIndex_df160_8 ?_
  cases h
  exact m_vret (pc := 9) C hM trivial dJ0_checkIndex_df160_9
theorem hd_J0_checkIndex_df160 : yJ0_checkIndex_df160.cls ≠ "java/lang/invoke/MethodHandle" ∧ yJ0_checkIndex_df160.cls ≠ "java/lang/invoke/VarHandle" ∧ (parseMethodDescriptor yJ0_checkIndex_df160.desc).map (fun d => d.parameters.length) = some 2 := by decide +kernel

theorem V_J0_checkIndex_df160 {p : Program} {l : Launch} {e : Env} {R : Room} {s : State} {m : MethodId} {args : Array Value} {below : List Frame} {meth : Method} {c : Code} {H : Heap} {locs : List Loc} {cells slots : Nat} {Q : State → Prop} {cc : ByteArray} {pc nL : Nat} {ls : Array Slot} {rest : List Value} {ret : Option FieldType} {nmm own : String} {E : gE} {μ μ1 : Mm} {index : Nat} (C : gCx p s m args meth c cc nL ret nmm own) (hM : MS E μ s H locs) {N : Nat} {x0 x1 v : Int} (hc : f_J0_checkIndex_df160 N x0 x1 μ = some (v, μ1)) (rx0 : R32 x0) (rx1 : R32 x1) (h1 : Cond.methodLink own index yJ0_checkIndex_df160 ∈ bigL) (hR : 2 ≤ R.frames ∧ 43 ≤ R.locals) (hl : ls.size = nL) (hcat : RC rest 8) (hf : cells + 0 ≤ R.cells ∧ slots + 0 ≤ R.slots) (hdg : decode cc pc = .ok (.invokestatic index, 3)) (kk : True → ∀ (H1 : Heap) (locs1 : List Loc), MS E μ1 s H1 locs1 → W p l e R s m args below meth c H1 locs1 (cells + 0) (slots + 0) Q (F0 m (pc + 3) ls rest)) : W p l e R s m args below meth c H locs cells slots Q (F0 m pc ls (vi x1 :: vi x0 :: rest)) := g_callS C hM (c_J0_checkIndex_df160 l E N x0 x1 μ μ1 v hc rx0 rx1) (gS h1 bw_3_228 bw_1_11 bw_3_229) hd_J0_checkIndex_df160 hR rfl hl rfl hcat hf hdg kk
/-! J1_charAt_3b067 -/
def f_J1_charAt_3b067 (N : Nat) (x0 x1 : Int) (μ : Mm) : Rs :=
  ck (μ x0 (-2) = 21) <|
  bd (f_J0_checkIndex_df160 N x1 (μ x0 (-1)) μ) fun a2 μ3 =>
  ck (μ3 x0 (-2) = 21 ∧ (0 : Int) ≤ x1 ∧ x1 < μ3 x0 (-1)) <|
  nm (o_and (μ3 x0 x1) 255) fun a5 =>
  nm (o_i2c a5) fun a6 =>
  ck ((0 : Int) ≤ a6 ∧ a6 ≤ (65535 : Int)) <|
  some (a6, μ3)
set_option maxHeartbeats 4000000 in
set_option maxRecDepth 100000 in
theorem c_J1_charAt_3b067 (l : Launch) (E : gE) (N : Nat) (x0 x1 : Int) (μ μ' : Mm) (r : Int) (h : f_J1_charAt_3b067 N x0 x1 μ = some (r, μ')) (rx1 : R32 x1) : gMet l E yJ1_charAt_3b067 cJ1_charAt_3b067 2 (some .char) 2 43 [vr E x0, vi x1] (some (vi r)) (R32 r) μ μ' 0 0 := by
  refine g_ofW [1, 1] (by first | (simp only [List.map_cons, List.map_nil, vr_cat]; done) | (simp only [List.map_cons, List.map_nil, vr_cat]; rfl)) (by decide) (by decide) (fun p e s m below meth c ls C hM hl => ?_)
  replace C : gCx p s m _ meth c cJ1_charAt_3b067 2 (some .char) "charAt" RJ1 := C
  replace hl : lv_has ls 2 [(0, vr E x0), (1, vi x1)] := hl
  unfold f_J1_charAt_3b067 at h
  refine m_iload_n (pc := 0) C dJ1_charAt_3b067_0 rfl (lv_at hl 1 rfl) ?_
  refine m_aload_n (pc := 1) C dJ1_charAt_3b067_1 rfl (lv_at hl 0 rfl) ?_
  obtain ⟨q1, h⟩ := ck_some h
  have gq1 := Al_b hM q1
  refine m_alenB (pc := 2) C hM q1 dJ1_charAt_3b067_2 ?_
  obtain ⟨a2, μ3, ca2, h⟩ := bd_some h
  refine V_J0_checkIndex_df160 (pc := 3) C hM ca2 rx1 gq1 bw_4_213 ⟨Nat.le_of_ble_eq_true rfl, Nat.le_of_ble_eq_true rfl⟩ hl.1 rc0 ⟨Nat.le_refl _, Nat.le_refl _⟩ dJ1_charAt_3b067_3 (fun _ H locs hM => ?_)
  refine m_aload_n (pc := 6) C dJ1_charAt_3b067_6 rfl (lv_at hl 0 rfl) ?_
  refine m_iload_n (pc := 7) C dJ1_charAt_3b067_7 rfl (lv_at hl 1 rfl) ?_
  obtain ⟨q4, h⟩ := ck_some h
  have gq4 := Ar_bald hM q4.1 q4.2.1 q4.2.2
  refine m_bald (pc := 8) C hM q4.1 q4.2.1 q4.2.2 dJ1_charAt_3b067_8 ?_
  refine m_sipush (pc := 9) C dJ1_charAt_3b067_9 rfl ?_
  obtain ⟨a5, ea5, h⟩ := nm_some h
  have ra5 : R32 a5 := by rw [ea5]; exact R32_of _
  refine m_iand (pc := 12) C dJ1_charAt_3b067_12 ea5 ?_
  obtain ⟨a6, ea6, h⟩ := nm_some h
  have ra6 : R32 a6 := by rw [ea6]; exact R32_of _
  refine m_i2c (pc := 13) C dJ1_charAt_3b067_13 ea6 ?_
  obtain ⟨q7, h⟩ := ck_some h
  cases h
  exact m_zret (pc := 14) C (nar_c q7.1 q7.2) hM ra6 dJ1_charAt_3b067_14
theorem hd_J1_charAt_3b067 : yJ1_charAt_3b067.cls ≠ "java/lang/invoke/MethodHandle" ∧ yJ1_charAt_3b067.cls ≠ "java/lang/invoke/VarHandle" ∧ (parseMethodDescriptor yJ1_charAt_3b067.desc).map (fun d => d.parameters.length) = some 2 := by decide +kernel

theorem V_J1_charAt_3b067 {p : Program} {l : Launch} {e : Env} {R : Room} {s : State} {m : MethodId} {args : Array Value} {below : List Frame} {meth : Method} {c : Code} {H : Heap} {locs : List Loc} {cells slots : Nat} {Q : State → Prop} {cc : ByteArray} {pc nL : Nat} {ls : Array Slot} {rest : List Value} {ret : Option FieldType} {nmm own : String} {E : gE} {μ μ1 : Mm} {index : Nat} (C : gCx p s m args meth c cc nL ret nmm own) (hM : MS E μ s H locs) {N : Nat} {x0 x1 v : Int} (hc : f_J1_charAt_3b067 N x0 x1 μ = some (v, μ1)) (rx1 : R32 x1) (h1 : Cond.methodLink own index yJ1_charAt_3b067 ∈ bigL) (hR : 3 ≤ R.frames ∧ 64 ≤ R.locals) (hl : ls.size = nL) (hcat : RC rest 8) (hf : cells + 0 ≤ R.cells ∧ slots + 0 ≤ R.slots) (hdg : decode cc pc = .ok (.invokestatic index, 3)) (kk : (R32 v) → ∀ (H1 : Heap) (locs1 : List Loc), MS E μ1 s H1 locs1 → W p l e R s m args below meth c H1 locs1 (cells + 0) (slots + 0) Q (F0 m (pc + 3) ls (vi v :: rest))) : W p l e R s m args below meth c H locs cells slots Q (F0 m pc ls (vi x1 :: vr E x0 :: rest)) := g_callS C hM (c_J1_charAt_3b067 l E N x0 x1 μ μ1 v hc rx1) (gS h1 bw_4_211 bw_1_17 bw_4_212) hd_J1_charAt_3b067 hR rfl hl rfl hcat hf hdg kk
/-! J0_charAt_5068e -/
def f_J0_charAt_5068e (N : Nat) (x0 x1 : Int) (μ : Mm) : Rs :=
  ck (μ x0 (-2) = 11) <|
  bd (f_J0_isLatin1_aae02 N x0 μ) fun a2 μ3 =>
  if a2 = 0 then
    (ck (μ3 x0 (-2) = 11) <|
     none)
  else
  ck (μ3 x0 (-2) = 11) <|
  bd (f_J1_charAt_3b067 N (μ3 x0 0) x1 μ3) fun a7 μ8 =>
  ck ((0 : Int) ≤ a7 ∧ a7 ≤ (65535 : Int)) <|
  some (a7, μ8)
set_option maxHeartbeats 4000000 in
set_option maxRecDepth 100000 in
theorem c_J0_charAt_5068e (l : Launch) (E : gE) (N : Nat) (x0 x1 : Int) (μ μ' : Mm) (r : Int) (h : f_J0_charAt_5068e N x0 x1 μ = some (r, μ')) (rx1 : R32 x1) : gMet l E yJ0_charAt_5068e cJ0_charAt_5068e 2 (some .char) 3 64 [vr E x0, vi x1] (some (vi r)) (R32 r) μ μ' 0 0 := by
  refine g_ofW [1, 1] (by first | (simp only [List.map_cons, List.map_nil, vr_cat]; done) | (simp only [List.map_cons, List.map_nil, vr_cat]; rfl)) (by decide) (by decide) (fun p e s m below meth c ls C hM hl => ?_)
  replace C : gCx p s m _ meth c cJ0_charAt_5068e 2 (some .char) "charAt" RJ0 := C
  replace hl : lv_has ls 2 [(0, vr E x0), (1, vi x1)] := hl
  unfold f_J0_charAt_5068e at h
  refine m_aload_n (pc := 0) C dJ0_charAt_5068e_0 rfl (lv_at hl 0 rfl) ?_
  obtain ⟨q1, h⟩ := ck_some h
  obtain ⟨a2, μ3, ca2, h⟩ := bd_some h
  refine V_J0_isLatin1_aae02 (pc := 1) C hM ca2 q1 bw_4_206 ⟨Nat.le_of_ble_eq_true rfl, Nat.le_of_ble_eq_true rfl⟩ hl.1 rc0 ⟨Nat.le_refl _, Nat.le_refl _⟩ dJ0_charAt_5068e_1 (fun ra2 H locs hM => ?_)
  refine m_if_eq (tgt := 16) (pc := 4) C ra2 dJ0_charAt_5068e_4 (by decide) (fun c4 => ?_) (fun c4 => ?_)
  · have h := if_t h c4
    refine m_aload_n (pc := 16) C dJ0_charAt_5068e_16 rfl (lv_at hl 0 rfl) ?_
    obtain ⟨q5, h⟩ := ck_some h
    refine GS_value (pc := 17) C hM bw_5_38 q5 dJ0_charAt_5068e_17 ?_
    refine m_iload_n (pc := 20) C dJ0_charAt_5068e_20 rfl (lv_at hl 1 rfl) ?_
    cases h
  · have h := if_f h c4
    refine m_aload_n (pc := 7) C dJ0_charAt_5068e_7 rfl (lv_at hl 0 rfl) ?_
    obtain ⟨q6, h⟩ := ck_some h
    refine GS_value (pc := 8) C hM bw_5_38 q6 dJ0_charAt_5068e_8 ?_
    refine m_iload_n (pc := 11) C dJ0_charAt_5068e_11 rfl (lv_at hl 1 rfl) ?_
    obtain ⟨a7, μ8, ca7, h⟩ := bd_some h
    refine V_J1_charAt_3b067 (pc := 12) C hM ca7 rx1 bw_4_210 ⟨Nat.le_of_ble_eq_true rfl, Nat.le_of_ble_eq_true rfl⟩ hl.1 rc0 ⟨Nat.le_refl _, Nat.le_refl _⟩ dJ0_charAt_5068e_12 (fun ra7 H locs hM => ?_)
    obtain ⟨q9, h⟩ := ck_some h
    cases h
    exact m_zret (pc := 15) C (nar_c q9.1 q9.2) hM ra7 dJ0_charAt_5068e_15
theorem hd_J0_charAt_5068e : yJ0_charAt_5068e.cls ≠ "java/lang/invoke/MethodHandle" ∧ yJ0_charAt_5068e.cls ≠ "java/lang/invoke/VarHandle" ∧ (parseMethodDescriptor yJ0_charAt_5068e.desc).map (fun d => d.parameters.length) = some 1 := by decide +kernel

theorem V_J0_charAt_5068e {p : Program} {l : Launch} {e : Env} {R : Room} {s : State} {m : MethodId} {args : Array Value} {below : List Frame} {meth : Method} {c : Code} {H : Heap} {locs : List Loc} {cells slots : Nat} {Q : State → Prop} {cc : ByteArray} {pc nL : Nat} {ls : Array Slot} {rest : List Value} {ret : Option FieldType} {nmm own : String} {E : gE} {μ μ1 : Mm} {index : Nat} (C : gCx p s m args meth c cc nL ret nmm own) (hM : MS E μ s H locs) {N : Nat} {x0 x1 v : Int} (hc : f_J0_charAt_5068e N x0 x1 μ = some (v, μ1)) (rx1 : R32 x1) (hck : μ x0 (-2) = 11) (h1 : Cond.methodLink own index yJ0_charAt_5068e ∈ bigL) (hR : 4 ≤ R.frames ∧ 85 ≤ R.locals) (hl : ls.size = nL) (hcat : RC rest 8) (hf : cells + 0 ≤ R.cells ∧ slots + 0 ≤ R.slots) (hdg : decode cc pc = .ok (.invokevirtual index, 3)) (kk : (R32 v) → ∀ (H1 : Heap) (locs1 : List Loc), MS E μ1 s H1 locs1 → W p l e R s m args below meth c H1 locs1 (cells + 0) (slots + 0) Q (F0 m (pc + 3) ls (vi v :: rest))) : W p l e R s m args below meth c H locs cells slots Q (F0 m pc ls (vi x1 :: vr E x0 :: rest)) := g_callVT C hM (c_J0_charAt_5068e l E N x0 x1 μ μ1 v hc rx1) hck (gV h1 bw_4_203 bw_4_204 bw_1_11 bw_4_205) ⟨rfl, hd_J0_charAt_5068e⟩ hR rfl hl rfl hcat hf hdg kk
/-! X3_standsBetween -/
def f_X3_standsBetween_b15 (N : Nat) : Nat → Int → Int → Int → Int → Int → Mm → Rs
  | 0, _, _, _, _, _, _ => none
  | n + 1, x0, x1, x2, x3, x4, μ =>
    if x2 ≤ x4 then
      (some (1, μ))
    else
    ck (μ x0 (-2) = 5) <|
    ck (μ (μ x0 0) (-2) = 22 ∧ (0 : Int) ≤ x4 ∧ x4 < μ (μ x0 0) (-1)) <|
    nm (w32 (x4 - x1)) fun a4 =>
    ck (μ x3 (-2) = 11) <|
    bd (f_J0_charAt_5068e N x3 a4 μ) fun a6 μ7 =>
    if (μ (μ x0 0) x4) = a6 then
      (nm (w32 (x4 + 1)) fun a9 =>
       f_X3_standsBetween_b15 N n x0 x1 x2 x3 a9 μ7)
    else
    some (0, μ7)
def f_X3_standsBetween (N : Nat) (x0 x1 x2 x3 : Int) (μ : Mm) : Rs :=
  nm (w32 (x2 - x1)) fun a1 =>
  ck (μ x3 (-2) = 11) <|
  bd (f_J0_length_8abf5 N x3 μ) fun a3 μ4 =>
  if a1 = a3 then
    (f_X3_standsBetween_b15 N N x0 x1 x2 x3 x1 μ4)
  else
  some (0, μ4)
set_option maxHeartbeats 4000000 in
set_option maxRecDepth 100000 in
theorem k_X3_standsBetween_b15 (C : gCx p s m args meth c cX3_standsBetween 5 (some .boolean) "standsBetween" RX3) (N : Nat) {r : Int} {μ' : Mm} : ∀ (n : Nat), ∀ (x0 x1 x2 x3 x4 : Int) (μ : Mm), f_X3_standsBetween_b15 N n x0 x1 x2 x3 x4 μ = some (r, μ') → R32 x1 → R32 x2 → R32 x4 → ∀ (H : Heap) (locs : List Loc) (ls : Array Slot), MS E μ s H locs → lv_has ls 5 [(0, vr E x0), (1, vi x1), (2, vi x2), (3, vr E x3), (4, vi x4)] → W p l e ({ frames := 4, cells := 0, slots := 0, locals := 85 } : Room) s m args below meth c H locs 0 0 (MQ below (gQ E (some (vi r)) (R32 r) μ') args s 0 0 (gA E)) (F0 m 15 ls []) := by
  intro n
  induction n with
  | zero => intro x0 x1 x2 x3 x4 μ h; simp [f_X3_standsBetween_b15] at h
  | succ n ih =>
    intro x0 x1 x2 x3 x4 μ h rx1 rx2 rx4 H locs ls hM hl
    rw [f_X3_standsBetween_b15] at h
    refine m_iload (pc := 15) C dX3_standsBetween_15 (lv_at hl 4 rfl) ?_
    refine m_iload_n (pc := 17) C dX3_standsBetween_17 rfl (lv_at hl 2 rfl) ?_
    refine m_icmp_ge (tgt := 47) (pc := 18) C rx4 rx2 dX3_standsBetween_18 (by decide) (fun c1 => ?_) (fun c1 => ?_)
    · have h := if_t h c1
      refine m_iconst (pc := 47) C dX3_standsBetween_47 ?_
      cases h
      exact m_zret (pc := 48) C rfl hM rk_1 dX3_standsBetween_48
    · have h := if_f h c1
      refine m_aload_n (pc := 21) C dX3_standsBetween_21 rfl (lv_at hl 0 rfl) ?_
      obtain ⟨q2, h⟩ := ck_some h
      refine G_X3_text (pc := 22) C hM bw_2_10 q2 dX3_standsBetween_22 ?_
      refine m_iload (pc := 25) C dX3_standsBetween_25 (lv_at hl 4 rfl) ?_
      obtain ⟨q3, h⟩ := ck_some h
      have gq3 := Ar_cald hM q3.1 q3.2.1 q3.2.2
      refine m_cald (pc := 27) C hM q3.1 q3.2.1 q3.2.2 dX3_standsBetween_27 ?_
      refine m_aload_n (pc := 28) C dX3_standsBetween_28 rfl (lv_at hl 3 rfl) ?_
      refine m_iload (pc := 29) C dX3_standsBetween_29 (lv_at hl 4 rfl) ?_
      refine m_iload_n (pc := 31) C dX3_standsBetween_31 rfl (lv_at hl 1 rfl) ?_
      obtain ⟨a4, ea4, h⟩ := nm_some h
      have ra4 : R32 a4 := by rw [ea4]; exact w32_R _
      refine m_isub (pc := 32) C dX3_standsBetween_32 ea4 ?_
      obtain ⟨q5, h⟩ := ck_some h
      obtain ⟨a6, μ7, ca6, h⟩ := bd_some h
      refine V_J0_charAt_5068e (pc := 33) C hM ca6 ra4 q5 bw_4_202 ⟨Nat.le_of_ble_eq_true rfl, Nat.le_of_ble_eq_true rfl⟩ hl.1 (rcI rc0) ⟨Nat.le_refl _, Nat.le_refl _⟩ dX3_standsBetween_33 (fun ra6 H locs hM => ?_)
      refine m_icmp_eq (tgt := 41) (pc := 36) C gq3 ra6 dX3_standsBetween_36 (by decide) (fun c8 => ?_) (fun c8 => ?_)
      · have h := if_t h c8
        obtain ⟨a9, ea9, h⟩ := nm_some h
        have ra9 : R32 a9 := by rw [ea9]; exact w32_R _
        refine m_iinc (k := 4) (pc := 41) C dX3_standsBetween_41 hl rfl (by decide) ea9 (lvK1 0 rfl (Nat.ne_of_beq_eq_false rfl) (Nat.ne_of_beq_eq_false rfl) (lvK1 1 rfl (Nat.ne_of_beq_eq_false rfl) (Nat.ne_of_beq_eq_false rfl) (lvK1 2 rfl (Nat.ne_of_beq_eq_false rfl) (Nat.ne_of_beq_eq_false rfl) (lvK2 3 rfl (Nat.ne_of_beq_eq_false rfl) (vr_cat _ _) lvK0)))) (fun ls hl => ?_)
        refine m_goto (tgt := 15) (pc := 44) C dX3_standsBetween_44 (by decide) ?_
        exact ih _ _ _ _ _ _ h rx1 rx2 ra9 _ _ _ hM (lv_sub hl [1, 2, 3, 4, 0] rfl)
      · have h := if_f h c8
        refine m_iconst (pc := 39) C dX3_standsBetween_39 ?_
        cases h
        exact m_zret (pc := 40) C rfl hM rk_0 dX3_standsBetween_40
set_option maxHeartbeats 4000000 in
set_option maxRecDepth 100000 in
theorem c_X3_standsBetween (l : Launch) (E : gE) (N : Nat) (x0 x1 x2 x3 : Int) (μ μ' : Mm) (r : Int) (h : f_X3_standsBetween N x0 x1 x2 x3 μ = some (r, μ')) (rx1 : R32 x1) (rx2 : R32 x2) : gMet l E yX3_standsBetween cX3_standsBetween 5 (some .boolean) 4 85 [vr E x0, vi x1, vi x2, vr E x3] (some (vi r)) (R32 r) μ μ' 0 0 := by
  refine g_ofW [1, 1, 1, 1] (by first | (simp only [List.map_cons, List.map_nil, vr_cat]; done) | (simp only [List.map_cons, List.map_nil, vr_cat]; rfl)) (by decide) (by decide) (fun p e s m below meth c ls C hM hl => ?_)
  replace C : gCx p s m _ meth c cX3_standsBetween 5 (some .boolean) "standsBetween" RX3 := C
  replace hl : lv_has ls 5 [(0, vr E x0), (1, vi x1), (2, vi x2), (3, vr E x3)] := hl
  unfold f_X3_standsBetween at h
  refine m_iload_n (pc := 0) C dX3_standsBetween_0 rfl (lv_at hl 2 rfl) ?_
  refine m_iload_n (pc := 1) C dX3_standsBetween_1 rfl (lv_at hl 1 rfl) ?_
  obtain ⟨a1, ea1, h⟩ := nm_some h
  have ra1 : R32 a1 := by rw [ea1]; exact w32_R _
  refine m_isub (pc := 2) C dX3_standsBetween_2 ea1 ?_
  refine m_aload_n (pc := 3) C dX3_standsBetween_3 rfl (lv_at hl 3 rfl) ?_
  obtain ⟨q2, h⟩ := ck_some h
  obtain ⟨a3, μ4, ca3, h⟩ := bd_some h
  refine V_J0_length_8abf5 (pc := 4) C hM ca3 q2 bw_4_193 ⟨Nat.le_of_ble_eq_true rfl, Nat.le_of_ble_eq_true rfl⟩ hl.1 (rcI rc0) ⟨Nat.le_refl _, Nat.le_refl _⟩ dX3_standsBetween_4 (fun ra3 H locs hM => ?_)
  refine m_icmp_eq (tgt := 12) (pc := 7) C ra1 ra3 dX3_standsBetween_7 (by decide) (fun c5 => ?_) (fun c5 => ?_)
  · have h := if_t h c5
    refine m_iload_n (pc := 12) C dX3_standsBetween_12 rfl (lv_at hl 1 rfl) ?_
    refine m_istore (pc := 13) C dX3_standsBetween_13 hl (by decide) (lvK1 0 rfl (Nat.ne_of_beq_eq_false rfl) (Nat.ne_of_beq_eq_false rfl) (lvK1 1 rfl (Nat.ne_of_beq_eq_false rfl) (Nat.ne_of_beq_eq_false rfl) (lvK1 2 rfl (Nat.ne_of_beq_eq_false rfl) (Nat.ne_of_beq_eq_false rfl) (lvK2 3 rfl (Nat.ne_of_beq_eq_false rfl) (vr_cat _ _) lvK0)))) (fun ls hl => ?_)
    exact k_X3_standsBetween_b15 C N N _ _ _ _ _ _ h rx1 rx2 rx1 _ _ _ hM (lv_sub hl [1, 2, 3, 4, 0] rfl)
  · have h := if_f h c5
    refine m_iconst (pc := 10) C dX3_standsBetween_10 ?_
    cases h
    exact m_zret (pc := 11) C rfl hM rk_0 dX3_standsBetween_11
theorem hd_X3_standsBetween : yX3_standsBetween.cls ≠ "java/lang/invoke/MethodHandle" ∧ yX3_standsBetween.cls ≠ "java/lang/invoke/VarHandle" ∧ (parseMethodDescriptor yX3_standsBetween.desc).map (fun d => d.parameters.length) = some 3 := by decide +kernel

theorem V_X3_standsBetween {p : Program} {l : Launch} {e : Env} {R : Room} {s : State} {m : MethodId} {args : Array Value} {below : List Frame} {meth : Method} {c : Code} {H : Heap} {locs : List Loc} {cells slots : Nat} {Q : State → Prop} {cc : ByteArray} {pc nL : Nat} {ls : Array Slot} {rest : List Value} {ret : Option FieldType} {nmm own : String} {E : gE} {μ μ1 : Mm} {index : Nat} (C : gCx p s m args meth c cc nL ret nmm own) (hM : MS E μ s H locs) {N : Nat} {x0 x1 x2 x3 v : Int} (hc : f_X3_standsBetween N x0 x1 x2 x3 μ = some (v, μ1)) (rx1 : R32 x1) (rx2 : R32 x2) (hck : μ x0 (-2) = 5) (h1 : Cond.methodLink own index yX3_standsBetween ∈ bigL) (hR : 5 ≤ R.frames ∧ 109 ≤ R.locals) (hl : ls.size = nL) (hcat : RC rest 8) (hf : cells + 0 ≤ R.cells ∧ slots + 0 ≤ R.slots) (hdg : decode cc pc = .ok (.invokevirtual index, 3)) (kk : (R32 v) → ∀ (H1 : Heap) (locs1 : List Loc), MS E μ1 s H1 locs1 → W p l e R s m args below meth c H1 locs1 (cells + 0) (slots + 0) Q (F0 m (pc + 3) ls (vi v :: rest))) : W p l e R s m args below meth c H locs cells slots Q (F0 m pc ls (vr E x3 :: vi x2 :: vi x1 :: vr E x0 :: rest)) := g_callV C KF_X3 hM (c_X3_standsBetween l E N x0 x1 x2 x3 μ μ1 v hc rx1 rx2) hck (gV h1 bw_4_191 bs_16 bw_1_8 bw_4_192) ⟨rfl, hd_X3_standsBetween⟩ hR rfl hl rfl hcat hf hdg kk
end G01
