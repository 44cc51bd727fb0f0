section G11
variable {p : Program} {l : Launch} {e : Env} {R : Room} {s : State} {m : MethodId} {args : Array Value} {below : List Frame} {meth : Method} {c : Code} {E : gE}
/-! X8_duty -/
def f_X8_duty (N : Nat) (x0 x1 x2 x4 : Int) (μ : Mm) : Rs :=
  ck (μ x0 (-2) = 10) <|
  bd (f_X8_lotAt N x1 μ) fun a2 μ3 =>
  nm (w32 (a2 + 6)) fun a4 =>
  ck (μ3 (μ x0 0) (-2) = 24 ∧ (0 : Int) ≤ a4 ∧ a4 < μ3 (μ x0 0) (-1)) <|
  ck (μ3 x0 (-2) = 10) <|
  bd (f_X8_lotAt N x1 μ3) fun a7 μ8 =>
  nm (w32 (a7 + 2)) fun a9 =>
  ck (μ8 (μ3 x0 0) (-2) = 24 ∧ (0 : Int) ≤ a9 ∧ a9 < μ8 (μ3 x0 0) (-1)) <|
  nm (w64 (x2 + x4)) fun a11 =>
  nm (w64 ((μ3 (μ x0 0) a4) * a11)) fun a12 =>
  ck ((μ8 (μ3 x0 0) a9) ≠ 0) <|
  nm (w64 (Int.tdiv a12 (μ8 (μ3 x0 0) a9))) fun a13 =>
  nm (w64 ((μ3 (μ x0 0) a4) * x2)) fun a15 =>
  ck ((μ8 (μ3 x0 0) a9) ≠ 0) <|
  nm (w64 (Int.tdiv a15 (μ8 (μ3 x0 0) a9))) fun a16 =>
  nm (w64 (a13 - a16)) fun a18 =>
  some (a18, μ8)
set_option maxHeartbeats 4000000 in
set_option maxRecDepth 100000 in
theorem c_X8_duty (l : Launch) (E : gE) (N : Nat) (x0 x1 x2 x4 : Int) (μ μ' : Mm) (r : Int) (h : f_X8_duty N x0 x1 x2 x4 μ = some (r, μ')) (rx1 : R32 x1) (rx2 : R64 x2) (rx4 : R64 x4) : gMet l E yX8_duty cX8_duty 10 (some .long) 1 20 [vr E x0, vi x1, vl x2, vl x4] (some (vl r)) (R64 r) μ μ' 0 0 := by
  refine g_ofW [1, 1, 2, 2] (by first | (simp only [List.map_cons, List.map_nil, vr_cat]; done) | (simp only [List.map_cons, List.map_nil, vr_cat]; rfl)) (by decide) (by decide) (fun p e s m below meth c ls C hM hl => ?_)
  replace C : gCx p s m _ meth c cX8_duty 10 (some .long) "duty" RX8 := C
  replace hl : lv_has ls 10 [(0, vr E x0), (1, vi x1), (2, vl x2), (4, vl x4)] := hl
  unfold f_X8_duty at h
  refine m_aload_n (pc := 0) C dX8_duty_0 rfl (lv_at hl 0 rfl) ?_
  obtain ⟨q1, h⟩ := ck_some h
  refine G_X8_now (pc := 1) C hM bw_4_227 q1 dX8_duty_1 ?_
  refine m_iload_n (pc := 4) C dX8_duty_4 rfl (lv_at hl 1 rfl) ?_
  obtain ⟨a2, μ3, ca2, h⟩ := bd_some h
  refine V_X8_lotAt (pc := 5) C hM ca2 rx1 bw_5_87 ⟨Nat.le_of_ble_eq_true rfl, Nat.le_of_ble_eq_true rfl⟩ hl.1 (rcR rc0) ⟨Nat.le_refl _, Nat.le_refl _⟩ dX8_duty_5 (fun ra2 H locs hM => ?_)
  refine m_bipush (pc := 8) C dX8_duty_8 rfl ?_
  obtain ⟨a4, ea4, h⟩ := nm_some h
  have ra4 : R32 a4 := by rw [ea4]; exact w32_R _
  refine m_iadd (pc := 10) C dX8_duty_10 ea4 ?_
  obtain ⟨q5, h⟩ := ck_some h
  have gq5 := Ar_lald hM q5.1 q5.2.1 q5.2.2
  refine m_lald (pc := 11) C hM q5.1 q5.2.1 q5.2.2 dX8_duty_11 ?_
  refine m_lstore (pc := 12) C dX8_duty_12 hl (by decide) (lvK1 0 rfl (Nat.ne_of_beq_eq_false rfl) (Nat.ne_of_beq_eq_false rfl) (lvK1 1 rfl (Nat.ne_of_beq_eq_false rfl) (Nat.ne_of_beq_eq_false rfl) (lvK1 2 rfl (Nat.ne_of_beq_eq_false rfl) (Nat.ne_of_beq_eq_false rfl) (lvK1 3 rfl (Nat.ne_of_beq_eq_false rfl) (Nat.ne_of_beq_eq_false rfl) lvK0)))) (lvN1 (Nat.ne_of_beq_eq_false rfl) (lvN1 (Nat.ne_of_beq_eq_false rfl) (lvN1 (Nat.ne_of_beq_eq_false rfl) (lvN1 (Nat.ne_of_beq_eq_false rfl) lvN0)))) (fun ls hl => ?_)
  refine m_aload_n (pc := 14) C dX8_duty_14 rfl (lv_at hl 1 rfl) ?_
  obtain ⟨q6, h⟩ := ck_some h
  refine G_X8_now (pc := 15) C hM bw_4_227 q6 dX8_duty_15 ?_
  refine m_iload_n (pc := 18) C dX8_duty_18 rfl (lv_at hl 2 rfl) ?_
  obtain ⟨a7, μ8, ca7, h⟩ := bd_some h
  refine V_X8_lotAt (pc := 19) C hM ca7 rx1 bw_5_87 ⟨Nat.le_of_ble_eq_true rfl, Nat.le_of_ble_eq_true rfl⟩ hl.1 (rcR rc0) ⟨Nat.le_refl _, Nat.le_refl _⟩ dX8_duty_19 (fun ra7 H locs hM => ?_)
  refine m_iconst (pc := 22) C dX8_duty_22 ?_
  obtain ⟨a9, ea9, h⟩ := nm_some h
  have ra9 : R32 a9 := by rw [ea9]; exact w32_R _
  refine m_iadd (pc := 23) C dX8_duty_23 ea9 ?_
  obtain ⟨q10, h⟩ := ck_some h
  have gq10 := Ar_lald hM q10.1 q10.2.1 q10.2.2
  refine m_lald (pc := 24) C hM q10.1 q10.2.1 q10.2.2 dX8_duty_24 ?_
  refine m_lstore (pc := 25) C dX8_duty_25 hl (by decide) (lvK1 0 rfl (Nat.ne_of_beq_eq_false rfl) (Nat.ne_of_beq_eq_false rfl) (lvK1 3 rfl (Nat.ne_of_beq_eq_false rfl) (Nat.ne_of_beq_eq_false rfl) (lvK1 4 rfl (Nat.ne_of_beq_eq_false rfl) (Nat.ne_of_beq_eq_false rfl) lvK0))) (lvN1 (Nat.ne_of_beq_eq_false rfl) (lvN1 (Nat.ne_of_beq_eq_false rfl) (lvN1 (Nat.ne_of_beq_eq_false rfl) lvN0))) (fun ls hl => ?_)
  refine m_lload (pc := 27) C dX8_duty_27 (lv_at hl 1 rfl) ?_
  refine m_lload_n (pc := 29) C dX8_duty_29 rfl (lv_at hl 2 rfl) ?_
  refine m_lload (pc := 30) C dX8_duty_30 (lv_at hl 3 rfl) ?_
  obtain ⟨a11, ea11, h⟩ := nm_some h
  have ra11 : R64 a11 := by rw [ea11]; exact w64_R _
  refine m_ladd (pc := 32) C dX8_duty_32 ea11 ?_
  obtain ⟨a12, ea12, h⟩ := nm_some h
  have ra12 : R64 a12 := by rw [ea12]; exact w64_R _
  refine m_lmul (pc := 33) C dX8_duty_33 ea12 ?_
  refine m_lload (pc := 34) C dX8_duty_34 (lv_at hl 0 rfl) ?_
  obtain ⟨q14, h⟩ := ck_some h
  obtain ⟨a13, ea13, h⟩ := nm_some h
  have ra13 : R64 a13 := by rw [ea13]; exact w64_R _
  refine m_ldiv (pc := 36) C ra12 gq10 q14 dX8_duty_36 ea13 ?_
  refine m_lload (pc := 37) C dX8_duty_37 (lv_at hl 1 rfl) ?_
  refine m_lload_n (pc := 39) C dX8_duty_39 rfl (lv_at hl 2 rfl) ?_
  obtain ⟨a15, ea15, h⟩ := nm_some h
  have ra15 : R64 a15 := by rw [ea15]; exact w64_R _
  refine m_lmul (pc := 40) C dX8_duty_40 ea15 ?_
  refine m_lload (pc := 41) C dX8_duty_41 (lv_at hl 0 rfl) ?_
  obtain ⟨q17, h⟩ := ck_some h
  obtain ⟨a16, ea16, h⟩ := nm_some h
  have ra16 : R64 a16 := by rw [ea16]; exact w64_R _
  refine m_ldiv (pc := 43) C ra15 gq10 q17 dX8_duty_43 ea16 ?_
  obtain ⟨a18, ea18, h⟩ := nm_some h
  have ra18 : R64 a18 := by rw [ea18]; exact w64_R _
  refine m_lsub (pc := 44) C dX8_duty_44 ea18 ?_
  cases h
  exact m_lret (pc := 45) C hM ra18 dX8_duty_45
theorem hd_X8_duty : yX8_duty.cls ≠ "java/lang/invoke/MethodHandle" ∧ yX8_duty.cls ≠ "java/lang/invoke/VarHandle" ∧ (parseMethodDescriptor yX8_duty.desc).map (fun d => d.parameters.length) = some 3 := by decide +kernel

theorem V_X8_duty {p : Program} {l : Launch} {e : Env} {R : Room} {s : State} {m : MethodId} {args : Array Value} {below : List Frame} {meth : Method} {c : Code} {H : Heap} {locs : List Loc} {cells slots : Nat} {Q : State → Prop} {cc : ByteArray} {pc nL : Nat} {ls : Array Slot} {rest : List Value} {ret : Option FieldType} {nmm own : String} {E : gE} {μ μ1 : Mm} {index : Nat} (C : gCx p s m args meth c cc nL ret nmm own) (hM : MS E μ s H locs) {N : Nat} {x0 x1 x2 x4 v : Int} (hc : f_X8_duty N x0 x1 x2 x4 μ = some (v, μ1)) (rx1 : R32 x1) (rx2 : R64 x2) (rx4 : R64 x4) (hck : μ x0 (-2) = 10) (h1 : Cond.methodLink own index yX8_duty ∈ bigL) (hR : 2 ≤ R.frames ∧ 49 ≤ R.locals) (hl : ls.size = nL) (hcat : RC rest 8) (hf : cells + 0 ≤ R.cells ∧ slots + 0 ≤ R.slots) (hdg : decode cc pc = .ok (.invokevirtual index, 3)) (kk : (R64 v) → ∀ (H1 : Heap) (locs1 : List Loc), MS E μ1 s H1 locs1 → W p l e R s m args below meth c H1 locs1 (cells + 0) (slots + 0) Q (F0 m (pc + 3) ls (vl v :: rest))) : W p l e R s m args below meth c H locs cells slots Q (F0 m pc ls (vl x4 :: vl x2 :: vi x1 :: vr E x0 :: rest)) := g_callV C KF_X8 hM (c_X8_duty l E N x0 x1 x2 x4 μ μ1 v hc rx1 rx2 rx4) hck (gV h1 bw_5_104 bs_27 bw_1_13 bw_5_105) ⟨rfl, hd_X8_duty⟩ hR rfl hl rfl hcat hf hdg kk
/-! X8_dutyNow -/
def f_X8_dutyNow (N : Nat) (x0 x1 x2 : Int) (μ : Mm) : Rs :=
  ck (μ x0 (-2) = 10) <|
  bd (f_X8_lotAt N x1 μ) fun a2 μ3 =>
  nm (w32 (a2 + 7)) fun a4 =>
  ck (μ3 (μ x0 0) (-2) = 24 ∧ (0 : Int) ≤ a4 ∧ a4 < μ3 (μ x0 0) (-1)) <|
  ck (μ3 x0 (-2) = 10) <|
  bd (f_X8_duty N x0 x1 (μ3 (μ x0 0) a4) x2 μ3) fun a7 μ8 =>
  some (a7, μ8)
set_option maxHeartbeats 4000000 in
set_option maxRecDepth 100000 in
theorem c_X8_dutyNow (l : Launch) (E : gE) (N : Nat) (x0 x1 x2 : Int) (μ μ' : Mm) (r : Int) (h : f_X8_dutyNow N x0 x1 x2 μ = some (r, μ')) (rx1 : R32 x1) (rx2 : R64 x2) : gMet l E yX8_dutyNow cX8_dutyNow 4 (some .long) 2 49 [vr E x0, vi x1, vl x2] (some (vl r)) (R64 r) μ μ' 0 0 := by
  refine g_ofW [1, 1, 2] (by first | (simp only [List.map_cons, List.map_nil, vr_cat]; done) | (simp only [List.map_cons, List.map_nil, vr_cat]; rfl)) (by decide) (by decide) (fun p e s m below meth c ls C hM hl => ?_)
  replace C : gCx p s m _ meth c cX8_dutyNow 4 (some .long) "dutyNow" RX8 := C
  replace hl : lv_has ls 4 [(0, vr E x0), (1, vi x1), (2, vl x2)] := hl
  unfold f_X8_dutyNow at h
  refine m_aload_n (pc := 0) C dX8_dutyNow_0 rfl (lv_at hl 0 rfl) ?_
  refine m_iload_n (pc := 1) C dX8_dutyNow_1 rfl (lv_at hl 1 rfl) ?_
  refine m_aload_n (pc := 2) C dX8_dutyNow_2 rfl (lv_at hl 0 rfl) ?_
  obtain ⟨q1, h⟩ := ck_some h
  refine G_X8_now (pc := 3) C hM bw_4_227 q1 dX8_dutyNow_3 ?_
  refine m_iload_n (pc := 6) C dX8_dutyNow_6 rfl (lv_at hl 1 rfl) ?_
  obtain ⟨a2, μ3, ca2, h⟩ := bd_some h
  refine V_X8_lotAt (pc := 7) C hM ca2 rx1 bw_5_87 ⟨Nat.le_of_ble_eq_true rfl, Nat.le_of_ble_eq_true rfl⟩ hl.1 (rcR (rcI (rcR rc0))) ⟨Nat.le_refl _, Nat.le_refl _⟩ dX8_dutyNow_7 (fun ra2 H locs hM => ?_)
  refine m_bipush (pc := 10) C dX8_dutyNow_10 rfl ?_
  obtain ⟨a4, ea4, h⟩ := nm_some h
  have ra4 : R32 a4 := by rw [ea4]; exact w32_R _
  refine m_iadd (pc := 12) C dX8_dutyNow_12 ea4 ?_
  obtain ⟨q5, h⟩ := ck_some h
  have gq5 := Ar_lald hM q5.1 q5.2.1 q5.2.2
  refine m_lald (pc := 13) C hM q5.1 q5.2.1 q5.2.2 dX8_dutyNow_13 ?_
  refine m_lload_n (pc := 14) C dX8_dutyNow_14 rfl (lv_at hl 2 rfl) ?_
  obtain ⟨q6, h⟩ := ck_some h
  obtain ⟨a7, μ8, ca7, h⟩ := bd_some h
  refine V_X8_duty (pc := 15) C hM ca7 rx1 gq5 rx2 q6 bw_5_102 ⟨Nat.le_of_ble_eq_true rfl, Nat.le_of_ble_eq_true rfl⟩ hl.1 rc0 ⟨Nat.le_refl _, Nat.le_refl _⟩ dX8_dutyNow_15 (fun ra7 H locs hM => ?_)
  cases h
  exact m_lret (pc := 18) C hM ra7 dX8_dutyNow_18
theorem hd_X8_dutyNow : yX8_dutyNow.cls ≠ "java/lang/invoke/MethodHandle" ∧ yX8_dutyNow.cls ≠ "java/lang/invoke/VarHandle" ∧ (parseMethodDescriptor yX8_dutyNow.desc).map (fun d => d.parameters.length) = some 2 := by decide +kernel

theorem V_X8_dutyNow {p : Program} {l : Launch} {e : Env} {R : Room} {s : State} {m : MethodId} {args : Array Value} {below : List Frame} {meth : Method} {c : Code} {H : Heap} {locs : List Loc} {cells slots : Nat} {Q : State → Prop} {cc : ByteArray} {pc nL : Nat} {ls : Array Slot} {rest : List Value} {ret : Option FieldType} {nmm own : String} {E : gE} {μ μ1 : Mm} {index : Nat} (C : gCx p s m args meth c cc nL ret nmm own) (hM : MS E μ s H locs) {N : Nat} {x0 x1 x2 v : Int} (hc : f_X8_dutyNow N x0 x1 x2 μ = some (v, μ1)) (rx1 : R32 x1) (rx2 : R64 x2) (hck : μ x0 (-2) = 10) (h1 : Cond.methodLink own index yX8_dutyNow ∈ bigL) (hR : 3 ≤ R.frames ∧ 72 ≤ R.locals) (hl : ls.size = nL) (hcat : RC rest 8) (hf : cells + 0 ≤ R.cells ∧ slots + 0 ≤ R.slots) (hdg : decode cc pc = .ok (.invokevirtual index, 3)) (kk : (R64 v) → ∀ (H1 : Heap) (locs1 : List Loc), MS E μ1 s H1 locs1 → W p l e R s m args below meth c H1 locs1 (cells + 0) (slots + 0) Q (F0 m (pc + 3) ls (vl v :: rest))) : W p l e R s m args below meth c H locs cells slots Q (F0 m pc ls (vl x2 :: vi x1 :: vr E x0 :: rest)) := g_callV C KF_X8 hM (c_X8_dutyNow l E N x0 x1 x2 μ μ1 v hc rx1 rx2) hck (gV h1 bw_5_100 bs_26 bw_1_13 bw_5_101) ⟨rfl, hd_X8_dutyNow⟩ hR rfl hl rfl hcat hf hdg kk
/-! X8_waits -/
def f_X8_waits (N : Nat) (x0 x1 : Int) (μ : Mm) : Rs :=
  ck (μ x0 (-2) = 10) <|
  bd (f_X8_exportAt N x1 μ) fun a2 μ3 =>
  nm (w32 (a2 + 4)) fun a4 =>
  ck (μ3 (μ x0 0) (-2) = 24 ∧ (0 : Int) ≤ a4 ∧ a4 < μ3 (μ x0 0) (-1)) <|
  if ¬ (μ3 (μ x0 0) a4) = 0 then
    (some (0, μ3))
  else
  some (1, μ3)
set_option maxHeartbeats 4000000 in
set_option maxRecDepth 100000 in
theorem c_X8_waits (l : Launch) (E : gE) (N : Nat) (x0 x1 : Int) (μ μ' : Mm) (r : Int) (h : f_X8_waits N x0 x1 μ = some (r, μ')) (rx1 : R32 x1) : gMet l E yX8_waits cX8_waits 2 (some .boolean) 1 20 [vr E x0, vi x1] (some (vi r)) (R32 r) μ μ' 0 0 := by
  refine g_ofW [1, 1] (by first | (simp only [List.map_cons, List.map_nil, vr_cat]; done) | (simp only [List.map_cons, List.map_nil, vr_cat]; rfl)) (by decide) (by decide) (fun p e s m below meth c ls C hM hl => ?_)
  replace C : gCx p s m _ meth c cX8_waits 2 (some .boolean) "waits" RX8 := C
  replace hl : lv_has ls 2 [(0, vr E x0), (1, vi x1)] := hl
  unfold f_X8_waits at h
  refine m_aload_n (pc := 0) C dX8_waits_0 rfl (lv_at hl 0 rfl) ?_
  obtain ⟨q1, h⟩ := ck_some h
  refine G_X8_now (pc := 1) C hM bw_4_227 q1 dX8_waits_1 ?_
  refine m_iload_n (pc := 4) C dX8_waits_4 rfl (lv_at hl 1 rfl) ?_
  obtain ⟨a2, μ3, ca2, h⟩ := bd_some h
  refine V_X8_exportAt (pc := 5) C hM ca2 rx1 bw_5_114 ⟨Nat.le_of_ble_eq_true rfl, Nat.le_of_ble_eq_true rfl⟩ hl.1 (rcR rc0) ⟨Nat.le_refl _, Nat.le_refl _⟩ dX8_waits_5 (fun ra2 H locs hM => ?_)
  refine m_iconst (pc := 8) C dX8_waits_8 ?_
  obtain ⟨a4, ea4, h⟩ := nm_some h
  have ra4 : R32 a4 := by rw [ea4]; exact w32_R _
  refine m_iadd (pc := 9) C dX8_waits_9 ea4 ?_
  obtain ⟨q5, h⟩ := ck_some h
  have gq5 := Ar_lald hM q5.1 q5.2.1 q5.2.2
  refine m_lald (pc := 10) C hM q5.1 q5.2.1 q5.2.2 dX8_waits_10 ?_
  refine m_lconst (v := 0) (pc := 11) C dX8_waits_11 rfl ?_
  refine m_lcmp_ne (tgt := 20) (pc := 12) C gq5 rl_0 dX8_waits_12 dX8_waits_13 (by decide) (fun c6 => ?_) (fun c6 => ?_)
  · have h := if_t h c6
    refine m_iconst (pc := 20) C dX8_waits_20 ?_
    cases h
    exact m_zret (pc := 21) C rfl hM rk_0 dX8_waits_21
  · have h := if_f h c6
    refine m_iconst (pc := 16) C dX8_waits_16 ?_
    refine m_goto (tgt := 21) (pc := 17) C dX8_waits_17 (by decide) ?_
    cases h
    exact m_zret (pc := 21) C rfl hM rk_1 dX8_waits_21
theorem hd_X8_waits : yX8_waits.cls ≠ "java/lang/invoke/MethodHandle" ∧ yX8_waits.cls ≠ "java/lang/invoke/VarHandle" ∧ (parseMethodDescriptor yX8_waits.desc).map (fun d => d.parameters.length) = some 1 := by decide +kernel

theorem V_X8_waits {p : Program} {l : Launch} {e : Env} {R : Room} {s : State} {m : MethodId} {args : Array Value} {below : List Frame} {meth : Method} {c : Code} {H : Heap} {locs : List Loc} {cells slots : Nat} {Q : State → Prop} {cc : ByteArray} {pc nL : Nat} {ls : Array Slot} {rest : List Value} {ret : Option FieldType} {nmm own : String} {E : gE} {μ μ1 : Mm} {index : Nat} (C : gCx p s m args meth c cc nL ret nmm own) (hM : MS E μ s H locs) {N : Nat} {x0 x1 v : Int} (hc : f_X8_waits N x0 x1 μ = some (v, μ1)) (rx1 : R32 x1) (hck : μ x0 (-2) = 10) (h1 : Cond.methodLink own index yX8_waits ∈ bigL) (hR : 2 ≤ R.frames ∧ 41 ≤ R.locals) (hl : ls.size = nL) (hcat : RC rest 8) (hf : cells + 0 ≤ R.cells ∧ slots + 0 ≤ R.slots) (hdg : decode cc pc = .ok (.invokevirtual index, 3)) (kk : (R32 v) → ∀ (H1 : Heap) (locs1 : List Loc), MS E μ1 s H1 locs1 → W p l e R s m args below meth c H1 locs1 (cells + 0) (slots + 0) Q (F0 m (pc + 3) ls (vi v :: rest))) : W p l e R s m args below meth c H locs cells slots Q (F0 m pc ls (vi x1 :: vr E x0 :: rest)) := g_callV C KF_X8 hM (c_X8_waits l E N x0 x1 μ μ1 v hc rx1) hck (gV h1 bw_5_112 bs_29 bw_1_13 bw_5_113) ⟨rfl, hd_X8_waits⟩ hR rfl hl rfl hcat hf hdg kk
/-! X8_waiting -/
def f_X8_waiting_b5 (N : Nat) : Nat → Int → Int → Int → Int → Int → Mm → Rs
  | 0, _, _, _, _, _, _ => none
  | n + 1, x0, x1, x2, x3, x5, μ =>
    ck (μ x0 (-2) = 10) <|
    ck (μ (μ x0 0) (-2) = 24 ∧ (0 : Int) ≤ 3 ∧ 3 < μ (μ x0 0) (-1)) <|
    if (μ (μ x0 0) 3) ≤ x5 then
      (some (x3, μ))
    else
    ck (μ x0 (-2) = 10) <|
    bd (f_X8_waits N x0 x5 μ) fun a5 μ6 =>
    if a5 = 0 then
      (nm (w64 (x3 + 0)) fun a8 =>
       nm (w32 (x5 + 1)) fun a9 =>
       f_X8_waiting_b5 N n x0 x1 x2 a8 a9 μ6)
    else
    ck (μ6 x0 (-2) = 10) <|
    bd (f_X8_exportAt N x5 μ6) fun a11 μ12 =>
    ck (μ12 (μ6 x0 0) (-2) = 24 ∧ (0 : Int) ≤ a11 ∧ a11 < μ12 (μ6 x0 0) (-1)) <|
    if ¬ (μ12 (μ6 x0 0) a11) = x1 then
      (nm (w64 (x3 + 0)) fun a15 =>
       nm (w32 (x5 + 1)) fun a16 =>
       f_X8_waiting_b5 N n x0 x1 x2 a15 a16 μ12)
    else
    ck (μ12 x0 (-2) = 10) <|
    bd (f_X8_exportAt N x5 μ12) fun a18 μ19 =>
    nm (w32 (a18 + x2)) fun a20 =>
    ck (μ19 (μ12 x0 0) (-2) = 24 ∧ (0 : Int) ≤ a20 ∧ a20 < μ19 (μ12 x0 0) (-1)) <|
    nm (w64 (x3 + (μ19 (μ12 x0 0) a20))) fun a22 =>
    nm (w32 (x5 + 1)) fun a23 =>
    f_X8_waiting_b5 N n x0 x1 x2 a22 a23 μ19
def f_X8_waiting (N : Nat) (x0 x1 x2 : Int) (μ : Mm) : Rs :=
  f_X8_waiting_b5 N N x0 x1 x2 0 0 μ
set_option maxHeartbeats 4000000 in
set_option maxRecDepth 100000 in
theorem k_X8_waiting_b5 (C : gCx p s m args meth c cX8_waiting 6 (some .long) "waiting" RX8) (N : Nat) {r : Int} {μ' : Mm} : ∀ (n : Nat), ∀ (x0 x1 x2 x3 x5 : Int) (μ : Mm), f_X8_waiting_b5 N n x0 x1 x2 x3 x5 μ = some (r, μ') → R32 x1 → R32 x2 → R64 x3 → R32 x5 → ∀ (H : Heap) (locs : List Loc) (ls : Array Slot), MS E μ s H locs → lv_has ls 6 [(0, vr E x0), (1, vi x1), (2, vi x2), (3, vl x3), (5, vi x5)] → W p l e ({ frames := 2, cells := 0, slots := 0, locals := 41 } : Room) s m args below meth c H locs 0 0 (MQ below (gQ E (some (vl r)) (R64 r) μ') args s 0 0 (gA E)) (F0 m 5 ls []) := by
  intro n
  induction n with
  | zero => intro x0 x1 x2 x3 x5 μ h; simp [f_X8_waiting_b5] at h
  | succ n ih =>
    intro x0 x1 x2 x3 x5 μ h rx1 rx2 rx3 rx5 H locs ls hM hl
    rw [f_X8_waiting_b5] at h
    refine m_iload (pc := 5) C dX8_waiting_5 (lv_at hl 4 rfl) ?_
    refine m_i2l (pc := 7) C rx5 dX8_waiting_7 ?_
    refine m_aload_n (pc := 8) C dX8_waiting_8 rfl (lv_at hl 0 rfl) ?_
    obtain ⟨q1, h⟩ := ck_some h
    refine G_X8_now (pc := 9) C hM bw_4_227 q1 dX8_waiting_9 ?_
    refine m_iconst (pc := 12) C dX8_waiting_12 ?_
    obtain ⟨q2, h⟩ := ck_some h
    have gq2 := Ar_lald hM q2.1 q2.2.1 q2.2.2
    refine m_lald (pc := 13) C hM q2.1 q2.2.1 q2.2.2 dX8_waiting_13 ?_
    refine m_lcmp_ge (tgt := 68) (pc := 14) C (R32.to64 rx5) gq2 dX8_waiting_14 dX8_waiting_15 (by decide) (fun c3 => ?_) (fun c3 => ?_)
    · have h := if_t h c3
      refine m_lload_n (pc := 68) C dX8_waiting_68 rfl (lv_at hl 3 rfl) ?_
      cases h
      exact m_lret (pc := 69) C hM rx3 dX8_waiting_69
    · have h := if_f h c3
      refine m_lload_n (pc := 18) C dX8_waiting_18 rfl (lv_at hl 3 rfl) ?_
      refine m_aload_n (pc := 19) C dX8_waiting_19 rfl (lv_at hl 0 rfl) ?_
      refine m_iload (pc := 20) C dX8_waiting_20 (lv_at hl 4 rfl) ?_
      obtain ⟨q4, h⟩ := ck_some h
      obtain ⟨a5, μ6, ca5, h⟩ := bd_some h
      refine V_X8_waits (pc := 22) C hM ca5 rx5 q4 bw_5_110 ⟨Nat.le_of_ble_eq_true rfl, Nat.le_of_ble_eq_true rfl⟩ hl.1 (rcL rc0) ⟨Nat.le_refl _, Nat.le_refl _⟩ dX8_waiting_22 (fun ra5 H locs hM => ?_)
      refine m_if_eq (tgt := 59) (pc := 25) C ra5 dX8_waiting_25 (by decide) (fun c7 => ?_) (fun c7 => ?_)
      · have h := if_t h c7
        refine m_lconst (v := 0) (pc := 59) C dX8_waiting_59 rfl ?_
        obtain ⟨a8, ea8, h⟩ := nm_some h
        have ra8 : R64 a8 := by rw [ea8]; exact w64_R _
        refine m_ladd (pc := 60) C dX8_waiting_60 ea8 ?_
        refine m_lstore_n (pc := 61) C dX8_waiting_61 rfl hl (by decide) (lvK1 0 rfl (Nat.ne_of_beq_eq_false rfl) (Nat.ne_of_beq_eq_false rfl) (lvK1 1 rfl (Nat.ne_of_beq_eq_false rfl) (Nat.ne_of_beq_eq_false rfl) (lvK2 2 rfl (Nat.ne_of_beq_eq_false rfl) rfl (lvK1 4 rfl (Nat.ne_of_beq_eq_false rfl) (Nat.ne_of_beq_eq_false rfl) lvK0)))) (lvN1 (Nat.ne_of_beq_eq_false rfl) (lvN1 (Nat.ne_of_beq_eq_false rfl) (lvN1 (Nat.ne_of_beq_eq_false rfl) (lvN1 (Nat.ne_of_beq_eq_false rfl) lvN0)))) (fun ls hl => ?_)
        obtain ⟨a9, ea9, h⟩ := nm_some h
        have ra9 : R32 a9 := by rw [ea9]; exact w32_R _
        refine m_iinc (k := 4) (pc := 62) C dX8_waiting_62 hl rfl (by decide) ea9 (lvK1 0 rfl (Nat.ne_of_beq_eq_false rfl) (Nat.ne_of_beq_eq_false rfl) (lvK1 1 rfl (Nat.ne_of_beq_eq_false rfl) (Nat.ne_of_beq_eq_false rfl) (lvK1 2 rfl (Nat.ne_of_beq_eq_false rfl) (Nat.ne_of_beq_eq_false rfl) (lvK1 3 rfl (Nat.ne_of_beq_eq_false rfl) (Nat.ne_of_beq_eq_false rfl) lvK0)))) (fun ls hl => ?_)
        refine m_goto (tgt := 5) (pc := 65) C dX8_waiting_65 (by decide) ?_
        exact ih _ _ _ _ _ _ h rx1 rx2 ra8 ra9 _ _ _ hM (lv_sub hl [2, 3, 4, 1, 0] rfl)
      · have h := if_f h c7
        refine m_aload_n (pc := 28) C dX8_waiting_28 rfl (lv_at hl 0 rfl) ?_
        obtain ⟨q10, h⟩ := ck_some h
        refine G_X8_now (pc := 29) C hM bw_4_227 q10 dX8_waiting_29 ?_
        refine m_iload (pc := 32) C dX8_waiting_32 (lv_at hl 4 rfl) ?_
        obtain ⟨a11, μ12, ca11, h⟩ := bd_some h
        refine V_X8_exportAt (pc := 34) C hM ca11 rx5 bw_5_114 ⟨Nat.le_of_ble_eq_true rfl, Nat.le_of_ble_eq_true rfl⟩ hl.1 (rcR (rcL rc0)) ⟨Nat.le_refl _, Nat.le_refl _⟩ dX8_waiting_34 (fun ra11 H locs hM => ?_)
        obtain ⟨q13, h⟩ := ck_some h
        have gq13 := Ar_lald hM q13.1 q13.2.1 q13.2.2
        refine m_lald (pc := 37) C hM q13.1 q13.2.1 q13.2.2 dX8_waiting_37 ?_
        refine m_iload_n (pc := 38) C dX8_waiting_38 rfl (lv_at hl 1 rfl) ?_
        refine m_i2l (pc := 39) C rx1 dX8_waiting_39 ?_
        refine m_lcmp_ne (tgt := 59) (pc := 40) C gq13 (R32.to64 rx1) dX8_waiting_40 dX8_waiting_41 (by decide) (fun c14 => ?_) (fun c14 => ?_)
        · have h := if_t h c14
          refine m_lconst (v := 0) (pc := 59) C dX8_waiting_59 rfl ?_
          obtain ⟨a15, ea15, h⟩ := nm_some h
          have ra15 : R64 a15 := by rw [ea15]; exact w64_R _
          refine m_ladd (pc := 60) C dX8_waiting_60 ea15 ?_
          refine m_lstore_n (pc := 61) C dX8_waiting_61 rfl hl (by decide) (lvK1 0 rfl (Nat.ne_of_beq_eq_false rfl) (Nat.ne_of_beq_eq_false rfl) (lvK1 1 rfl (Nat.ne_of_beq_eq_false rfl) (Nat.ne_of_beq_eq_false rfl) (lvK2 2 rfl (Nat.ne_of_beq_eq_false rfl) rfl (lvK1 4 rfl (Nat.ne_of_beq_eq_false rfl) (Nat.ne_of_beq_eq_false rfl) lvK0)))) (lvN1 (Nat.ne_of_beq_eq_false rfl) (lvN1 (Nat.ne_of_beq_eq_false rfl) (lvN1 (Nat.ne_of_beq_eq_false rfl) (lvN1 (Nat.ne_of_beq_eq_false rfl) lvN0)))) (fun ls hl => ?_)
          obtain ⟨a16, ea16, h⟩ := nm_some h
          have ra16 : R32 a16 := by rw [ea16]; exact w32_R _
          refine m_iinc (k := 4) (pc := 62) C dX8_waiting_62 hl rfl (by decide) ea16 (lvK1 0 rfl (Nat.ne_of_beq_eq_false rfl) (Nat.ne_of_beq_eq_false rfl) (lvK1 1 rfl (Nat.ne_of_beq_eq_false rfl) (Nat.ne_of_beq_eq_false rfl) (lvK1 2 rfl (Nat.ne_of_beq_eq_false rfl) (Nat.ne_of_beq_eq_false rfl) (lvK1 3 rfl (Nat.ne_of_beq_eq_false rfl) (Nat.ne_of_beq_eq_false rfl) lvK0)))) (fun ls hl => ?_)
          refine m_goto (tgt := 5) (pc := 65) C dX8_waiting_65 (by decide) ?_
          exact ih _ _ _ _ _ _ h rx1 rx2 ra15 ra16 _ _ _ hM (lv_sub hl [2, 3, 4, 1, 0] rfl)
        · have h := if_f h c14
          refine m_aload_n (pc := 44) C dX8_waiting_44 rfl (lv_at hl 0 rfl) ?_
          obtain ⟨q17, h⟩ := ck_some h
          refine G_X8_now (pc := 45) C hM bw_4_227 q17 dX8_waiting_45 ?_
          refine m_iload (pc := 48) C dX8_waiting_48 (lv_at hl 4 rfl) ?_
          obtain ⟨a18, μ19, ca18, h⟩ := bd_some h
          refine V_X8_exportAt (pc := 50) C hM ca18 rx5 bw_5_114 ⟨Nat.le_of_ble_eq_true rfl, Nat.le_of_ble_eq_true rfl⟩ hl.1 (rcR (rcL rc0)) ⟨Nat.le_refl _, Nat.le_refl _⟩ dX8_waiting_50 (fun ra18 H locs hM => ?_)
          refine m_iload_n (pc := 53) C dX8_waiting_53 rfl (lv_at hl 2 rfl) ?_
          obtain ⟨a20, ea20, h⟩ := nm_some h
          have ra20 : R32 a20 := by rw [ea20]; exact w32_R _
          refine m_iadd (pc := 54) C dX8_waiting_54 ea20 ?_
          obtain ⟨q21, h⟩ := ck_some h
          have gq21 := Ar_lald hM q21.1 q21.2.1 q21.2.2
          refine m_lald (pc := 55) C hM q21.1 q21.2.1 q21.2.2 dX8_waiting_55 ?_
          refine m_goto (tgt := 60) (pc := 56) C dX8_waiting_56 (by decide) ?_
          obtain ⟨a22, ea22, h⟩ := nm_some h
          have ra22 : R64 a22 := by rw [ea22]; exact w64_R _
          refine m_ladd (pc := 60) C dX8_waiting_60 ea22 ?_
          refine m_lstore_n (pc := 61) C dX8_waiting_61 rfl hl (by decide) (lvK1 0 rfl (Nat.ne_of_beq_eq_false rfl) (Nat.ne_of_beq_eq_false rfl) (lvK1 1 rfl (Nat.ne_of_beq_eq_false rfl) (Nat.ne_of_beq_eq_false rfl) (lvK2 2 rfl (Nat.ne_of_beq_eq_false rfl) rfl (lvK1 4 rfl (Nat.ne_of_beq_eq_false rfl) (Nat.ne_of_beq_eq_false rfl) lvK0)))) (lvN1 (Nat.ne_of_beq_eq_false rfl) (lvN1 (Nat.ne_of_beq_eq_false rfl) (lvN1 (Nat.ne_of_beq_eq_false rfl) (lvN1 (Nat.ne_of_beq_eq_false rfl) lvN0)))) (fun ls hl => ?_)
          obtain ⟨a23, ea23, h⟩ := nm_some h
          have ra23 : R32 a23 := by rw [ea23]; exact w32_R _
          refine m_iinc (k := 4) (pc := 62) C dX8_waiting_62 hl rfl (by decide) ea23 (lvK1 0 rfl (Nat.ne_of_beq_eq_false rfl) (Nat.ne_of_beq_eq_false rfl) (lvK1 1 rfl (Nat.ne_of_beq_eq_false rfl) (Nat.ne_of_beq_eq_false rfl) (lvK1 2 rfl (Nat.ne_of_beq_eq_false rfl) (Nat.ne_of_beq_eq_false rfl) (lvK1 3 rfl (Nat.ne_of_beq_eq_false rfl) (Nat.ne_of_beq_eq_false rfl) lvK0)))) (fun ls hl => ?_)
          refine m_goto (tgt := 5) (pc := 65) C dX8_waiting_65 (by decide) ?_
          exact ih _ _ _ _ _ _ h rx1 rx2 ra22 ra23 _ _ _ hM (lv_sub hl [2, 3, 4, 1, 0] rfl)
set_option maxHeartbeats 4000000 in
set_option maxRecDepth 100000 in
theorem c_X8_waiting (l : Launch) (E : gE) (N : Nat) (x0 x1 x2 : Int) (μ μ' : Mm) (r : Int) (h : f_X8_waiting N x0 x1 x2 μ = some (r, μ')) (rx1 : R32 x1) (rx2 : R32 x2) : gMet l E yX8_waiting cX8_waiting 6 (some .long) 2 41 [vr E x0, vi x1, vi x2] (some (vl r)) (R64 r) μ μ' 0 0 := by
  refine g_ofW [1, 1, 1] (by first | (simp only [List.map_cons, List.map_nil, vr_cat]; done) | (simp only [List.map_cons, List.map_nil, vr_cat]; rfl)) (by decide) (by decide) (fun p e s m below meth c ls C hM hl => ?_)
  replace C : gCx p s m _ meth c cX8_waiting 6 (some .long) "waiting" RX8 := C
  replace hl : lv_has ls 6 [(0, vr E x0), (1, vi x1), (2, vi x2)] := hl
  unfold f_X8_waiting at h
  refine m_lconst (v := 0) (pc := 0) C dX8_waiting_0 rfl ?_
  refine m_lstore_n (pc := 1) C dX8_waiting_1 rfl hl (by decide) (lvK1 0 rfl (Nat.ne_of_beq_eq_false rfl) (Nat.ne_of_beq_eq_false rfl) (lvK1 1 rfl (Nat.ne_of_beq_eq_false rfl) (Nat.ne_of_beq_eq_false rfl) (lvK2 2 rfl (Nat.ne_of_beq_eq_false rfl) rfl lvK0))) (lvN1 (Nat.ne_of_beq_eq_false rfl) (lvN1 (Nat.ne_of_beq_eq_false rfl) (lvN1 (Nat.ne_of_beq_eq_false rfl) lvN0))) (fun ls hl => ?_)
  refine m_iconst (pc := 2) C dX8_waiting_2 ?_
  refine m_istore (pc := 3) C dX8_waiting_3 hl (by decide) (lvK1 0 rfl (Nat.ne_of_beq_eq_false rfl) (Nat.ne_of_beq_eq_false rfl) (lvK1 1 rfl (Nat.ne_of_beq_eq_false rfl) (Nat.ne_of_beq_eq_false rfl) (lvK1 2 rfl (Nat.ne_of_beq_eq_false rfl) (Nat.ne_of_beq_eq_false rfl) (lvK1 3 rfl (Nat.ne_of_beq_eq_false rfl) (Nat.ne_of_beq_eq_false rfl) lvK0)))) (fun ls hl => ?_)
  exact k_X8_waiting_b5 C N N _ _ _ _ _ _ h rx1 rx2 rl_0 rk_0 _ _ _ hM (lv_sub hl [2, 3, 4, 1, 0] rfl)
theorem hd_X8_waiting : yX8_waiting.cls ≠ "java/lang/invoke/MethodHandle" ∧ yX8_waiting.cls ≠ "java/lang/invoke/VarHandle" ∧ (parseMethodDescriptor yX8_waiting.desc).map (fun d => d.parameters.length) = some 2 := by decide +kernel

theorem V_X8_waiting {p : Program} {l : Launch} {e : Env} {R : Room} {s : State} {m : MethodId} {args : Array Value} {below : List Frame} {meth : Method} {c : Code} {H : Heap} {locs : List Loc} {cells slots : Nat} {Q : State → Prop} {cc : ByteArray} {pc nL : Nat} {ls : Array Slot} {rest : List Value} {ret : Option FieldType} {nmm own : String} {E : gE} {μ μ1 : Mm} {index : Nat} (C : gCx p s m args meth c cc nL ret nmm own) (hM : MS E μ s H locs) {N : Nat} {x0 x1 x2 v : Int} (hc : f_X8_waiting N x0 x1 x2 μ = some (v, μ1)) (rx1 : R32 x1) (rx2 : R32 x2) (hck : μ x0 (-2) = 10) (h1 : Cond.methodLink own index yX8_waiting ∈ bigL) (hR : 3 ≤ R.frames ∧ 66 ≤ R.locals) (hl : ls.size = nL) (hcat : RC rest 8) (hf : cells + 0 ≤ R.cells ∧ slots + 0 ≤ R.slots) (hdg : decode cc pc = .ok (.invokevirtual index, 3)) (kk : (R64 v) → ∀ (H1 : Heap) (locs1 : List Loc), MS E μ1 s H1 locs1 → W p l e R s m args below meth c H1 locs1 (cells + 0) (slots + 0) Q (F0 m (pc + 3) ls (vl v :: rest))) : W p l e R s m args below meth c H locs cells slots Q (F0 m pc ls (vi x2 :: vi x1 :: vr E x0 :: rest)) := g_callV C KF_X8 hM (c_X8_waiting l E N x0 x1 x2 μ μ1 v hc rx1 rx2) hck (gV h1 bw_5_108 bs_28 bw_1_13 bw_5_109) ⟨rfl, hd_X8_waiting⟩ hR rfl hl rfl hcat hf hdg kk
/-! X8_suspended -/
def f_X8_suspended (N : Nat) (x0 x1 : Int) (μ : Mm) : Rs :=
  ck (μ x0 (-2) = 10) <|
  bd (f_X8_units N x0 x1 μ) fun a2 μ3 =>
  ck (μ3 x0 (-2) = 10) <|
  bd (f_X8_dutyNow N x0 x1 a2 μ3) fun a5 μ6 =>
  ck (μ6 x0 (-2) = 10) <|
  bd (f_X8_waiting N x0 x1 2 μ6) fun a8 μ9 =>
  nm (w64 (a5 + a8)) fun a10 =>
  some (a10, μ9)
set_option maxHeartbeats 4000000 in
set_option maxRecDepth 100000 in
theorem c_X8_suspended (l : Launch) (E : gE) (N : Nat) (x0 x1 : Int) (μ μ' : Mm) (r : Int) (h : f_X8_suspended N x0 x1 μ = some (r, μ')) (rx1 : R32 x1) : gMet l E yX8_suspended cX8_suspended 2 (some .long) 3 72 [vr E x0, vi x1] (some (vl r)) (R64 r) μ μ' 0 0 := by
  refine g_ofW [1, 1] (by first | (simp only [List.map_cons, List.map_nil, vr_cat]; done) | (simp only [List.map_cons, List.map_nil, vr_cat]; rfl)) (by decide) (by decide) (fun p e s m below meth c ls C hM hl => ?_)
  replace C : gCx p s m _ meth c cX8_suspended 2 (some .long) "suspended" RX8 := C
  replace hl : lv_has ls 2 [(0, vr E x0), (1, vi x1)] := hl
  unfold f_X8_suspended at h
  refine m_aload_n (pc := 0) C dX8_suspended_0 rfl (lv_at hl 0 rfl) ?_
  refine m_iload_n (pc := 1) C dX8_suspended_1 rfl (lv_at hl 1 rfl) ?_
  refine m_aload_n (pc := 2) C dX8_suspended_2 rfl (lv_at hl 0 rfl) ?_
  refine m_iload_n (pc := 3) C dX8_suspended_3 rfl (lv_at hl 1 rfl) ?_
  obtain ⟨q1, h⟩ := ck_some h
  obtain ⟨a2, μ3, ca2, h⟩ := bd_some h
  refine V_X8_units (pc := 4) C hM ca2 rx1 q1 bw_5_94 ⟨Nat.le_of_ble_eq_true rfl, Nat.le_of_ble_eq_true rfl⟩ hl.1 (rcI (rcR rc0)) ⟨Nat.le_refl _, Nat.le_refl _⟩ dX8_suspended_4 (fun ra2 H locs hM => ?_)
  obtain ⟨q4, h⟩ := ck_some h
  obtain ⟨a5, μ6, ca5, h⟩ := bd_some h
  refine V_X8_dutyNow (pc := 7) C hM ca5 rx1 ra2 q4 bw_5_98 ⟨Nat.le_of_ble_eq_true rfl, Nat.le_of_ble_eq_true rfl⟩ hl.1 rc0 ⟨Nat.le_refl _, Nat.le_refl _⟩ dX8_suspended_7 (fun ra5 H locs hM => ?_)
  refine m_aload_n (pc := 10) C dX8_suspended_10 rfl (lv_at hl 0 rfl) ?_
  refine m_iload_n (pc := 11) C dX8_suspended_11 rfl (lv_at hl 1 rfl) ?_
  refine m_iconst (pc := 12) C dX8_suspended_12 ?_
  obtain ⟨q7, h⟩ := ck_some h
  obtain ⟨a8, μ9, ca8, h⟩ := bd_some h
  refine V_X8_waiting (pc := 13) C hM ca8 rx1 rk_2 q7 bw_5_106 ⟨Nat.le_of_ble_eq_true rfl, Nat.le_of_ble_eq_true rfl⟩ hl.1 (rcL rc0) ⟨Nat.le_refl _, Nat.le_refl _⟩ dX8_suspended_13 (fun ra8 H locs hM => ?_)
  obtain ⟨a10, ea10, h⟩ := nm_some h
  have ra10 : R64 a10 := by rw [ea10]; exact w64_R _
  refine m_ladd (pc := 16) C dX8_suspended_16 ea10 ?_
  cases h
  exact m_lret (pc := 17) C hM ra10 dX8_suspended_17
theorem hd_X8_suspended : yX8_suspended.cls ≠ "java/lang/invoke/MethodHandle" ∧ yX8_suspended.cls ≠ "java/lang/invoke/VarHandle" ∧ (parseMethodDescriptor yX8_suspended.desc).map (fun d => d.parameters.length) = some 1 := by decide +kernel

theorem V_X8_suspended {p : Program} {l : Launch} {e : Env} {R : Room} {s : State} {m : MethodId} {args : Array Value} {below : List Frame} {meth : Method} {c : Code} {H : Heap} {locs : List Loc} {cells slots : Nat} {Q : State → Prop} {cc : ByteArray} {pc nL : Nat} {ls : Array Slot} {rest : List Value} {ret : Option FieldType} {nmm own : String} {E : gE} {μ μ1 : Mm} {index : Nat} (C : gCx p s m args meth c cc nL ret nmm own) (hM : MS E μ s H locs) {N : Nat} {x0 x1 v : Int} (hc : f_X8_suspended N x0 x1 μ = some (v, μ1)) (rx1 : R32 x1) (hck : μ x0 (-2) = 10) (h1 : Cond.methodLink own index yX8_suspended ∈ bigL) (hR : 4 ≤ R.frames ∧ 93 ≤ R.locals) (hl : ls.size = nL) (hcat : RC rest 8) (hf : cells + 0 ≤ R.cells ∧ slots + 0 ≤ R.slots) (hdg : decode cc pc = .ok (.invokevirtual index, 3)) (kk : (R64 v) → ∀ (H1 : Heap) (locs1 : List Loc), MS E μ1 s H1 locs1 → W p l e R s m args below meth c H1 locs1 (cells + 0) (slots + 0) Q (F0 m (pc + 3) ls (vl v :: rest))) : W p l e R s m args below meth c H locs cells slots Q (F0 m pc ls (vi x1 :: vr E x0 :: rest)) := g_callV C KF_X8 hM (c_X8_suspended l E N x0 x1 μ μ1 v hc rx1) hck (gV h1 bw_5_92 bs_24 bw_1_13 bw_5_93) ⟨rfl, hd_X8_suspended⟩ hR rfl hl rfl hcat hf hdg kk
/-! X8_use -/
def f_X8_use_b5 (N : Nat) : Nat → Int → Int → Int → Int → Mm → Rs
  | 0, _, _, _, _, _ => none
  | n + 1, x0, x1, x2, x4, μ =>
    ck (μ x0 (-2) = 10) <|
    ck (μ (μ x0 0) (-2) = 24 ∧ (0 : Int) ≤ 2 ∧ 2 < μ (μ x0 0) (-1)) <|
    if (μ (μ x0 0) 2) ≤ x4 then
      (some (x2, μ))
    else
    ck (μ x0 (-2) = 10) <|
    bd (f_X8_lotAt N x4 μ) fun a5 μ6 =>
    ck (μ6 (μ x0 0) (-2) = 24 ∧ (0 : Int) ≤ a5 ∧ a5 < μ6 (μ x0 0) (-1)) <|
    if ¬ (μ6 (μ x0 0) a5) = x1 then
      (nm (w64 (x2 + 0)) fun a9 =>
       nm (w32 (x4 + 1)) fun a10 =>
       f_X8_use_b5 N n x0 x1 a9 a10 μ6)
    else
    ck (μ6 x0 (-2) = 10) <|
    bd (f_X8_suspended N x0 x4 μ6) fun a12 μ13 =>
    nm (w64 (x2 + a12)) fun a14 =>
    nm (w32 (x4 + 1)) fun a15 =>
    f_X8_use_b5 N n x0 x1 a14 a15 μ13
def f_X8_use (N : Nat) (x0 x1 : Int) (μ : Mm) : Rs :=
  f_X8_use_b5 N N x0 x1 0 0 μ
set_option maxHeartbeats 4000000 in
set_option maxRecDepth 100000 in
theorem k_X8_use_b5 (C : gCx p s m args meth c cX8_use 5 (some .long) "use" RX8) (N : Nat) {r : Int} {μ' : Mm} : ∀ (n : Nat), ∀ (x0 x1 x2 x4 : Int) (μ : Mm), f_X8_use_b5 N n x0 x1 x2 x4 μ = some (r, μ') → R32 x1 → R64 x2 → R32 x4 → ∀ (H : Heap) (locs : List Loc) (ls : Array Slot), MS E μ s H locs → lv_has ls 5 [(0, vr E x0), (1, vi x1), (2, vl x2), (4, vi x4)] → W p l e ({ frames := 4, cells := 0, slots := 0, locals := 93 } : Room) s m args below meth c H locs 0 0 (MQ below (gQ E (some (vl r)) (R64 r) μ') args s 0 0 (gA E)) (F0 m 5 ls []) := by
  intro n
  induction n with
  | zero => intro x0 x1 x2 x4 μ h; simp [f_X8_use_b5] at h
  | succ n ih =>
    intro x0 x1 x2 x4 μ h rx1 rx2 rx4 H locs ls hM hl
    rw [f_X8_use_b5] at h
    refine m_iload (pc := 5) C dX8_use_5 (lv_at hl 3 rfl) ?_
    refine m_i2l (pc := 7) C rx4 dX8_use_7 ?_
    refine m_aload_n (pc := 8) C dX8_use_8 rfl (lv_at hl 0 rfl) ?_
    obtain ⟨q1, h⟩ := ck_some h
    refine G_X8_now (pc := 9) C hM bw_4_227 q1 dX8_use_9 ?_
    refine m_iconst (pc := 12) C dX8_use_12 ?_
    obtain ⟨q2, h⟩ := ck_some h
    have gq2 := Ar_lald hM q2.1 q2.2.1 q2.2.2
    refine m_lald (pc := 13) C hM q2.1 q2.2.1 q2.2.2 dX8_use_13 ?_
    refine m_lcmp_ge (tgt := 53) (pc := 14) C (R32.to64 rx4) gq2 dX8_use_14 dX8_use_15 (by decide) (fun c3 => ?_) (fun c3 => ?_)
    · have h := if_t h c3
      refine m_lload_n (pc := 53) C dX8_use_53 rfl (lv_at hl 2 rfl) ?_
      cases h
      exact m_lret (pc := 54) C hM rx2 dX8_use_54
    · have h := if_f h c3
      refine m_lload_n (pc := 18) C dX8_use_18 rfl (lv_at hl 2 rfl) ?_
      refine m_aload_n (pc := 19) C dX8_use_19 rfl (lv_at hl 0 rfl) ?_
      obtain ⟨q4, h⟩ := ck_some h
      refine G_X8_now (pc := 20) C hM bw_4_227 q4 dX8_use_20 ?_
      refine m_iload (pc := 23) C dX8_use_23 (lv_at hl 3 rfl) ?_
      obtain ⟨a5, μ6, ca5, h⟩ := bd_some h
      refine V_X8_lotAt (pc := 25) C hM ca5 rx4 bw_5_87 ⟨Nat.le_of_ble_eq_true rfl, Nat.le_of_ble_eq_true rfl⟩ hl.1 (rcR (rcL rc0)) ⟨Nat.le_refl _, Nat.le_refl _⟩ dX8_use_25 (fun ra5 H locs hM => ?_)
      obtain ⟨q7, h⟩ := ck_some h
      have gq7 := Ar_lald hM q7.1 q7.2.1 q7.2.2
      refine m_lald (pc := 28) C hM q7.1 q7.2.1 q7.2.2 dX8_use_28 ?_
      refine m_iload_n (pc := 29) C dX8_use_29 rfl (lv_at hl 1 rfl) ?_
      refine m_i2l (pc := 30) C rx1 dX8_use_30 ?_
      refine m_lcmp_ne (tgt := 44) (pc := 31) C gq7 (R32.to64 rx1) dX8_use_31 dX8_use_32 (by decide) (fun c8 => ?_) (fun c8 => ?_)
      · have h := if_t h c8
        refine m_lconst (v := 0) (pc := 44) C dX8_use_44 rfl ?_
        obtain ⟨a9, ea9, h⟩ := nm_some h
        have ra9 : R64 a9 := by rw [ea9]; exact w64_R _
        refine m_ladd (pc := 45) C dX8_use_45 ea9 ?_
        refine m_lstore_n (pc := 46) C dX8_use_46 rfl hl (by decide) (lvK1 0 rfl (Nat.ne_of_beq_eq_false rfl) (Nat.ne_of_beq_eq_false rfl) (lvK2 1 rfl (Nat.ne_of_beq_eq_false rfl) rfl (lvK1 3 rfl (Nat.ne_of_beq_eq_false rfl) (Nat.ne_of_beq_eq_false rfl) lvK0))) (lvN1 (Nat.ne_of_beq_eq_false rfl) (lvN1 (Nat.ne_of_beq_eq_false rfl) (lvN1 (Nat.ne_of_beq_eq_false rfl) lvN0))) (fun ls hl => ?_)
        obtain ⟨a10, ea10, h⟩ := nm_some h
        have ra10 : R32 a10 := by rw [ea10]; exact w32_R _
        refine m_iinc (k := 3) (pc := 47) C dX8_use_47 hl rfl (by decide) ea10 (lvK1 0 rfl (Nat.ne_of_beq_eq_false rfl) (Nat.ne_of_beq_eq_false rfl) (lvK1 1 rfl (Nat.ne_of_beq_eq_false rfl) (Nat.ne_of_beq_eq_false rfl) (lvK1 2 rfl (Nat.ne_of_beq_eq_false rfl) (Nat.ne_of_beq_eq_false rfl) lvK0))) (fun ls hl => ?_)
        refine m_goto (tgt := 5) (pc := 50) C dX8_use_50 (by decide) ?_
        exact ih _ _ _ _ _ h rx1 ra9 ra10 _ _ _ hM (lv_sub hl [2, 3, 1, 0] rfl)
      · have h := if_f h c8
        refine m_aload_n (pc := 35) C dX8_use_35 rfl (lv_at hl 0 rfl) ?_
        refine m_iload (pc := 36) C dX8_use_36 (lv_at hl 3 rfl) ?_
        obtain ⟨q11, h⟩ := ck_some h
        obtain ⟨a12, μ13, ca12, h⟩ := bd_some h
        refine V_X8_suspended (pc := 38) C hM ca12 rx4 q11 bw_5_90 ⟨Nat.le_of_ble_eq_true rfl, Nat.le_of_ble_eq_true rfl⟩ hl.1 (rcL rc0) ⟨Nat.le_refl _, Nat.le_refl _⟩ dX8_use_38 (fun ra12 H locs hM => ?_)
        refine m_goto (tgt := 45) (pc := 41) C dX8_use_41 (by decide) ?_
        obtain ⟨a14, ea14, h⟩ := nm_some h
        have ra14 : R64 a14 := by rw [ea14]; exact w64_R _
        refine m_ladd (pc := 45) C dX8_use_45 ea14 ?_
        refine m_lstore_n (pc := 46) C dX8_use_46 rfl hl (by decide) (lvK1 0 rfl (Nat.ne_of_beq_eq_false rfl) (Nat.ne_of_beq_eq_false rfl) (lvK2 1 rfl (Nat.ne_of_beq_eq_false rfl) rfl (lvK1 3 rfl (Nat.ne_of_beq_eq_false rfl) (Nat.ne_of_beq_eq_false rfl) lvK0))) (lvN1 (Nat.ne_of_beq_eq_false rfl) (lvN1 (Nat.ne_of_beq_eq_false rfl) (lvN1 (Nat.ne_of_beq_eq_false rfl) lvN0))) (fun ls hl => ?_)
        obtain ⟨a15, ea15, h⟩ := nm_some h
        have ra15 : R32 a15 := by rw [ea15]; exact w32_R _
        refine m_iinc (k := 3) (pc := 47) C dX8_use_47 hl rfl (by decide) ea15 (lvK1 0 rfl (Nat.ne_of_beq_eq_false rfl) (Nat.ne_of_beq_eq_false rfl) (lvK1 1 rfl (Nat.ne_of_beq_eq_false rfl) (Nat.ne_of_beq_eq_false rfl) (lvK1 2 rfl (Nat.ne_of_beq_eq_false rfl) (Nat.ne_of_beq_eq_false rfl) lvK0))) (fun ls hl => ?_)
        refine m_goto (tgt := 5) (pc := 50) C dX8_use_50 (by decide) ?_
        exact ih _ _ _ _ _ h rx1 ra14 ra15 _ _ _ hM (lv_sub hl [2, 3, 1, 0] rfl)
set_option maxHeartbeats 4000000 in
set_option maxRecDepth 100000 in
theorem c_X8_use (l : Launch) (E : gE) (N : Nat) (x0 x1 : Int) (μ μ' : Mm) (r : Int) (h : f_X8_use N x0 x1 μ = some (r, μ')) (rx1 : R32 x1) : gMet l E yX8_use cX8_use 5 (some .long) 4 93 [vr E x0, vi x1] (some (vl r)) (R64 r) μ μ' 0 0 := by
  refine g_ofW [1, 1] (by first | (simp only [List.map_cons, List.map_nil, vr_cat]; done) | (simp only [List.map_cons, List.map_nil, vr_cat]; rfl)) (by decide) (by decide) (fun p e s m below meth c ls C hM hl => ?_)
  replace C : gCx p s m _ meth c cX8_use 5 (some .long) "use" RX8 := C
  replace hl : lv_has ls 5 [(0, vr E x0), (1, vi x1)] := hl
  unfold f_X8_use at h
  refine m_lconst (v := 0) (pc := 0) C dX8_use_0 rfl ?_
  refine m_lstore_n (pc := 1) C dX8_use_1 rfl hl (by decide) (lvK1 0 rfl (Nat.ne_of_beq_eq_false rfl) (Nat.ne_of_beq_eq_false rfl) (lvK2 1 rfl (Nat.ne_of_beq_eq_false rfl) rfl lvK0)) (lvN1 (Nat.ne_of_beq_eq_false rfl) (lvN1 (Nat.ne_of_beq_eq_false rfl) lvN0)) (fun ls hl => ?_)
  refine m_iconst (pc := 2) C dX8_use_2 ?_
  refine m_istore (pc := 3) C dX8_use_3 hl (by decide) (lvK1 0 rfl (Nat.ne_of_beq_eq_false rfl) (Nat.ne_of_beq_eq_false rfl) (lvK1 1 rfl (Nat.ne_of_beq_eq_false rfl) (Nat.ne_of_beq_eq_false rfl) (lvK1 2 rfl (Nat.ne_of_beq_eq_false rfl) (Nat.ne_of_beq_eq_false rfl) lvK0))) (fun ls hl => ?_)
  exact k_X8_use_b5 C N N _ _ _ _ _ h rx1 rl_0 rk_0 _ _ _ hM (lv_sub hl [2, 3, 1, 0] rfl)
theorem hd_X8_use : yX8_use.cls ≠ "java/lang/invoke/MethodHandle" ∧ yX8_use.cls ≠ "java/lang/invoke/VarHandle" ∧ (parseMethodDescriptor yX8_use.desc).map (fun d => d.parameters.length) = some 1 := by decide +kernel

theorem V_X8_use {p : Program} {l : Launch} {e : Env} {R : Room} {s : State} {m : MethodId} {args : Array Value} {below : List Frame} {meth : Method} {c : Code} {H : Heap} {locs : List Loc} {cells slots : Nat} {Q : State → Prop} {cc : ByteArray} {pc nL : Nat} {ls : Array Slot} {rest : List Value} {ret : Option FieldType} {nmm own : String} {E : gE} {μ μ1 : Mm} {index : Nat} (C : gCx p s m args meth c cc nL ret nmm own) (hM : MS E μ s H locs) {N : Nat} {x0 x1 v : Int} (hc : f_X8_use N x0 x1 μ = some (v, μ1)) (rx1 : R32 x1) (hck : μ x0 (-2) = 10) (h1 : Cond.methodLink own index yX8_use ∈ bigL) (hR : 5 ≤ R.frames ∧ 117 ≤ R.locals) (hl : ls.size = nL) (hcat : RC rest 8) (hf : cells + 0 ≤ R.cells ∧ slots + 0 ≤ R.slots) (hdg : decode cc pc = .ok (.invokevirtual index, 3)) (kk : (R64 v) → ∀ (H1 : Heap) (locs1 : List Loc), MS E μ1 s H1 locs1 → W p l e R s m args below meth c H1 locs1 (cells + 0) (slots + 0) Q (F0 m (pc + 3) ls (vl v :: rest))) : W p l e R s m args below meth c H locs cells slots Q (F0 m pc ls (vi x1 :: vr E x0 :: rest)) := g_callV C KF_X8 hM (c_X8_use l E N x0 x1 μ μ1 v hc rx1) hck (gV h1 bw_5_85 bs_23 bw_1_13 bw_5_86) ⟨rfl, hd_X8_use⟩ hR rfl hl rfl hcat hf hdg kk
/-! X8_isCovered -/
def f_X8_isCovered (N : Nat) (x0 x1 x3 : Int) (μ : Mm) : Rs :=
  ck (μ x0 (-2) = 10) <|
  ck (μ (μ x0 0) (-2) = 24 ∧ (0 : Int) ≤ 7 ∧ 7 < μ (μ x0 0) (-1)) <|
  nm (w64 (x1 * (μ (μ x0 0) 7))) fun a3 =>
  nm (w64 (Int.tdiv a3 100)) fun a4 =>
  if x3 < a4 then
    (some (0, μ))
  else
  some (1, μ)
set_option maxHeartbeats 4000000 in
set_option maxRecDepth 100000 in
theorem c_X8_isCovered (l : Launch) (E : gE) (N : Nat) (x0 x1 x3 : Int) (μ μ' : Mm) (r : Int) (h : f_X8_isCovered N x0 x1 x3 μ = some (r, μ')) (rx1 : R64 x1) (rx3 : R64 x3) : gMet l E yX8_isCovered cX8_isCovered 5 (some .boolean) 0 0 [vr E x0, vl x1, vl x3] (some (vi r)) (R32 r) μ μ' 0 0 := by
  refine g_ofW [1, 2, 2] (by first | (simp only [List.map_cons, List.map_nil, vr_cat]; done) | (simp only [List.map_cons, List.map_nil, vr_cat]; rfl)) (by decide) (by decide) (fun p e s m below meth c ls C hM hl => ?_)
  replace C : gCx p s m _ meth c cX8_isCovered 5 (some .boolean) "isCovered" RX8 := C
  replace hl : lv_has ls 5 [(0, vr E x0), (1, vl x1), (3, vl x3)] := hl
  unfold f_X8_isCovered at h
  refine m_lload_n (pc := 0) C dX8_isCovered_0 rfl (lv_at hl 1 rfl) ?_
  refine m_aload_n (pc := 1) C dX8_isCovered_1 rfl (lv_at hl 0 rfl) ?_
  obtain ⟨q1, h⟩ := ck_some h
  refine G_X8_now (pc := 2) C hM bw_4_227 q1 dX8_isCovered_2 ?_
  refine m_bipush (pc := 5) C dX8_isCovered_5 rfl ?_
  obtain ⟨q2, h⟩ := ck_some h
  have gq2 := Ar_lald hM q2.1 q2.2.1 q2.2.2
  refine m_lald (pc := 7) C hM q2.1 q2.2.1 q2.2.2 dX8_isCovered_7 ?_
  obtain ⟨a3, ea3, h⟩ := nm_some h
  have ra3 : R64 a3 := by rw [ea3]; exact w64_R _
  refine m_lmul (pc := 8) C dX8_isCovered_8 ea3 ?_
  refine m_ldc2 (n := 100) (pc := 9) C bw_4_223 rfl dX8_isCovered_9 ?_
  obtain ⟨a4, ea4, h⟩ := nm_some h
  have ra4 : R64 a4 := by rw [ea4]; exact w64_R _
  refine m_ldiv (pc := 12) C ra3 rl_100 (by decide) dX8_isCovered_12 ea4 ?_
  refine m_lload_n (pc := 13) C dX8_isCovered_13 rfl (lv_at hl 2 rfl) ?_
  refine m_lcmp_gt (tgt := 22) (pc := 14) C ra4 rx3 dX8_isCovered_14 dX8_isCovered_15 (by decide) (fun c6 => ?_) (fun c6 => ?_)
  · have h := if_t h c6
    refine m_iconst (pc := 22) C dX8_isCovered_22 ?_
    cases h
    exact m_zret (pc := 23) C rfl hM rk_0 dX8_isCovered_23
  · have h := if_f h c6
    refine m_iconst (pc := 18) C dX8_isCovered_18 ?_
    refine m_goto (tgt := 23) (pc := 19) C dX8_isCovered_19 (by decide) ?_
    cases h
    exact m_zret (pc := 23) C rfl hM rk_1 dX8_isCovered_23
theorem hd_X8_isCovered : yX8_isCovered.cls ≠ "java/lang/invoke/MethodHandle" ∧ yX8_isCovered.cls ≠ "java/lang/invoke/VarHandle" ∧ (parseMethodDescriptor yX8_isCovered.desc).map (fun d => d.parameters.length) = some 2 := by decide +kernel

theorem V_X8_isCovered {p : Program} {l : Launch} {e : Env} {R : Room} {s : State} {m : MethodId} {args : Array Value} {below : List Frame} {meth : Method} {c : Code} {H : Heap} {locs : List Loc} {cells slots : Nat} {Q : State → Prop} {cc : ByteArray} {pc nL : Nat} {ls : Array Slot} {rest : List Value} {ret : Option FieldType} {nmm own : String} {E : gE} {μ μ1 : Mm} {index : Nat} (C : gCx p s m args meth c cc nL ret nmm own) (hM : MS E μ s H locs) {N : Nat} {x0 x1 x3 v : Int} (hc : f_X8_isCovered N x0 x1 x3 μ = some (v, μ1)) (rx1 : R64 x1) (rx3 : R64 x3) (hck : μ x0 (-2) = 10) (h1 : Cond.methodLink own index yX8_isCovered ∈ bigL) (hR : 1 ≤ R.frames ∧ 24 ≤ R.locals) (hl : ls.size = nL) (hcat : RC rest 8) (hf : cells + 0 ≤ R.cells ∧ slots + 0 ≤ R.slots) (hdg : decode cc pc = .ok (.invokevirtual index, 3)) (kk : (R32 v) → ∀ (H1 : Heap) (locs1 : List Loc), MS E μ1 s H1 locs1 → W p l e R s m args below meth c H1 locs1 (cells + 0) (slots + 0) Q (F0 m (pc + 3) ls (vi v :: rest))) : W p l e R s m args below meth c H locs cells slots Q (F0 m pc ls (vl x3 :: vl x1 :: vr E x0 :: rest)) := g_callV C KF_X8 hM (c_X8_isCovered l E N x0 x1 x3 μ μ1 v hc rx1 rx3) hck (gV h1 bw_5_119 bs_30 bw_1_13 bw_5_120) ⟨rfl, hd_X8_isCovered⟩ hR rfl hl rfl hcat hf hdg kk
/-! X8_take -/
def f_X8_take (N : Nat) (x0 x1 x2 : Int) (μ : Mm) : Rs :=
  ck (μ x0 (-2) = 10) <|
  bd (f_X8_lotAt N x1 μ) fun a2 μ3 =>
  nm (w32 (a2 + 7)) fun a4 =>
  ck (μ3 (μ x0 0) (-2) = 24 ∧ (0 : Int) ≤ a4 ∧ a4 < μ3 (μ x0 0) (-1)) <|
  nm (w64 ((μ3 (μ x0 0) a4) + x2)) fun a6 =>
  ck (μ3 (μ x0 0) (-2) = 24 ∧ (0 : Int) ≤ a4 ∧ a4 < μ3 (μ x0 0) (-1)) <|
  nm (mset μ3 (μ x0 0) a4 a6) fun μ8 =>
  some (0, μ8)
set_option maxHeartbeats 4000000 in
set_option maxRecDepth 100000 in
theorem c_X8_take (l : Launch) (E : gE) (N : Nat) (x0 x1 x2 : Int) (μ μ' : Mm) (r : Int) (h : f_X8_take N x0 x1 x2 μ = some (r, μ')) (rx1 : R32 x1) (rx2 : R64 x2) : gMet l E yX8_take cX8_take 4 none 1 20 [vr E x0, vi x1, vl x2] none True μ μ' 0 0 := by
  refine g_ofW [1, 1, 2] (by first | (simp only [List.map_cons, List.map_nil, vr_cat]; done) | (simp only [List.map_cons, List.map_nil, vr_cat]; rfl)) (by decide) (by decide) (fun p e s m below meth c ls C hM hl => ?_)
  replace C : gCx p s m _ meth c cX8_take 4 none "take" RX8 := C
  replace hl : lv_has ls 4 [(0, vr E x0), (1, vi x1), (2, vl x2)] := hl
  unfold f_X8_take at h
  refine m_aload_n (pc := 0) C dX8_take_0 rfl (lv_at hl 0 rfl) ?_
  obtain ⟨q1, h⟩ := ck_some h
  refine G_X8_now (pc := 1) C hM bw_4_227 q1 dX8_take_1 ?_
  refine m_iload_n (pc := 4) C dX8_take_4 rfl (lv_at hl 1 rfl) ?_
  obtain ⟨a2, μ3, ca2, h⟩ := bd_some h
  refine V_X8_lotAt (pc := 5) C hM ca2 rx1 bw_5_87 ⟨Nat.le_of_ble_eq_true rfl, Nat.le_of_ble_eq_true rfl⟩ hl.1 (rcR rc0) ⟨Nat.le_refl _, Nat.le_refl _⟩ dX8_take_5 (fun ra2 H locs hM => ?_)
  refine m_bipush (pc := 8) C dX8_take_8 rfl ?_
  obtain ⟨a4, ea4, h⟩ := nm_some h
  have ra4 : R32 a4 := by rw [ea4]; exact w32_R _
  refine m_iadd (pc := 10) C dX8_take_10 ea4 ?_
  refine m_dup2 (pc := 11) C rfl (vr_cat _ _) dX8_take_11 ?_
  obtain ⟨q5, h⟩ := ck_some h
  have gq5 := Ar_lald hM q5.1 q5.2.1 q5.2.2
  refine m_lald (pc := 12) C hM q5.1 q5.2.1 q5.2.2 dX8_take_12 ?_
  refine m_lload_n (pc := 13) C dX8_take_13 rfl (lv_at hl 2 rfl) ?_
  obtain ⟨a6, ea6, h⟩ := nm_some h
  have ra6 : R64 a6 := by rw [ea6]; exact w64_R _
  refine m_ladd (pc := 14) C dX8_take_14 ea6 ?_
  obtain ⟨q7, h⟩ := ck_some h
  obtain ⟨μ8, eμ8, h⟩ := nm_some h
  refine m_last (pc := 15) C hM q7.1 q7.2.1  q7.2.2 ra6 eμ8 dX8_take_15 (fun H locs hM => ?_)
  cases h
  exact m_vret (pc := 16) C hM trivial dX8_take_16
theorem hd_X8_take : yX8_take.cls ≠ "java/lang/invoke/MethodHandle" ∧ yX8_take.cls ≠ "java/lang/invoke/VarHandle" ∧ (parseMethodDescriptor yX8_take.desc).map (fun d => d.parameters.length) = some 2 := by decide +kernel

theorem V_X8_take {p : Program} {l : Launch} {e : Env} {R : Room} {s : State} {m : MethodId} {args : Array Value} {below : List Frame} {meth : Method} {c : Code} {H : Heap} {locs : List Loc} {cells slots : Nat} {Q : State → Prop} {cc : ByteArray} {pc nL : Nat} {ls : Array Slot} {rest : List Value} {ret : Option FieldType} {nmm own : String} {E : gE} {μ μ1 : Mm} {index : Nat} (C : gCx p s m args meth c cc nL ret nmm own) (hM : MS E μ s H locs) {N : Nat} {x0 x1 x2 v : Int} (hc : f_X8_take N x0 x1 x2 μ = some (v, μ1)) (rx1 : R32 x1) (rx2 : R64 x2) (hck : μ x0 (-2) = 10) (h1 : Cond.methodLink own index yX8_take ∈ bigL) (hR : 2 ≤ R.frames ∧ 43 ≤ R.locals) (hl : ls.size = nL) (hcat : RC rest 8) (hf : cells + 0 ≤ R.cells ∧ slots + 0 ≤ R.slots) (hdg : decode cc pc = .ok (.invokevirtual index, 3)) (kk : True → ∀ (H1 : Heap) (locs1 : List Loc), MS E μ1 s H1 locs1 → W p l e R s m args below meth c H1 locs1 (cells + 0) (slots + 0) Q (F0 m (pc + 3) ls rest)) : W p l e R s m args below meth c H locs cells slots Q (F0 m pc ls (vl x2 :: vi x1 :: vr E x0 :: rest)) := g_callV C KF_X8 hM (c_X8_take l E N x0 x1 x2 μ μ1 v hc rx1 rx2) hck (gV h1 bw_5_185 bs_39 bw_1_13 bw_5_186) ⟨rfl, hd_X8_take⟩ hR rfl hl rfl hcat hf hdg kk
/-! X8_pay -/
def f_X8_pay (N : Nat) (x0 x1 x2 : Int) (μ : Mm) : Rs :=
  ck (μ x0 (-2) = 10) <|
  ck (μ x0 (-2) = 10) <|
  bd (f_X8_lotAt N x1 μ) fun a3 μ4 =>
  ck (μ4 (μ x0 0) (-2) = 24 ∧ (0 : Int) ≤ a3 ∧ a3 < μ4 (μ x0 0) (-1)) <|
  nm (w32 (μ4 (μ x0 0) a3)) fun a6 =>
  bd (f_X8_ownerAt N a6 μ4) fun a7 μ8 =>
  ck (μ8 (μ x0 0) (-2) = 24 ∧ (0 : Int) ≤ a7 ∧ a7 < μ8 (μ x0 0) (-1)) <|
  nm (w64 ((μ8 (μ x0 0) a7) - x2)) fun a10 =>
  ck (μ8 (μ x0 0) (-2) = 24 ∧ (0 : Int) ≤ a7 ∧ a7 < μ8 (μ x0 0) (-1)) <|
  nm (mset μ8 (μ x0 0) a7 a10) fun μ12 =>
  ck (μ12 x0 (-2) = 10) <|
  bd (f_X8_lotAt N x1 μ12) fun a14 μ15 =>
  nm (w32 (a14 + 8)) fun a16 =>
  ck (μ15 (μ12 x0 0) (-2) = 24 ∧ (0 : Int) ≤ a16 ∧ a16 < μ15 (μ12 x0 0) (-1)) <|
  nm (w64 ((μ15 (μ12 x0 0) a16) + x2)) fun a18 =>
  ck (μ15 (μ12 x0 0) (-2) = 24 ∧ (0 : Int) ≤ a16 ∧ a16 < μ15 (μ12 x0 0) (-1)) <|
  nm (mset μ15 (μ12 x0 0) a16 a18) fun μ20 =>
  some (0, μ20)
set_option maxHeartbeats 4000000 in
set_option maxRecDepth 100000 in
theorem c_X8_pay (l : Launch) (E : gE) (N : Nat) (x0 x1 x2 : Int) (μ μ' : Mm) (r : Int) (h : f_X8_pay N x0 x1 x2 μ = some (r, μ')) (rx1 : R32 x1) (rx2 : R64 x2) : gMet l E yX8_pay cX8_pay 4 none 1 20 [vr E x0, vi x1, vl x2] none True μ μ' 0 0 := by
  refine g_ofW [1, 1, 2] (by first | (simp only [List.map_cons, List.map_nil, vr_cat]; done) | (simp only [List.map_cons, List.map_nil, vr_cat]; rfl)) (by decide) (by decide) (fun p e s m below meth c ls C hM hl => ?_)
  replace C : gCx p s m _ meth c cX8_pay 4 none "pay" RX8 := C
  replace hl : lv_has ls 4 [(0, vr E x0), (1, vi x1), (2, vl x2)] := hl
  unfold f_X8_pay at h
  refine m_aload_n (pc := 0) C dX8_pay_0 rfl (lv_at hl 0 rfl) ?_
  obtain ⟨q1, h⟩ := ck_some h
  refine G_X8_now (pc := 1) C hM bw_4_227 q1 dX8_pay_1 ?_
  refine m_aload_n (pc := 4) C dX8_pay_4 rfl (lv_at hl 0 rfl) ?_
  obtain ⟨q2, h⟩ := ck_some h
  refine G_X8_now (pc := 5) C hM bw_4_227 q2 dX8_pay_5 ?_
  refine m_iload_n (pc := 8) C dX8_pay_8 rfl (lv_at hl 1 rfl) ?_
  obtain ⟨a3, μ4, ca3, h⟩ := bd_some h
  refine V_X8_lotAt (pc := 9) C hM ca3 rx1 bw_5_87 ⟨Nat.le_of_ble_eq_true rfl, Nat.le_of_ble_eq_true rfl⟩ hl.1 (rcR (rcR rc0)) ⟨Nat.le_refl _, Nat.le_refl _⟩ dX8_pay_9 (fun ra3 H locs hM => ?_)
  obtain ⟨q5, h⟩ := ck_some h
  have gq5 := Ar_lald hM q5.1 q5.2.1 q5.2.2
  refine m_lald (pc := 12) C hM q5.1 q5.2.1 q5.2.2 dX8_pay_12 ?_
  obtain ⟨a6, ea6, h⟩ := nm_some h
  have ra6 : R32 a6 := by rw [ea6]; exact w32_R _
  refine m_l2i (pc := 13) C dX8_pay_13 ea6 ?_
  obtain ⟨a7, μ8, ca7, h⟩ := bd_some h
  refine V_X8_ownerAt (pc := 14) C hM ca7 ra6 bw_5_65 ⟨Nat.le_of_ble_eq_true rfl, Nat.le_of_ble_eq_true rfl⟩ hl.1 (rcR rc0) ⟨Nat.le_refl _, Nat.le_refl _⟩ dX8_pay_14 (fun ra7 H locs hM => ?_)
  refine m_dup2 (pc := 17) C rfl (vr_cat _ _) dX8_pay_17 ?_
  obtain ⟨q9, h⟩ := ck_some h
  have gq9 := Ar_lald hM q9.1 q9.2.1 q9.2.2
  refine m_lald (pc := 18) C hM q9.1 q9.2.1 q9.2.2 dX8_pay_18 ?_
  refine m_lload_n (pc := 19) C dX8_pay_19 rfl (lv_at hl 2 rfl) ?_
  obtain ⟨a10, ea10, h⟩ := nm_some h
  have ra10 : R64 a10 := by rw [ea10]; exact w64_R _
  refine m_lsub (pc := 20) C dX8_pay_20 ea10 ?_
  obtain ⟨q11, h⟩ := ck_some h
  obtain ⟨μ12, eμ12, h⟩ := nm_some h
  refine m_last (pc := 21) C hM q11.1 q11.2.1  q11.2.2 ra10 eμ12 dX8_pay_21 (fun H locs hM => ?_)
  refine m_aload_n (pc := 22) C dX8_pay_22 rfl (lv_at hl 0 rfl) ?_
  obtain ⟨q13, h⟩ := ck_some h
  refine G_X8_now (pc := 23) C hM bw_4_227 q13 dX8_pay_23 ?_
  refine m_iload_n (pc := 26) C dX8_pay_26 rfl (lv_at hl 1 rfl) ?_
  obtain ⟨a14, μ15, ca14, h⟩ := bd_some h
  refine V_X8_lotAt (pc := 27) C hM ca14 rx1 bw_5_87 ⟨Nat.le_of_ble_eq_true rfl, Nat.le_of_ble_eq_true rfl⟩ hl.1 (rcR rc0) ⟨Nat.le_refl _, Nat.le_refl _⟩ dX8_pay_27 (fun ra14 H locs hM => ?_)
  refine m_bipush (pc := 30) C dX8_pay_30 rfl ?_
  obtain ⟨a16, ea16, h⟩ := nm_some h
  have ra16 : R32 a16 := by rw [ea16]; exact w32_R _
  refine m_iadd (pc := 32) C dX8_pay_32 ea16 ?_
  refine m_dup2 (pc := 33) C rfl (vr_cat _ _) dX8_pay_33 ?_
  obtain ⟨q17, h⟩ := ck_some h
  have gq17 := Ar_lald hM q17.1 q17.2.1 q17.2.2
  refine m_lald (pc := 34) C hM q17.1 q17.2.1 q17.2.2 dX8_pay_34 ?_
  refine m_lload_n (pc := 35) C dX8_pay_35 rfl (lv_at hl 2 rfl) ?_
  obtain ⟨a18, ea18, h⟩ := nm_some h
  have ra18 : R64 a18 := by rw [ea18]; exact w64_R _
  refine m_ladd (pc := 36) C dX8_pay_36 ea18 ?_
  obtain ⟨q19, h⟩ := ck_some h
  obtain ⟨μ20, eμ20, h⟩ := nm_some h
  refine m_last (pc := 37) C hM q19.1 q19.2.1  q19.2.2 ra18 eμ20 dX8_pay_37 (fun H locs hM => ?_)
  cases h
  exact m_vret (pc := 38) C hM trivial dX8_pay_38
theorem hd_X8_pay : yX8_pay.cls ≠ "java/lang/invoke/MethodHandle" ∧ yX8_pay.cls ≠ "java/lang/invoke/VarHandle" ∧ (parseMethodDescriptor yX8_pay.desc).map (fun d => d.parameters.length) = some 2 := by decide +kernel

theorem V_X8_pay {p : Program} {l : Launch} {e : Env} {R : Room} {s : State} {m : MethodId} {args : Array Value} {below : List Frame} {meth : Method} {c : Code} {H : Heap} {locs : List Loc} {cells slots : Nat} {Q : State → Prop} {cc : ByteArray} {pc nL : Nat} {ls : Array Slot} {rest : List Value} {ret : Option FieldType} {nmm own : String} {E : gE} {μ μ1 : Mm} {index : Nat} (C : gCx p s m args meth c cc nL ret nmm own) (hM : MS E μ s H locs) {N : Nat} {x0 x1 x2 v : Int} (hc : f_X8_pay N x0 x1 x2 μ = some (v, μ1)) (rx1 : R32 x1) (rx2 : R64 x2) (hck : μ x0 (-2) = 10) (h1 : Cond.methodLink own index yX8_pay ∈ bigL) (hR : 2 ≤ R.frames ∧ 43 ≤ R.locals) (hl : ls.size = nL) (hcat : RC rest 8) (hf : cells + 0 ≤ R.cells ∧ slots + 0 ≤ R.slots) (hdg : decode cc pc = .ok (.invokevirtual index, 3)) (kk : True → ∀ (H1 : Heap) (locs1 : List Loc), MS E μ1 s H1 locs1 → W p l e R s m args below meth c H1 locs1 (cells + 0) (slots + 0) Q (F0 m (pc + 3) ls rest)) : W p l e R s m args below meth c H locs cells slots Q (F0 m pc ls (vl x2 :: vi x1 :: vr E x0 :: rest)) := g_callV C KF_X8 hM (c_X8_pay l E N x0 x1 x2 μ μ1 v hc rx1 rx2) hck (gV h1 bw_5_189 bs_40 bw_1_13 bw_5_190) ⟨rfl, hd_X8_pay⟩ hR rfl hl rfl hcat hf hdg kk
/-! X8_addOwner -/
def f_X8_addOwner_b28 (N : Nat) : Nat → Int → Int → Int → Mm → Rs
  | 0, _, _, _, _ => none
  | n + 1, x0, x1, x2, μ =>
    if 4 ≤ x2 then
      (ck (μ x0 (-2) = 10) <|
       ck (μ (μ x0 0) (-2) = 24 ∧ (0 : Int) ≤ 1 ∧ 1 < μ (μ x0 0) (-1)) <|
       nm (w64 ((μ (μ x0 0) 1) + 1)) fun a4 =>
       ck (μ (μ x0 0) (-2) = 24 ∧ (0 : Int) ≤ 1 ∧ 1 < μ (μ x0 0) (-1)) <|
       nm (mset μ (μ x0 0) 1 a4) fun μ6 =>
       some (x1, μ6))
    else
    ck (μ x0 (-2) = 10) <|
    bd (f_X8_ownerAt N x1 μ) fun a8 μ9 =>
    nm (w32 (a8 + x2)) fun a10 =>
    ck (μ9 (μ x0 0) (-2) = 24 ∧ (0 : Int) ≤ a10 ∧ a10 < μ9 (μ x0 0) (-1)) <|
    nm (mset μ9 (μ x0 0) a10 0) fun μ12 =>
    nm (w32 (x2 + 1)) fun a13 =>
    f_X8_addOwner_b28 N n x0 x1 a13 μ12
def f_X8_addOwner (N : Nat) (x0 : Int) (μ : Mm) : Rs :=
  ck (μ x0 (-2) = 10) <|
  ck (μ (μ x0 0) (-2) = 24 ∧ (0 : Int) ≤ 1 ∧ 1 < μ (μ x0 0) (-1)) <|
  if ¬ (μ (μ x0 0) 1) = 5 then
    (ck (μ x0 (-2) = 10) <|
     bd (f_X8_record N x0 μ) fun a5 μ6 =>
     ck (μ6 x0 (-2) = 10) <|
     bd (f_X8_number N x0 1 μ6) fun a8 μ9 =>
     f_X8_addOwner_b28 N N x0 a8 0 μ9)
  else
  some ((-100000004), μ)
set_option maxHeartbeats 4000000 in
set_option maxRecDepth 100000 in
theorem k_X8_addOwner_b28 (C : gCx p s m args meth c cX8_addOwner 3 (some .int) "addOwner" RX8) (N : Nat) {r : Int} {μ' : Mm} : ∀ (n : Nat), ∀ (x0 x1 x2 : Int) (μ : Mm), f_X8_addOwner_b28 N n x0 x1 x2 μ = some (r, μ') → R32 x1 → R32 x2 → ∀ (H : Heap) (locs : List Loc) (ls : Array Slot), MS E μ s H locs → lv_has ls 3 [(0, vr E x0), (1, vi x1), (2, vi x2)] → W p l e ({ frames := 1, cells := 0, slots := 0, locals := 21 } : Room) s m args below meth c H locs 0 0 (MQ below (gQ E (some (vi r)) (R32 r) μ') args s 0 0 (gA E)) (F0 m 28 ls []) := by
  intro n
  induction n with
  | zero => intro x0 x1 x2 μ h; simp [f_X8_addOwner_b28] at h
  | succ n ih =>
    intro x0 x1 x2 μ h rx1 rx2 H locs ls hM hl
    rw [f_X8_addOwner_b28] at h
    refine m_iload_n (pc := 28) C dX8_addOwner_28 rfl (lv_at hl 2 rfl) ?_
    refine m_iconst (pc := 29) C dX8_addOwner_29 ?_
    refine m_icmp_ge (tgt := 51) (pc := 30) C rx2 rk_4 dX8_addOwner_30 (by decide) (fun c1 => ?_) (fun c1 => ?_)
    · have h := if_t h c1
      refine m_aload_n (pc := 51) C dX8_addOwner_51 rfl (lv_at hl 0 rfl) ?_
      obtain ⟨q2, h⟩ := ck_some h
      refine G_X8_now (pc := 52) C hM bw_4_227 q2 dX8_addOwner_52 ?_
      refine m_iconst (pc := 55) C dX8_addOwner_55 ?_
      refine m_dup2 (pc := 56) C rfl (vr_cat _ _) dX8_addOwner_56 ?_
      obtain ⟨q3, h⟩ := ck_some h
      have gq3 := Ar_lald hM q3.1 q3.2.1 q3.2.2
      refine m_lald (pc := 57) C hM q3.1 q3.2.1 q3.2.2 dX8_addOwner_57 ?_
      refine m_lconst (v := 1) (pc := 58) C dX8_addOwner_58 rfl ?_
      obtain ⟨a4, ea4, h⟩ := nm_some h
      have ra4 : R64 a4 := by rw [ea4]; exact w64_R _
      refine m_ladd (pc := 59) C dX8_addOwner_59 ea4 ?_
      obtain ⟨q5, h⟩ := ck_some h
      obtain ⟨μ6, eμ6, h⟩ := nm_some h
      refine m_last (pc := 60) C hM q5.1 q5.2.1  q5.2.2 ra4 eμ6 dX8_addOwner_60 (fun H locs hM => ?_)
      refine m_iload_n (pc := 61) C dX8_addOwner_61 rfl (lv_at hl 1 rfl) ?_
      cases h
      exact m_iret (pc := 62) C hM rx1 dX8_addOwner_62
    · have h := if_f h c1
      refine m_aload_n (pc := 33) C dX8_addOwner_33 rfl (lv_at hl 0 rfl) ?_
      obtain ⟨q7, h⟩ := ck_some h
      refine G_X8_now (pc := 34) C hM bw_4_227 q7 dX8_addOwner_34 ?_
      refine m_iload_n (pc := 37) C dX8_addOwner_37 rfl (lv_at hl 1 rfl) ?_
      obtain ⟨a8, μ9, ca8, h⟩ := bd_some h
      refine V_X8_ownerAt (pc := 38) C hM ca8 rx1 bw_5_65 ⟨Nat.le_of_ble_eq_true rfl, Nat.le_of_ble_eq_true rfl⟩ hl.1 (rcR rc0) ⟨Nat.le_refl _, Nat.le_refl _⟩ dX8_addOwner_38 (fun ra8 H locs hM => ?_)
      refine m_iload_n (pc := 41) C dX8_addOwner_41 rfl (lv_at hl 2 rfl) ?_
      obtain ⟨a10, ea10, h⟩ := nm_some h
      have ra10 : R32 a10 := by rw [ea10]; exact w32_R _
      refine m_iadd (pc := 42) C dX8_addOwner_42 ea10 ?_
      refine m_lconst (v := 0) (pc := 43) C dX8_addOwner_43 rfl ?_
      obtain ⟨q11, h⟩ := ck_some h
      obtain ⟨μ12, eμ12, h⟩ := nm_some h
      refine m_last (pc := 44) C hM q11.1 q11.2.1  q11.2.2 rl_0 eμ12 dX8_addOwner_44 (fun H locs hM => ?_)
      obtain ⟨a13, ea13, h⟩ := nm_some h
      have ra13 : R32 a13 := by rw [ea13]; exact w32_R _
      refine m_iinc (k := 2) (pc := 45) C dX8_addOwner_45 hl rfl (by decide) ea13 (lvK1 0 rfl (Nat.ne_of_beq_eq_false rfl) (Nat.ne_of_beq_eq_false rfl) (lvK2 1 rfl (Nat.ne_of_beq_eq_false rfl) rfl lvK0)) (fun ls hl => ?_)
      refine m_goto (tgt := 28) (pc := 48) C dX8_addOwner_48 (by decide) ?_
      exact ih _ _ _ _ h rx1 ra13 _ _ _ hM (lv_sub hl [1, 2, 0] rfl)
set_option maxHeartbeats 4000000 in
set_option maxRecDepth 100000 in
theorem c_X8_addOwner (l : Launch) (E : gE) (N : Nat) (x0 : Int) (μ μ' : Mm) (r : Int) (h : f_X8_addOwner N x0 μ = some (r, μ')) : gMet l E yX8_addOwner cX8_addOwner 3 (some .int) 1 21 [vr E x0] (some (vi r)) (R32 r) μ μ' 0 0 := by
  refine g_ofW [1] (by first | (simp only [List.map_cons, List.map_nil, vr_cat]; done) | (simp only [List.map_cons, List.map_nil, vr_cat]; rfl)) (by decide) (by decide) (fun p e s m below meth c ls C hM hl => ?_)
  replace C : gCx p s m _ meth c cX8_addOwner 3 (some .int) "addOwner" RX8 := C
  replace hl : lv_has ls 3 [(0, vr E x0)] := hl
  unfold f_X8_addOwner at h
  refine m_aload_n (pc := 0) C dX8_addOwner_0 rfl (lv_at hl 0 rfl) ?_
  obtain ⟨q1, h⟩ := ck_some h
  refine G_X8_now (pc := 1) C hM bw_4_227 q1 dX8_addOwner_1 ?_
  refine m_iconst (pc := 4) C dX8_addOwner_4 ?_
  obtain ⟨q2, h⟩ := ck_some h
  have gq2 := Ar_lald hM q2.1 q2.2.1 q2.2.2
  refine m_lald (pc := 5) C hM q2.1 q2.2.1 q2.2.2 dX8_addOwner_5 ?_
  refine m_ldc2 (n := 5) (pc := 6) C bw_5_63 rfl dX8_addOwner_6 ?_
  refine m_lcmp_ne (tgt := 16) (pc := 9) C gq2 rl_5 dX8_addOwner_9 dX8_addOwner_10 (by decide) (fun c3 => ?_) (fun c3 => ?_)
  · have h := if_t h c3
    refine m_aload_n (pc := 16) C dX8_addOwner_16 rfl (lv_at hl 0 rfl) ?_
    obtain ⟨q4, h⟩ := ck_some h
    obtain ⟨a5, μ6, ca5, h⟩ := bd_some h
    refine V_X8_record (pc := 17) C hM ca5 q4 bw_5_55 ⟨Nat.le_of_ble_eq_true rfl, Nat.le_of_ble_eq_true rfl⟩ hl.1 rc0 ⟨Nat.le_refl _, Nat.le_refl _⟩ dX8_addOwner_17 (fun _ H locs hM => ?_)
    refine m_aload_n (pc := 20) C dX8_addOwner_20 rfl (lv_at hl 0 rfl) ?_
    refine m_iconst (pc := 21) C dX8_addOwner_21 ?_
    obtain ⟨q7, h⟩ := ck_some h
    obtain ⟨a8, μ9, ca8, h⟩ := bd_some h
    refine V_X8_number (pc := 22) C hM ca8 rk_1 q7 bw_5_47 ⟨Nat.le_of_ble_eq_true rfl, Nat.le_of_ble_eq_true rfl⟩ hl.1 rc0 ⟨Nat.le_refl _, Nat.le_refl _⟩ dX8_addOwner_22 (fun ra8 H locs hM => ?_)
    refine m_istore_n (pc := 25) C dX8_addOwner_25 rfl hl (by decide) (lvK2 0 rfl (Nat.ne_of_beq_eq_false rfl) (vr_cat _ _) lvK0) (fun ls hl => ?_)
    refine m_iconst (pc := 26) C dX8_addOwner_26 ?_
    refine m_istore_n (pc := 27) C dX8_addOwner_27 rfl hl (by decide) (lvK2 0 rfl (Nat.ne_of_beq_eq_false rfl) rfl (lvK1 1 rfl (Nat.ne_of_beq_eq_false rfl) (Nat.ne_of_beq_eq_false rfl) lvK0)) (fun ls hl => ?_)
    exact k_X8_addOwner_b28 C N N _ _ _ _ h ra8 rk_0 _ _ _ hM (lv_sub hl [2, 1, 0] rfl)
  · have h := if_f h c3
    refine m_ldc (n := -100000004) (pc := 13) C bw_5_64 rfl dX8_addOwner_13 ?_
    cases h
    exact m_iret (pc := 15) C hM rk_m100000004 dX8_addOwner_15
theorem hd_X8_addOwner : yX8_addOwner.cls ≠ "java/lang/invoke/MethodHandle" ∧ yX8_addOwner.cls ≠ "java/lang/invoke/VarHandle" ∧ (parseMethodDescriptor yX8_addOwner.desc).map (fun d => d.parameters.length) = some 0 := by decide +kernel

theorem V_X8_addOwner {p : Program} {l : Launch} {e : Env} {R : Room} {s : State} {m : MethodId} {args : Array Value} {below : List Frame} {meth : Method} {c : Code} {H : Heap} {locs : List Loc} {cells slots : Nat} {Q : State → Prop} {cc : ByteArray} {pc nL : Nat} {ls : Array Slot} {rest : List Value} {ret : Option FieldType} {nmm own : String} {E : gE} {μ μ1 : Mm} {index : Nat} (C : gCx p s m args meth c cc nL ret nmm own) (hM : MS E μ s H locs) {N : Nat} {x0 v : Int} (hc : f_X8_addOwner N x0 μ = some (v, μ1)) (hck : μ x0 (-2) = 10) (h1 : Cond.methodLink own index yX8_addOwner ∈ bigL) (hR : 2 ≤ R.frames ∧ 43 ≤ R.locals) (hl : ls.size = nL) (hcat : RC rest 8) (hf : cells + 0 ≤ R.cells ∧ slots + 0 ≤ R.slots) (hdg : decode cc pc = .ok (.invokevirtual index, 3)) (kk : (R32 v) → ∀ (H1 : Heap) (locs1 : List Loc), MS E μ1 s H1 locs1 → W p l e R s m args below meth c H1 locs1 (cells + 0) (slots + 0) Q (F0 m (pc + 3) ls (vi v :: rest))) : W p l e R s m args below meth c H locs cells slots Q (F0 m pc ls (vr E x0 :: rest)) := g_callV C KF_X8 hM (c_X8_addOwner l E N x0 μ μ1 v hc) hck (gV h1 bw_5_60 bw_5_61 bw_1_13 bw_5_62) ⟨rfl, hd_X8_addOwner⟩ hR rfl hl rfl hcat hf hdg kk
/-! X8_deposit -/
def f_X8_deposit_b55 (N : Nat) (x0 x1 x2 y0 : Int) (μ : Mm) : Rs :=
  ck (μ x0 (-2) = 10) <|
  bd (f_X8_ownerAt N x1 μ) fun a2 μ3 =>
  nm (w32 (a2 + 2)) fun a4 =>
  ck (μ3 (μ x0 0) (-2) = 24 ∧ (0 : Int) ≤ a4 ∧ a4 < μ3 (μ x0 0) (-1)) <|
  nm (w64 ((μ3 (μ x0 0) a4) - y0)) fun a6 =>
  ck (μ3 (μ x0 0) (-2) = 24 ∧ (0 : Int) ≤ a4 ∧ a4 < μ3 (μ x0 0) (-1)) <|
  nm (mset μ3 (μ x0 0) a4 a6) fun μ8 =>
  ck (μ8 x0 (-2) = 10) <|
  bd (f_X8_ownerAt N x1 μ8) fun a10 μ11 =>
  ck (μ11 (μ8 x0 0) (-2) = 24 ∧ (0 : Int) ≤ a10 ∧ a10 < μ11 (μ8 x0 0) (-1)) <|
  nm (w64 (x2 - y0)) fun a13 =>
  nm (w64 ((μ11 (μ8 x0 0) a10) + a13)) fun a14 =>
  ck (μ11 (μ8 x0 0) (-2) = 24 ∧ (0 : Int) ≤ a10 ∧ a10 < μ11 (μ8 x0 0) (-1)) <|
  nm (mset μ11 (μ8 x0 0) a10 a14) fun μ16 =>
  ck (μ16 x0 (-2) = 10) <|
  ck (μ16 (μ16 x0 0) (-2) = 24 ∧ (0 : Int) ≤ 12 ∧ 12 < μ16 (μ16 x0 0) (-1)) <|
  nm (w64 ((μ16 (μ16 x0 0) 12) + x2)) fun a19 =>
  ck (μ16 (μ16 x0 0) (-2) = 24 ∧ (0 : Int) ≤ 12 ∧ 12 < μ16 (μ16 x0 0) (-1)) <|
  nm (mset μ16 (μ16 x0 0) 12 a19) fun μ21 =>
  bd (f_X8_ownerAt N x1 μ21) fun a22 μ23 =>
  nm (w32 (a22 + 2)) fun a24 =>
  ck (μ23 x0 (-2) = 10) <|
  bd (f_X8_number N x0 a24 μ23) fun a26 μ27 =>
  some (a26, μ27)
def f_X8_deposit (N : Nat) (x0 x1 x2 : Int) (μ : Mm) : Rs :=
  ck (μ x0 (-2) = 10) <|
  bd (f_X8_noOwner N x0 x1 μ) fun a2 μ3 =>
  if a2 = 0 then
    (bd (f_X8_in N x2 1 10000000 μ3) fun a5 μ6 =>
     if ¬ a5 = 0 then
       (ck (μ6 x0 (-2) = 10) <|
        bd (f_X8_record N x0 μ6) fun a9 μ10 =>
        ck (μ10 x0 (-2) = 10) <|
        bd (f_X8_ownerAt N x1 μ10) fun a12 μ13 =>
        nm (w32 (a12 + 2)) fun a14 =>
        ck (μ13 (μ10 x0 0) (-2) = 24 ∧ (0 : Int) ≤ a14 ∧ a14 < μ13 (μ10 x0 0) (-1)) <|
        if x2 ≤ (μ13 (μ10 x0 0) a14) then
          (f_X8_deposit_b55 N x0 x1 x2 x2 μ13)
        else
        f_X8_deposit_b55 N x0 x1 x2 (μ13 (μ10 x0 0) a14) μ13)
     else
     some ((-100000002), μ6))
  else
  some ((-100000001), μ3)
set_option maxHeartbeats 4000000 in
set_option maxRecDepth 100000 in
theorem k_X8_deposit_b55 (C : gCx p s m args meth c cX8_deposit 7 (some .int) "deposit" RX8) (N : Nat) {r : Int} {μ' : Mm} : ∀ (x0 x1 x2 y0 : Int) (μ : Mm), f_X8_deposit_b55 N x0 x1 x2 y0 μ = some (r, μ') → R32 x1 → R32 x2 → R64 y0 → ∀ (H : Heap) (locs : List Loc) (ls : Array Slot), MS E μ s H locs → lv_has ls 7 [(0, vr E x0), (1, vi x1), (2, vi x2)] → W p l e ({ frames := 2, cells := 0, slots := 0, locals := 46 } : Room) s m args below meth c H locs 0 0 (MQ below (gQ E (some (vi r)) (R32 r) μ') args s 0 0 (gA E)) (F0 m 55 ls [vl y0]) := by
  intro x0 x1 x2 y0 μ h rx1 rx2 ry0 H locs ls hM hl
  unfold f_X8_deposit_b55 at h
  refine m_lstore (pc := 55) C dX8_deposit_55 hl (by decide) (lvK1 0 rfl (Nat.ne_of_beq_eq_false rfl) (Nat.ne_of_beq_eq_false rfl) (lvK1 1 rfl (Nat.ne_of_beq_eq_false rfl) (Nat.ne_of_beq_eq_false rfl) (lvK1 2 rfl (Nat.ne_of_beq_eq_false rfl) (Nat.ne_of_beq_eq_false rfl) lvK0))) (lvN1 (Nat.ne_of_beq_eq_false rfl) (lvN1 (Nat.ne_of_beq_eq_false rfl) (lvN1 (Nat.ne_of_beq_eq_false rfl) lvN0))) (fun ls hl => ?_)
  refine m_aload_n (pc := 57) C dX8_deposit_57 rfl (lv_at hl 1 rfl) ?_
  obtain ⟨q1, h⟩ := ck_some h
  refine G_X8_now (pc := 58) C hM bw_4_227 q1 dX8_deposit_58 ?_
  refine m_iload_n (pc := 61) C dX8_deposit_61 rfl (lv_at hl 2 rfl) ?_
  obtain ⟨a2, μ3, ca2, h⟩ := bd_some h
  refine V_X8_ownerAt (pc := 62) C hM ca2 rx1 bw_5_65 ⟨Nat.le_of_ble_eq_true rfl, Nat.le_of_ble_eq_true rfl⟩ hl.1 (rcR rc0) ⟨Nat.le_refl _, Nat.le_refl _⟩ dX8_deposit_62 (fun ra2 H locs hM => ?_)
  refine m_iconst (pc := 65) C dX8_deposit_65 ?_
  obtain ⟨a4, ea4, h⟩ := nm_some h
  have ra4 : R32 a4 := by rw [ea4]; exact w32_R _
  refine m_iadd (pc := 66) C dX8_deposit_66 ea4 ?_
  refine m_dup2 (pc := 67) C rfl (vr_cat _ _) dX8_deposit_67 ?_
  obtain ⟨q5, h⟩ := ck_some h
  have gq5 := Ar_lald hM q5.1 q5.2.1 q5.2.2
  refine m_lald (pc := 68) C hM q5.1 q5.2.1 q5.2.2 dX8_deposit_68 ?_
  refine m_lload (pc := 69) C dX8_deposit_69 (lv_at hl 0 rfl) ?_
  obtain ⟨a6, ea6, h⟩ := nm_some h
  have ra6 : R64 a6 := by rw [ea6]; exact w64_R _
  refine m_lsub (pc := 71) C dX8_deposit_71 ea6 ?_
  obtain ⟨q7, h⟩ := ck_some h
  obtain ⟨μ8, eμ8, h⟩ := nm_some h
  refine m_last (pc := 72) C hM q7.1 q7.2.1  q7.2.2 ra6 eμ8 dX8_deposit_72 (fun H locs hM => ?_)
  refine m_aload_n (pc := 73) C dX8_deposit_73 rfl (lv_at hl 1 rfl) ?_
  obtain ⟨q9, h⟩ := ck_some h
  refine G_X8_now (pc := 74) C hM bw_4_227 q9 dX8_deposit_74 ?_
  refine m_iload_n (pc := 77) C dX8_deposit_77 rfl (lv_at hl 2 rfl) ?_
  obtain ⟨a10, μ11, ca10, h⟩ := bd_some h
  refine V_X8_ownerAt (pc := 78) C hM ca10 rx1 bw_5_65 ⟨Nat.le_of_ble_eq_true rfl, Nat.le_of_ble_eq_true rfl⟩ hl.1 (rcR rc0) ⟨Nat.le_refl _, Nat.le_refl _⟩ dX8_deposit_78 (fun ra10 H locs hM => ?_)
  refine m_dup2 (pc := 81) C rfl (vr_cat _ _) dX8_deposit_81 ?_
  obtain ⟨q12, h⟩ := ck_some h
  have gq12 := Ar_lald hM q12.1 q12.2.1 q12.2.2
  refine m_lald (pc := 82) C hM q12.1 q12.2.1 q12.2.2 dX8_deposit_82 ?_
  refine m_iload_n (pc := 83) C dX8_deposit_83 rfl (lv_at hl 3 rfl) ?_
  refine m_i2l (pc := 84) C rx2 dX8_deposit_84 ?_
  refine m_lload (pc := 85) C dX8_deposit_85 (lv_at hl 0 rfl) ?_
  obtain ⟨a13, ea13, h⟩ := nm_some h
  have ra13 : R64 a13 := by rw [ea13]; exact w64_R _
  refine m_lsub (pc := 87) C dX8_deposit_87 ea13 ?_
  obtain ⟨a14, ea14, h⟩ := nm_some h
  have ra14 : R64 a14 := by rw [ea14]; exact w64_R _
  refine m_ladd (pc := 88) C dX8_deposit_88 ea14 ?_
  obtain ⟨q15, h⟩ := ck_some h
  obtain ⟨μ16, eμ16, h⟩ := nm_some h
  refine m_last (pc := 89) C hM q15.1 q15.2.1  q15.2.2 ra14 eμ16 dX8_deposit_89 (fun H locs hM => ?_)
  refine m_aload_n (pc := 90) C dX8_deposit_90 rfl (lv_at hl 1 rfl) ?_
  obtain ⟨q17, h⟩ := ck_some h
  refine G_X8_now (pc := 91) C hM bw_4_227 q17 dX8_deposit_91 ?_
  refine m_bipush (pc := 94) C dX8_deposit_94 rfl ?_
  refine m_dup2 (pc := 96) C rfl (vr_cat _ _) dX8_deposit_96 ?_
  obtain ⟨q18, h⟩ := ck_some h
  have gq18 := Ar_lald hM q18.1 q18.2.1 q18.2.2
  refine m_lald (pc := 97) C hM q18.1 q18.2.1 q18.2.2 dX8_deposit_97 ?_
  refine m_iload_n (pc := 98) C dX8_deposit_98 rfl (lv_at hl 3 rfl) ?_
  refine m_i2l (pc := 99) C rx2 dX8_deposit_99 ?_
  obtain ⟨a19, ea19, h⟩ := nm_some h
  have ra19 : R64 a19 := by rw [ea19]; exact w64_R _
  refine m_ladd (pc := 100) C dX8_deposit_100 ea19 ?_
  obtain ⟨q20, h⟩ := ck_some h
  obtain ⟨μ21, eμ21, h⟩ := nm_some h
  refine m_last (pc := 101) C hM q20.1 q20.2.1  q20.2.2 ra19 eμ21 dX8_deposit_101 (fun H locs hM => ?_)
  refine m_aload_n (pc := 102) C dX8_deposit_102 rfl (lv_at hl 1 rfl) ?_
  refine m_iload_n (pc := 103) C dX8_deposit_103 rfl (lv_at hl 2 rfl) ?_
  obtain ⟨a22, μ23, ca22, h⟩ := bd_some h
  refine V_X8_ownerAt (pc := 104) C hM ca22 rx1 bw_5_65 ⟨Nat.le_of_ble_eq_true rfl, Nat.le_of_ble_eq_true rfl⟩ hl.1 (rcR rc0) ⟨Nat.le_refl _, Nat.le_refl _⟩ dX8_deposit_104 (fun ra22 H locs hM => ?_)
  refine m_iconst (pc := 107) C dX8_deposit_107 ?_
  obtain ⟨a24, ea24, h⟩ := nm_some h
  have ra24 : R32 a24 := by rw [ea24]; exact w32_R _
  refine m_iadd (pc := 108) C dX8_deposit_108 ea24 ?_
  obtain ⟨q25, h⟩ := ck_some h
  obtain ⟨a26, μ27, ca26, h⟩ := bd_some h
  refine V_X8_number (pc := 109) C hM ca26 ra24 q25 bw_5_47 ⟨Nat.le_of_ble_eq_true rfl, Nat.le_of_ble_eq_true rfl⟩ hl.1 rc0 ⟨Nat.le_refl _, Nat.le_refl _⟩ dX8_deposit_109 (fun ra26 H locs hM => ?_)
  cases h
  exact m_iret (pc := 112) C hM ra26 dX8_deposit_112
set_option maxHeartbeats 4000000 in
set_option maxRecDepth 100000 in
theorem c_X8_deposit (l : Launch) (E : gE) (N : Nat) (x0 x1 x2 : Int) (μ μ' : Mm) (r : Int) (h : f_X8_deposit N x0 x1 x2 μ = some (r, μ')) (rx1 : R32 x1) (rx2 : R32 x2) : gMet l E yX8_deposit cX8_deposit 7 (some .int) 2 46 [vr E x0, vi x1, vi x2] (some (vi r)) (R32 r) μ μ' 0 0 := by
  refine g_ofW [1, 1, 1] (by first | (simp only [List.map_cons, List.map_nil, vr_cat]; done) | (simp only [List.map_cons, List.map_nil, vr_cat]; rfl)) (by decide) (by decide) (fun p e s m below meth c ls C hM hl => ?_)
  replace C : gCx p s m _ meth c cX8_deposit 7 (some .int) "deposit" RX8 := C
  replace hl : lv_has ls 7 [(0, vr E x0), (1, vi x1), (2, vi x2)] := hl
  unfold f_X8_deposit at h
  refine m_aload_n (pc := 0) C dX8_deposit_0 rfl (lv_at hl 0 rfl) ?_
  refine m_iload_n (pc := 1) C dX8_deposit_1 rfl (lv_at hl 1 rfl) ?_
  obtain ⟨q1, h⟩ := ck_some h
  obtain ⟨a2, μ3, ca2, h⟩ := bd_some h
  refine V_X8_noOwner (pc := 2) C hM ca2 rx1 q1 bw_5_72 ⟨Nat.le_of_ble_eq_true rfl, Nat.le_of_ble_eq_true rfl⟩ hl.1 rc0 ⟨Nat.le_refl _, Nat.le_refl _⟩ dX8_deposit_2 (fun ra2 H locs hM => ?_)
  refine m_if_eq (tgt := 11) (pc := 5) C ra2 dX8_deposit_5 (by decide) (fun c4 => ?_) (fun c4 => ?_)
  · have h := if_t h c4
    refine m_iload_n (pc := 11) C dX8_deposit_11 rfl (lv_at hl 2 rfl) ?_
    refine m_i2l (pc := 12) C rx2 dX8_deposit_12 ?_
    refine m_lconst (v := 1) (pc := 13) C dX8_deposit_13 rfl ?_
    refine m_ldc2 (n := 10000000) (pc := 14) C bw_5_76 rfl dX8_deposit_14 ?_
    obtain ⟨a5, μ6, ca5, h⟩ := bd_some h
    refine V_X8_in (pc := 17) C hM ca5 (R32.to64 rx2) rl_1 rl_10000000 bw_5_43 ⟨Nat.le_of_ble_eq_true rfl, Nat.le_of_ble_eq_true rfl⟩ hl.1 rc0 ⟨Nat.le_refl _, Nat.le_refl _⟩ dX8_deposit_17 (fun ra5 H locs hM => ?_)
    refine m_if_ne (tgt := 26) (pc := 20) C ra5 dX8_deposit_20 (by decide) (fun c7 => ?_) (fun c7 => ?_)
    · have h := if_t h c7
      refine m_aload_n (pc := 26) C dX8_deposit_26 rfl (lv_at hl 0 rfl) ?_
      obtain ⟨q8, h⟩ := ck_some h
      obtain ⟨a9, μ10, ca9, h⟩ := bd_some h
      refine V_X8_record (pc := 27) C hM ca9 q8 bw_5_55 ⟨Nat.le_of_ble_eq_true rfl, Nat.le_of_ble_eq_true rfl⟩ hl.1 rc0 ⟨Nat.le_refl _, Nat.le_refl _⟩ dX8_deposit_27 (fun _ H locs hM => ?_)
      refine m_aload_n (pc := 30) C dX8_deposit_30 rfl (lv_at hl 0 rfl) ?_
      obtain ⟨q11, h⟩ := ck_some h
      refine G_X8_now (pc := 31) C hM bw_4_227 q11 dX8_deposit_31 ?_
      refine m_iload_n (pc := 34) C dX8_deposit_34 rfl (lv_at hl 1 rfl) ?_
      obtain ⟨a12, μ13, ca12, h⟩ := bd_some h
      refine V_X8_ownerAt (pc := 35) C hM ca12 rx1 bw_5_65 ⟨Nat.le_of_ble_eq_true rfl, Nat.le_of_ble_eq_true rfl⟩ hl.1 (rcR rc0) ⟨Nat.le_refl _, Nat.le_refl _⟩ dX8_deposit_35 (fun ra12 H locs hM => ?_)
      refine m_iconst (pc := 38) C dX8_deposit_38 ?_
      obtain ⟨a14, ea14, h⟩ := nm_some h
      have ra14 : R32 a14 := by rw [ea14]; exact w32_R _
      refine m_iadd (pc := 39) C dX8_deposit_39 ea14 ?_
      obtain ⟨q15, h⟩ := ck_some h
      have gq15 := Ar_lald hM q15.1 q15.2.1 q15.2.2
      refine m_lald (pc := 40) C hM q15.1 q15.2.1 q15.2.2 dX8_deposit_40 ?_
      refine m_lstore_n (pc := 41) C dX8_deposit_41 rfl hl (by decide) (lvK1 0 rfl (Nat.ne_of_beq_eq_false rfl) (Nat.ne_of_beq_eq_false rfl) (lvK1 1 rfl (Nat.ne_of_beq_eq_false rfl) (Nat.ne_of_beq_eq_false rfl) (lvK2 2 rfl (Nat.ne_of_beq_eq_false rfl) rfl lvK0))) (lvN1 (Nat.ne_of_beq_eq_false rfl) (lvN1 (Nat.ne_of_beq_eq_false rfl) (lvN1 (Nat.ne_of_beq_eq_false rfl) lvN0))) (fun ls hl => ?_)
      refine m_lload_n (pc := 42) C dX8_deposit_42 rfl (lv_at hl 0 rfl) ?_
      refine m_iload_n (pc := 43) C dX8_deposit_43 rfl (lv_at hl 3 rfl) ?_
      refine m_i2l (pc := 44) C rx2 dX8_deposit_44 ?_
      refine m_lcmp_ge (tgt := 53) (pc := 45) C gq15 (R32.to64 rx2) dX8_deposit_45 dX8_deposit_46 (by decide) (fun c16 => ?_) (fun c16 => ?_)
      · have h := if_t h c16
        refine m_iload_n (pc := 53) C dX8_deposit_53 rfl (lv_at hl 3 rfl) ?_
        refine m_i2l (pc := 54) C rx2 dX8_deposit_54 ?_
        exact k_X8_deposit_b55 C N _ _ _ _ _ h rx1 rx2 (R32.to64 rx2) _ _ _ hM (lv_sub hl [1, 2, 3] rfl)
      · have h := if_f h c16
        refine m_lload_n (pc := 49) C dX8_deposit_49 rfl (lv_at hl 0 rfl) ?_
        refine m_goto (tgt := 55) (pc := 50) C dX8_deposit_50 (by decide) ?_
        exact k_X8_deposit_b55 C N _ _ _ _ _ h rx1 rx2 gq15 _ _ _ hM (lv_sub hl [1, 2, 3] rfl)
    · have h := if_f h c7
      refine m_ldc (n := -100000002) (pc := 23) C bw_5_77 rfl dX8_deposit_23 ?_
      cases h
      exact m_iret (pc := 25) C hM rk_m100000002 dX8_deposit_25
  · have h := if_f h c4
    refine m_ldc (n := -100000001) (pc := 8) C bw_5_46 rfl dX8_deposit_8 ?_
    cases h
    exact m_iret (pc := 10) C hM rk_m100000001 dX8_deposit_10
theorem hd_X8_deposit : yX8_deposit.cls ≠ "java/lang/invoke/MethodHandle" ∧ yX8_deposit.cls ≠ "java/lang/invoke/VarHandle" ∧ (parseMethodDescriptor yX8_deposit.desc).map (fun d => d.parameters.length) = some 2 := by decide +kernel

theorem V_X8_deposit {p : Program} {l : Launch} {e : Env} {R : Room} {s : State} {m : MethodId} {args : Array Value} {below : List Frame} {meth : Method} {c : Code} {H : Heap} {locs : List Loc} {cells slots : Nat} {Q : State → Prop} {cc : ByteArray} {pc nL : Nat} {ls : Array Slot} {rest : List Value} {ret : Option FieldType} {nmm own : String} {E : gE} {μ μ1 : Mm} {index : Nat} (C : gCx p s m args meth c cc nL ret nmm own) (hM : MS E μ s H locs) {N : Nat} {x0 x1 x2 v : Int} (hc : f_X8_deposit N x0 x1 x2 μ = some (v, μ1)) (rx1 : R32 x1) (rx2 : R32 x2) (hck : μ x0 (-2) = 10) (h1 : Cond.methodLink own index yX8_deposit ∈ bigL) (hR : 3 ≤ R.frames ∧ 72 ≤ R.locals) (hl : ls.size = nL) (hcat : RC rest 8) (hf : cells + 0 ≤ R.cells ∧ slots + 0 ≤ R.slots) (hdg : decode cc pc = .ok (.invokevirtual index, 3)) (kk : (R32 v) → ∀ (H1 : Heap) (locs1 : List Loc), MS E μ1 s H1 locs1 → W p l e R s m args below meth c H1 locs1 (cells + 0) (slots + 0) Q (F0 m (pc + 3) ls (vi v :: rest))) : W p l e R s m args below meth c H locs cells slots Q (F0 m pc ls (vi x2 :: vi x1 :: vr E x0 :: rest)) := g_callV C KF_X8 hM (c_X8_deposit l E N x0 x1 x2 μ μ1 v hc rx1 rx2) hck (gV h1 bw_5_69 bw_5_70 bw_1_13 bw_5_71) ⟨rfl, hd_X8_deposit⟩ hR rfl hl rfl hcat hf hdg kk
/-! X8_setGuarantee -/
def f_X8_setGuarantee (N : Nat) (x0 x1 x2 : Int) (μ : Mm) : Rs :=
  ck (μ x0 (-2) = 10) <|
  bd (f_X8_noOwner N x0 x1 μ) fun a2 μ3 =>
  if a2 = 0 then
    (bd (f_X8_in N x2 0 100000000 μ3) fun a5 μ6 =>
     if ¬ a5 = 0 then
       (ck (μ6 x0 (-2) = 10) <|
        bd (f_X8_use N x0 x1 μ6) fun a9 μ10 =>
        ck (μ10 x0 (-2) = 10) <|
        bd (f_X8_isCovered N x0 a9 x2 μ10) fun a12 μ13 =>
        if ¬ a12 = 0 then
          (ck (μ13 x0 (-2) = 10) <|
           bd (f_X8_record N x0 μ13) fun a16 μ17 =>
           bd (f_X8_ownerAt N x1 μ17) fun a18 μ19 =>
           nm (w32 (a18 + 1)) fun a20 =>
           ck (μ19 x0 (-2) = 10) <|
           bd (f_X8_number N x0 a20 μ19) fun a22 μ23 =>
           ck (μ23 x0 (-2) = 10) <|
           bd (f_X8_ownerAt N x1 μ23) fun a25 μ26 =>
           nm (w32 (a25 + 1)) fun a27 =>
           ck (μ26 (μ23 x0 0) (-2) = 24 ∧ (0 : Int) ≤ a27 ∧ a27 < μ26 (μ23 x0 0) (-1)) <|
           nm (mset μ26 (μ23 x0 0) a27 x2) fun μ29 =>
           some (a22, μ29))
        else
        ck (μ13 x0 (-2) = 10) <|
        bd (f_X8_refuse N x0 2 μ13) fun a31 μ32 =>
        some (a31, μ32))
     else
     some ((-100000002), μ6))
  else
  some ((-100000001), μ3)
set_option maxHeartbeats 4000000 in
set_option maxRecDepth 100000 in
theorem c_X8_setGuarantee (l : Launch) (E : gE) (N : Nat) (x0 x1 x2 : Int) (μ μ' : Mm) (r : Int) (h : f_X8_setGuarantee N x0 x1 x2 μ = some (r, μ')) (rx1 : R32 x1) (rx2 : R32 x2) : gMet l E yX8_setGuarantee cX8_setGuarantee 4 (some .int) 5 117 [vr E x0, vi x1, vi x2] (some (vi r)) (R32 r) μ μ' 0 0 := by
  refine g_ofW [1, 1, 1] (by first | (simp only [List.map_cons, List.map_nil, vr_cat]; done) | (simp only [List.map_cons, List.map_nil, vr_cat]; rfl)) (by decide) (by decide) (fun p e s m below meth c ls C hM hl => ?_)
  replace C : gCx p s m _ meth c cX8_setGuarantee 4 (some .int) "setGuarantee" RX8 := C
  replace hl : lv_has ls 4 [(0, vr E x0), (1, vi x1), (2, vi x2)] := hl
  unfold f_X8_setGuarantee at h
  refine m_aload_n (pc := 0) C dX8_setGuarantee_0 rfl (lv_at hl 0 rfl) ?_
  refine m_iload_n (pc := 1) C dX8_setGuarantee_1 rfl (lv_at hl 1 rfl) ?_
  obtain ⟨q1, h⟩ := ck_some h
  obtain ⟨a2, μ3, ca2, h⟩ := bd_some h
  refine V_X8_noOwner (pc := 2) C hM ca2 rx1 q1 bw_5_72 ⟨Nat.le_of_ble_eq_true rfl, Nat.le_of_ble_eq_true rfl⟩ hl.1 rc0 ⟨Nat.le_refl _, Nat.le_refl _⟩ dX8_setGuarantee_2 (fun ra2 H locs hM => ?_)
  refine m_if_eq (tgt := 11) (pc := 5) C ra2 dX8_setGuarantee_5 (by decide) (fun c4 => ?_) (fun c4 => ?_)
  · have h := if_t h c4
    refine m_iload_n (pc := 11) C dX8_setGuarantee_11 rfl (lv_at hl 2 rfl) ?_
    refine m_i2l (pc := 12) C rx2 dX8_setGuarantee_12 ?_
    refine m_lconst (v := 0) (pc := 13) C dX8_setGuarantee_13 rfl ?_
    refine m_ldc2 (n := 100000000) (pc := 14) C bw_5_82 rfl dX8_setGuarantee_14 ?_
    obtain ⟨a5, μ6, ca5, h⟩ := bd_some h
    refine V_X8_in (pc := 17) C hM ca5 (R32.to64 rx2) rl_0 rl_100000000 bw_5_43 ⟨Nat.le_of_ble_eq_true rfl, Nat.le_of_ble_eq_true rfl⟩ hl.1 rc0 ⟨Nat.le_refl _, Nat.le_refl _⟩ dX8_setGuarantee_17 (fun ra5 H locs hM => ?_)
    refine m_if_ne (tgt := 26) (pc := 20) C ra5 dX8_setGuarantee_20 (by decide) (fun c7 => ?_) (fun c7 => ?_)
    · have h := if_t h c7
      refine m_aload_n (pc := 26) C dX8_setGuarantee_26 rfl (lv_at hl 0 rfl) ?_
      refine m_aload_n (pc := 27) C dX8_setGuarantee_27 rfl (lv_at hl 0 rfl) ?_
      refine m_iload_n (pc := 28) C dX8_setGuarantee_28 rfl (lv_at hl 1 rfl) ?_
      obtain ⟨q8, h⟩ := ck_some h
      obtain ⟨a9, μ10, ca9, h⟩ := bd_some h
      refine V_X8_use (pc := 29) C hM ca9 rx1 q8 bw_5_83 ⟨Nat.le_of_ble_eq_true rfl, Nat.le_of_ble_eq_true rfl⟩ hl.1 (rcR rc0) ⟨Nat.le_refl _, Nat.le_refl _⟩ dX8_setGuarantee_29 (fun ra9 H locs hM => ?_)
      refine m_iload_n (pc := 32) C dX8_setGuarantee_32 rfl (lv_at hl 2 rfl) ?_
      refine m_i2l (pc := 33) C rx2 dX8_setGuarantee_33 ?_
      obtain ⟨q11, h⟩ := ck_some h
      obtain ⟨a12, μ13, ca12, h⟩ := bd_some h
      refine V_X8_isCovered (pc := 34) C hM ca12 ra9 (R32.to64 rx2) q11 bw_5_117 ⟨Nat.le_of_ble_eq_true rfl, Nat.le_of_ble_eq_true rfl⟩ hl.1 rc0 ⟨Nat.le_refl _, Nat.le_refl _⟩ dX8_setGuarantee_34 (fun ra12 H locs hM => ?_)
      refine m_if_ne (tgt := 46) (pc := 37) C ra12 dX8_setGuarantee_37 (by decide) (fun c14 => ?_) (fun c14 => ?_)
      · have h := if_t h c14
        refine m_aload_n (pc := 46) C dX8_setGuarantee_46 rfl (lv_at hl 0 rfl) ?_
        obtain ⟨q15, h⟩ := ck_some h
        obtain ⟨a16, μ17, ca16, h⟩ := bd_some h
        refine V_X8_record (pc := 47) C hM ca16 q15 bw_5_55 ⟨Nat.le_of_ble_eq_true rfl, Nat.le_of_ble_eq_true rfl⟩ hl.1 rc0 ⟨Nat.le_refl _, Nat.le_refl _⟩ dX8_setGuarantee_47 (fun _ H locs hM => ?_)
        refine m_aload_n (pc := 50) C dX8_setGuarantee_50 rfl (lv_at hl 0 rfl) ?_
        refine m_iload_n (pc := 51) C dX8_setGuarantee_51 rfl (lv_at hl 1 rfl) ?_
        obtain ⟨a18, μ19, ca18, h⟩ := bd_some h
        refine V_X8_ownerAt (pc := 52) C hM ca18 rx1 bw_5_65 ⟨Nat.le_of_ble_eq_true rfl, Nat.le_of_ble_eq_true rfl⟩ hl.1 (rcR rc0) ⟨Nat.le_refl _, Nat.le_refl _⟩ dX8_setGuarantee_52 (fun ra18 H locs hM => ?_)
        refine m_iconst (pc := 55) C dX8_setGuarantee_55 ?_
        obtain ⟨a20, ea20, h⟩ := nm_some h
        have ra20 : R32 a20 := by rw [ea20]; exact w32_R _
        refine m_iadd (pc := 56) C dX8_setGuarantee_56 ea20 ?_
        obtain ⟨q21, h⟩ := ck_some h
        obtain ⟨a22, μ23, ca22, h⟩ := bd_some h
        refine V_X8_number (pc := 57) C hM ca22 ra20 q21 bw_5_47 ⟨Nat.le_of_ble_eq_true rfl, Nat.le_of_ble_eq_true rfl⟩ hl.1 rc0 ⟨Nat.le_refl _, Nat.le_refl _⟩ dX8_setGuarantee_57 (fun ra22 H locs hM => ?_)
        refine m_istore_n (pc := 60) C dX8_setGuarantee_60 rfl hl (by decide) (lvK1 0 rfl (Nat.ne_of_beq_eq_false rfl) (Nat.ne_of_beq_eq_false rfl) (lvK1 1 rfl (Nat.ne_of_beq_eq_false rfl) (Nat.ne_of_beq_eq_false rfl) (lvK2 2 rfl (Nat.ne_of_beq_eq_false rfl) rfl lvK0))) (fun ls hl => ?_)
        refine m_aload_n (pc := 61) C dX8_setGuarantee_61 rfl (lv_at hl 1 rfl) ?_
        obtain ⟨q24, h⟩ := ck_some h
        refine G_X8_now (pc := 62) C hM bw_4_227 q24 dX8_setGuarantee_62 ?_
        refine m_iload_n (pc := 65) C dX8_setGuarantee_65 rfl (lv_at hl 2 rfl) ?_
        obtain ⟨a25, μ26, ca25, h⟩ := bd_some h
        refine V_X8_ownerAt (pc := 66) C hM ca25 rx1 bw_5_65 ⟨Nat.le_of_ble_eq_true rfl, Nat.le_of_ble_eq_true rfl⟩ hl.1 (rcR rc0) ⟨Nat.le_refl _, Nat.le_refl _⟩ dX8_setGuarantee_66 (fun ra25 H locs hM => ?_)
        refine m_iconst (pc := 69) C dX8_setGuarantee_69 ?_
        obtain ⟨a27, ea27, h⟩ := nm_some h
        have ra27 : R32 a27 := by rw [ea27]; exact w32_R _
        refine m_iadd (pc := 70) C dX8_setGuarantee_70 ea27 ?_
        refine m_iload_n (pc := 71) C dX8_setGuarantee_71 rfl (lv_at hl 3 rfl) ?_
        refine m_i2l (pc := 72) C rx2 dX8_setGuarantee_72 ?_
        obtain ⟨q28, h⟩ := ck_some h
        obtain ⟨μ29, eμ29, h⟩ := nm_some h
        refine m_last (pc := 73) C hM q28.1 q28.2.1  q28.2.2 (R32.to64 rx2) eμ29 dX8_setGuarantee_73 (fun H locs hM => ?_)
        refine m_iload_n (pc := 74) C dX8_setGuarantee_74 rfl (lv_at hl 0 rfl) ?_
        cases h
        exact m_iret (pc := 75) C hM ra22 dX8_setGuarantee_75
      · have h := if_f h c14
        refine m_aload_n (pc := 40) C dX8_setGuarantee_40 rfl (lv_at hl 0 rfl) ?_
        refine m_iconst (pc := 41) C dX8_setGuarantee_41 ?_
        obtain ⟨q30, h⟩ := ck_some h
        obtain ⟨a31, μ32, ca31, h⟩ := bd_some h
        refine V_X8_refuse (pc := 42) C hM ca31 rk_2 q30 bw_5_121 ⟨Nat.le_of_ble_eq_true rfl, Nat.le_of_ble_eq_true rfl⟩ hl.1 rc0 ⟨Nat.le_refl _, Nat.le_refl _⟩ dX8_setGuarantee_42 (fun ra31 H locs hM => ?_)
        cases h
        exact m_iret (pc := 45) C hM ra31 dX8_setGuarantee_45
    · have h := if_f h c7
      refine m_ldc (n := -100000002) (pc := 23) C bw_5_77 rfl dX8_setGuarantee_23 ?_
      cases h
      exact m_iret (pc := 25) C hM rk_m100000002 dX8_setGuarantee_25
  · have h := if_f h c4
    refine m_ldc (n := -100000001) (pc := 8) C bw_5_46 rfl dX8_setGuarantee_8 ?_
    cases h
    exact m_iret (pc := 10) C hM rk_m100000001 dX8_setGuarantee_10
theorem hd_X8_setGuarantee : yX8_setGuarantee.cls ≠ "java/lang/invoke/MethodHandle" ∧ yX8_setGuarantee.cls ≠ "java/lang/invoke/VarHandle" ∧ (parseMethodDescriptor yX8_setGuarantee.desc).map (fun d => d.parameters.length) = some 2 := by decide +kernel

theorem V_X8_setGuarantee {p : Program} {l : Launch} {e : Env} {R : Room} {s : State} {m : MethodId} {args : Array Value} {below : List Frame} {meth : Method} {c : Code} {H : Heap} {locs : List Loc} {cells slots : Nat} {Q : State → Prop} {cc : ByteArray} {pc nL : Nat} {ls : Array Slot} {rest : List Value} {ret : Option FieldType} {nmm own : String} {E : gE} {μ μ1 : Mm} {index : Nat} (C : gCx p s m args meth c cc nL ret nmm own) (hM : MS E μ s H locs) {N : Nat} {x0 x1 x2 v : Int} (hc : f_X8_setGuarantee N x0 x1 x2 μ = some (v, μ1)) (rx1 : R32 x1) (rx2 : R32 x2) (hck : μ x0 (-2) = 10) (h1 : Cond.methodLink own index yX8_setGuarantee ∈ bigL) (hR : 6 ≤ R.frames ∧ 140 ≤ R.locals) (hl : ls.size = nL) (hcat : RC rest 8) (hf : cells + 0 ≤ R.cells ∧ slots + 0 ≤ R.slots) (hdg : decode cc pc = .ok (.invokevirtual index, 3)) (kk : (R32 v) → ∀ (H1 : Heap) (locs1 : List Loc), MS E μ1 s H1 locs1 → W p l e R s m args below meth c H1 locs1 (cells + 0) (slots + 0) Q (F0 m (pc + 3) ls (vi v :: rest))) : W p l e R s m args below meth c H locs cells slots Q (F0 m pc ls (vi x2 :: vi x1 :: vr E x0 :: rest)) := g_callV C KF_X8 hM (c_X8_setGuarantee l E N x0 x1 x2 μ μ1 v hc rx1 rx2) hck (gV h1 bw_5_79 bw_5_80 bw_1_13 bw_5_81) ⟨rfl, hd_X8_setGuarantee⟩ hR rfl hl rfl hcat hf hdg kk
/-! X8_setRate -/
def f_X8_setRate (N : Nat) (x0 x1 x2 : Int) (μ : Mm) : Rs :=
  bd (f_X8_noKind N x1 μ) fun a1 μ2 =>
  if a1 = 0 then
    (bd (f_X8_in N x2 0 1000 μ2) fun a4 μ5 =>
     if ¬ a4 = 0 then
       (ck (μ5 x0 (-2) = 10) <|
        bd (f_X8_record N x0 μ5) fun a8 μ9 =>
        nm (w32 (14 + x1)) fun a10 =>
        ck (μ9 x0 (-2) = 10) <|
        bd (f_X8_number N x0 a10 μ9) fun a12 μ13 =>
        ck (μ13 x0 (-2) = 10) <|
        nm (w32 (14 + x1)) fun a15 =>
        ck (μ13 (μ13 x0 0) (-2) = 24 ∧ (0 : Int) ≤ a15 ∧ a15 < μ13 (μ13 x0 0) (-1)) <|
        nm (mset μ13 (μ13 x0 0) a15 x2) fun μ17 =>
        some (a12, μ17))
     else
     some ((-100000002), μ5))
  else
  some ((-100000001), μ2)
set_option maxHeartbeats 4000000 in
set_option maxRecDepth 100000 in
theorem c_X8_setRate (l : Launch) (E : gE) (N : Nat) (x0 x1 x2 : Int) (μ μ' : Mm) (r : Int) (h : f_X8_setRate N x0 x1 x2 μ = some (r, μ')) (rx1 : R32 x1) (rx2 : R32 x2) : gMet l E yX8_setRate cX8_setRate 4 (some .int) 2 45 [vr E x0, vi x1, vi x2] (some (vi r)) (R32 r) μ μ' 0 0 := by
  refine g_ofW [1, 1, 1] (by first | (simp only [List.map_cons, List.map_nil, vr_cat]; done) | (simp only [List.map_cons, List.map_nil, vr_cat]; rfl)) (by decide) (by decide) (fun p e s m below meth c ls C hM hl => ?_)
  replace C : gCx p s m _ meth c cX8_setRate 4 (some .int) "setRate" RX8 := C
  replace hl : lv_has ls 4 [(0, vr E x0), (1, vi x1), (2, vi x2)] := hl
  unfold f_X8_setRate at h
  refine m_iload_n (pc := 0) C dX8_setRate_0 rfl (lv_at hl 1 rfl) ?_
  obtain ⟨a1, μ2, ca1, h⟩ := bd_some h
  refine V_X8_noKind (pc := 1) C hM ca1 rx1 bw_5_130 ⟨Nat.le_of_ble_eq_true rfl, Nat.le_of_ble_eq_true rfl⟩ hl.1 rc0 ⟨Nat.le_refl _, Nat.le_refl _⟩ dX8_setRate_1 (fun ra1 H locs hM => ?_)
  refine m_if_eq (tgt := 10) (pc := 4) C ra1 dX8_setRate_4 (by decide) (fun c3 => ?_) (fun c3 => ?_)
  · have h := if_t h c3
    refine m_iload_n (pc := 10) C dX8_setRate_10 rfl (lv_at hl 2 rfl) ?_
    refine m_i2l (pc := 11) C rx2 dX8_setRate_11 ?_
    refine m_lconst (v := 0) (pc := 12) C dX8_setRate_12 rfl ?_
    refine m_ldc2 (n := 1000) (pc := 13) C bw_5_133 rfl dX8_setRate_13 ?_
    obtain ⟨a4, μ5, ca4, h⟩ := bd_some h
    refine V_X8_in (pc := 16) C hM ca4 (R32.to64 rx2) rl_0 rl_1000 bw_5_43 ⟨Nat.le_of_ble_eq_true rfl, Nat.le_of_ble_eq_true rfl⟩ hl.1 rc0 ⟨Nat.le_refl _, Nat.le_refl _⟩ dX8_setRate_16 (fun ra4 H locs hM => ?_)
    refine m_if_ne (tgt := 25) (pc := 19) C ra4 dX8_setRate_19 (by decide) (fun c6 => ?_) (fun c6 => ?_)
    · have h := if_t h c6
      refine m_aload_n (pc := 25) C dX8_setRate_25 rfl (lv_at hl 0 rfl) ?_
      obtain ⟨q7, h⟩ := ck_some h
      obtain ⟨a8, μ9, ca8, h⟩ := bd_some h
      refine V_X8_record (pc := 26) C hM ca8 q7 bw_5_55 ⟨Nat.le_of_ble_eq_true rfl, Nat.le_of_ble_eq_true rfl⟩ hl.1 rc0 ⟨Nat.le_refl _, Nat.le_refl _⟩ dX8_setRate_26 (fun _ H locs hM => ?_)
      refine m_aload_n (pc := 29) C dX8_setRate_29 rfl (lv_at hl 0 rfl) ?_
      refine m_bipush (pc := 30) C dX8_setRate_30 rfl ?_
      refine m_iload_n (pc := 32) C dX8_setRate_32 rfl (lv_at hl 1 rfl) ?_
      obtain ⟨a10, ea10, h⟩ := nm_some h
      have ra10 : R32 a10 := by rw [ea10]; exact w32_R _
      refine m_iadd (pc := 33) C dX8_setRate_33 ea10 ?_
      obtain ⟨q11, h⟩ := ck_some h
      obtain ⟨a12, μ13, ca12, h⟩ := bd_some h
      refine V_X8_number (pc := 34) C hM ca12 ra10 q11 bw_5_47 ⟨Nat.le_of_ble_eq_true rfl, Nat.le_of_ble_eq_true rfl⟩ hl.1 rc0 ⟨Nat.le_refl _, Nat.le_refl _⟩ dX8_setRate_34 (fun ra12 H locs hM => ?_)
      refine m_istore_n (pc := 37) C dX8_setRate_37 rfl hl (by decide) (lvK1 0 rfl (Nat.ne_of_beq_eq_false rfl) (Nat.ne_of_beq_eq_false rfl) (lvK1 1 rfl (Nat.ne_of_beq_eq_false rfl) (Nat.ne_of_beq_eq_false rfl) (lvK2 2 rfl (Nat.ne_of_beq_eq_false rfl) rfl lvK0))) (fun ls hl => ?_)
      refine m_aload_n (pc := 38) C dX8_setRate_38 rfl (lv_at hl 1 rfl) ?_
      obtain ⟨q14, h⟩ := ck_some h
      refine G_X8_now (pc := 39) C hM bw_4_227 q14 dX8_setRate_39 ?_
      refine m_bipush (pc := 42) C dX8_setRate_42 rfl ?_
      refine m_iload_n (pc := 44) C dX8_setRate_44 rfl (lv_at hl 2 rfl) ?_
      obtain ⟨a15, ea15, h⟩ := nm_some h
      have ra15 : R32 a15 := by rw [ea15]; exact w32_R _
      refine m_iadd (pc := 45) C dX8_setRate_45 ea15 ?_
      refine m_iload_n (pc := 46) C dX8_setRate_46 rfl (lv_at hl 3 rfl) ?_
      refine m_i2l (pc := 47) C rx2 dX8_setRate_47 ?_
      obtain ⟨q16, h⟩ := ck_some h
      obtain ⟨μ17, eμ17, h⟩ := nm_some h
      refine m_last (pc := 48) C hM q16.1 q16.2.1  q16.2.2 (R32.to64 rx2) eμ17 dX8_setRate_48 (fun H locs hM => ?_)
      refine m_iload_n (pc := 49) C dX8_setRate_49 rfl (lv_at hl 0 rfl) ?_
      cases h
      exact m_iret (pc := 50) C hM ra12 dX8_setRate_50
    · have h := if_f h c6
      refine m_ldc (n := -100000002) (pc := 22) C bw_5_77 rfl dX8_setRate_22 ?_
      cases h
      exact m_iret (pc := 24) C hM rk_m100000002 dX8_setRate_24
  · have h := if_f h c3
    refine m_ldc (n := -100000001) (pc := 7) C bw_5_46 rfl dX8_setRate_7 ?_
    cases h
    exact m_iret (pc := 9) C hM rk_m100000001 dX8_setRate_9
theorem hd_X8_setRate : yX8_setRate.cls ≠ "java/lang/invoke/MethodHandle" ∧ yX8_setRate.cls ≠ "java/lang/invoke/VarHandle" ∧ (parseMethodDescriptor yX8_setRate.desc).map (fun d => d.parameters.length) = some 2 := by decide +kernel

theorem V_X8_setRate {p : Program} {l : Launch} {e : Env} {R : Room} {s : State} {m : MethodId} {args : Array Value} {below : List Frame} {meth : Method} {c : Code} {H : Heap} {locs : List Loc} {cells slots : Nat} {Q : State → Prop} {cc : ByteArray} {pc nL : Nat} {ls : Array Slot} {rest : List Value} {ret : Option FieldType} {nmm own : String} {E : gE} {μ μ1 : Mm} {index : Nat} (C : gCx p s m args meth c cc nL ret nmm own) (hM : MS E μ s H locs) {N : Nat} {x0 x1 x2 v : Int} (hc : f_X8_setRate N x0 x1 x2 μ = some (v, μ1)) (rx1 : R32 x1) (rx2 : R32 x2) (hck : μ x0 (-2) = 10) (h1 : Cond.methodLink own index yX8_setRate ∈ bigL) (hR : 3 ≤ R.frames ∧ 68 ≤ R.locals) (hl : ls.size = nL) (hcat : RC rest 8) (hf : cells + 0 ≤ R.cells ∧ slots + 0 ≤ R.slots) (hdg : decode cc pc = .ok (.invokevirtual index, 3)) (kk : (R32 v) → ∀ (H1 : Heap) (locs1 : List Loc), MS E μ1 s H1 locs1 → W p l e R s m args below meth c H1 locs1 (cells + 0) (slots + 0) Q (F0 m (pc + 3) ls (vi v :: rest))) : W p l e R s m args below meth c H locs cells slots Q (F0 m pc ls (vi x2 :: vi x1 :: vr E x0 :: rest)) := g_callV C KF_X8 hM (c_X8_setRate l E N x0 x1 x2 μ μ1 v hc rx1 rx2) hck (gV h1 bw_5_127 bw_5_128 bw_1_13 bw_5_129) ⟨rfl, hd_X8_setRate⟩ hR rfl hl rfl hcat hf hdg kk
end G11
