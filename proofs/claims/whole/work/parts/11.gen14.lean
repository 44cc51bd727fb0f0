section G14
variable {p : Program} {l : Launch} {e : Env} {R : Room} {s : State} {m : MethodId} {args : Array Value} {below : List Frame} {meth : Method} {c : Code} {E : gE}
/-! X8_enter -/
def f_X8_enter (N : Nat) (x0 x1 x2 x3 x4 : Int) (μ : Mm) : Rs :=
  ck (μ x0 (-2) = 10) <|
  bd (f_X8_checkEnter N x0 x1 x2 x3 x4 μ) fun a2 μ3 =>
  if 0 ≤ a2 then
    (ck (μ3 x0 (-2) = 10) <|
     bd (f_X8_record N x0 μ3) fun a6 μ7 =>
     ck (μ7 x0 (-2) = 10) <|
     bd (f_X8_enters N x0 x1 x2 x3 x4 μ7) fun a9 μ10 =>
     some (a9, μ10))
  else
  some (a2, μ3)
set_option maxHeartbeats 4000000 in
set_option maxRecDepth 100000 in
theorem c_X8_enter (l : Launch) (E : gE) (N : Nat) (x0 x1 x2 x3 x4 : Int) (μ μ' : Mm) (r : Int) (h : f_X8_enter N x0 x1 x2 x3 x4 μ = some (r, μ')) (rx1 : R32 x1) (rx2 : R32 x2) (rx3 : R32 x3) (rx4 : R32 x4) : gMet l E yX8_enter cX8_enter 6 (some .int) 6 141 [vr E x0, vi x1, vi x2, vi x3, vi x4] (some (vi r)) (R32 r) μ μ' 0 0 := by
  refine g_ofW [1, 1, 1, 1, 1] (by first | (simp only [List.map_cons, List.map_nil, vr_cat]; done) | (simp only [List.map_cons, List.map_nil, vr_cat]; rfl)) (by decide) (by decide) (fun p e s m below meth c ls C hM hl => ?_)
  replace C : gCx p s m _ meth c cX8_enter 6 (some .int) "enter" RX8 := C
  replace hl : lv_has ls 6 [(0, vr E x0), (1, vi x1), (2, vi x2), (3, vi x3), (4, vi x4)] := hl
  unfold f_X8_enter at h
  refine m_aload_n (pc := 0) C dX8_enter_0 rfl (lv_at hl 0 rfl) ?_
  refine m_iload_n (pc := 1) C dX8_enter_1 rfl (lv_at hl 1 rfl) ?_
  refine m_iload_n (pc := 2) C dX8_enter_2 rfl (lv_at hl 2 rfl) ?_
  refine m_iload_n (pc := 3) C dX8_enter_3 rfl (lv_at hl 3 rfl) ?_
  refine m_iload (pc := 4) C dX8_enter_4 (lv_at hl 4 rfl) ?_
  obtain ⟨q1, h⟩ := ck_some h
  obtain ⟨a2, μ3, ca2, h⟩ := bd_some h
  refine V_X8_checkEnter (pc := 6) C hM ca2 rx1 rx2 rx3 rx4 q1 bw_5_147 ⟨Nat.le_of_ble_eq_true rfl, Nat.le_of_ble_eq_true rfl⟩ hl.1 rc0 ⟨Nat.le_refl _, Nat.le_refl _⟩ dX8_enter_6 (fun ra2 H locs hM => ?_)
  refine m_istore (pc := 9) C dX8_enter_9 hl (by decide) (lvK1 0 rfl (Nat.ne_of_beq_eq_false rfl) (Nat.ne_of_beq_eq_false rfl) (lvK1 1 rfl (Nat.ne_of_beq_eq_false rfl) (Nat.ne_of_beq_eq_false rfl) (lvK1 2 rfl (Nat.ne_of_beq_eq_false rfl) (Nat.ne_of_beq_eq_false rfl) (lvK1 3 rfl (Nat.ne_of_beq_eq_false rfl) (Nat.ne_of_beq_eq_false rfl) (lvK2 4 rfl (Nat.ne_of_beq_eq_false rfl) rfl lvK0))))) (fun ls hl => ?_)
  refine m_iload (pc := 11) C dX8_enter_11 (lv_at hl 0 rfl) ?_
  refine m_if_ge (tgt := 19) (pc := 13) C ra2 dX8_enter_13 (by decide) (fun c4 => ?_) (fun c4 => ?_)
  · have h := if_t h c4
    refine m_aload_n (pc := 19) C dX8_enter_19 rfl (lv_at hl 1 rfl) ?_
    obtain ⟨q5, h⟩ := ck_some h
    obtain ⟨a6, μ7, ca6, h⟩ := bd_some h
    refine V_X8_record (pc := 20) C hM ca6 q5 bw_5_55 ⟨Nat.le_of_ble_eq_true rfl, Nat.le_of_ble_eq_true rfl⟩ hl.1 rc0 ⟨Nat.le_refl _, Nat.le_refl _⟩ dX8_enter_20 (fun _ H locs hM => ?_)
    refine m_aload_n (pc := 23) C dX8_enter_23 rfl (lv_at hl 1 rfl) ?_
    refine m_iload_n (pc := 24) C dX8_enter_24 rfl (lv_at hl 2 rfl) ?_
    refine m_iload_n (pc := 25) C dX8_enter_25 rfl (lv_at hl 3 rfl) ?_
    refine m_iload_n (pc := 26) C dX8_enter_26 rfl (lv_at hl 4 rfl) ?_
    refine m_iload (pc := 27) C dX8_enter_27 (lv_at hl 5 rfl) ?_
    obtain ⟨q8, h⟩ := ck_some h
    obtain ⟨a9, μ10, ca9, h⟩ := bd_some h
    refine V_X8_enters (pc := 29) C hM ca9 rx1 rx2 rx3 rx4 q8 bw_5_155 ⟨Nat.le_of_ble_eq_true rfl, Nat.le_of_ble_eq_true rfl⟩ hl.1 rc0 ⟨Nat.le_refl _, Nat.le_refl _⟩ dX8_enter_29 (fun ra9 H locs hM => ?_)
    cases h
    exact m_iret (pc := 32) C hM ra9 dX8_enter_32
  · have h := if_f h c4
    refine m_iload (pc := 16) C dX8_enter_16 (lv_at hl 0 rfl) ?_
    cases h
    exact m_iret (pc := 18) C hM ra2 dX8_enter_18
theorem hd_X8_enter : yX8_enter.cls ≠ "java/lang/invoke/MethodHandle" ∧ yX8_enter.cls ≠ "java/lang/invoke/VarHandle" ∧ (parseMethodDescriptor yX8_enter.desc).map (fun d => d.parameters.length) = some 4 := by decide +kernel

theorem V_X8_enter {p : Program} {l : Launch} {e : Env} {R : Room} {s : State} {m : MethodId} {args : Array Value} {below : List Frame} {meth : Method} {c : Code} {H : Heap} {locs : List Loc} {cells slots : Nat} {Q : State → Prop} {cc : ByteArray} {pc nL : Nat} {ls : Array Slot} {rest : List Value} {ret : Option FieldType} {nmm own : String} {E : gE} {μ μ1 : Mm} {index : Nat} (C : gCx p s m args meth c cc nL ret nmm own) (hM : MS E μ s H locs) {N : Nat} {x0 x1 x2 x3 x4 v : Int} (hc : f_X8_enter N x0 x1 x2 x3 x4 μ = some (v, μ1)) (rx1 : R32 x1) (rx2 : R32 x2) (rx3 : R32 x3) (rx4 : R32 x4) (hck : μ x0 (-2) = 10) (h1 : Cond.methodLink own index yX8_enter ∈ bigL) (hR : 7 ≤ R.frames ∧ 166 ≤ R.locals) (hl : ls.size = nL) (hcat : RC rest 8) (hf : cells + 0 ≤ R.cells ∧ slots + 0 ≤ R.slots) (hdg : decode cc pc = .ok (.invokevirtual index, 3)) (kk : (R32 v) → ∀ (H1 : Heap) (locs1 : List Loc), MS E μ1 s H1 locs1 → W p l e R s m args below meth c H1 locs1 (cells + 0) (slots + 0) Q (F0 m (pc + 3) ls (vi v :: rest))) : W p l e R s m args below meth c H locs cells slots Q (F0 m pc ls (vi x4 :: vi x3 :: vi x2 :: vi x1 :: vr E x0 :: rest)) := g_callV C KF_X8 hM (c_X8_enter l E N x0 x1 x2 x3 x4 μ μ1 v hc rx1 rx2 rx3 rx4) hck (gV h1 bw_5_144 bw_5_145 bw_1_13 bw_5_146) ⟨rfl, hd_X8_enter⟩ hR rfl hl rfl hcat hf hdg kk
/-! X8_release -/
def f_X8_release (N : Nat) (x0 x1 x2 : Int) (μ : Mm) : Rs :=
  ck (μ x0 (-2) = 10) <|
  bd (f_X8_checkRelease N x0 x1 x2 μ) fun a2 μ3 =>
  if 0 ≤ a2 then
    (ck (μ3 x0 (-2) = 10) <|
     bd (f_X8_record N x0 μ3) fun a6 μ7 =>
     ck (μ7 x0 (-2) = 10) <|
     bd (f_X8_releases N x0 x1 x2 μ7) fun a9 μ10 =>
     some (a9, μ10))
  else
  some (a2, μ3)
set_option maxHeartbeats 4000000 in
set_option maxRecDepth 100000 in
theorem c_X8_release (l : Launch) (E : gE) (N : Nat) (x0 x1 x2 : Int) (μ μ' : Mm) (r : Int) (h : f_X8_release N x0 x1 x2 μ = some (r, μ')) (rx1 : R32 x1) (rx2 : R32 x2) : gMet l E yX8_release cX8_release 4 (some .int) 4 96 [vr E x0, vi x1, vi x2] (some (vi r)) (R32 r) μ μ' 0 0 := by
  refine g_ofW [1, 1, 1] (by first | (simp only [List.map_cons, List.map_nil, vr_cat]; done) | (simp only [List.map_cons, List.map_nil, vr_cat]; rfl)) (by decide) (by decide) (fun p e s m below meth c ls C hM hl => ?_)
  replace C : gCx p s m _ meth c cX8_release 4 (some .int) "release" RX8 := C
  replace hl : lv_has ls 4 [(0, vr E x0), (1, vi x1), (2, vi x2)] := hl
  unfold f_X8_release at h
  refine m_aload_n (pc := 0) C dX8_release_0 rfl (lv_at hl 0 rfl) ?_
  refine m_iload_n (pc := 1) C dX8_release_1 rfl (lv_at hl 1 rfl) ?_
  refine m_iload_n (pc := 2) C dX8_release_2 rfl (lv_at hl 2 rfl) ?_
  obtain ⟨q1, h⟩ := ck_some h
  obtain ⟨a2, μ3, ca2, h⟩ := bd_some h
  refine V_X8_checkRelease (pc := 3) C hM ca2 rx1 rx2 q1 bw_5_163 ⟨Nat.le_of_ble_eq_true rfl, Nat.le_of_ble_eq_true rfl⟩ hl.1 rc0 ⟨Nat.le_refl _, Nat.le_refl _⟩ dX8_release_3 (fun ra2 H locs hM => ?_)
  refine m_istore_n (pc := 6) C dX8_release_6 rfl hl (by decide) (lvK1 0 rfl (Nat.ne_of_beq_eq_false rfl) (Nat.ne_of_beq_eq_false rfl) (lvK1 1 rfl (Nat.ne_of_beq_eq_false rfl) (Nat.ne_of_beq_eq_false rfl) (lvK2 2 rfl (Nat.ne_of_beq_eq_false rfl) rfl lvK0))) (fun ls hl => ?_)
  refine m_iload_n (pc := 7) C dX8_release_7 rfl (lv_at hl 0 rfl) ?_
  refine m_if_ge (tgt := 13) (pc := 8) C ra2 dX8_release_8 (by decide) (fun c4 => ?_) (fun c4 => ?_)
  · have h := if_t h c4
    refine m_aload_n (pc := 13) C dX8_release_13 rfl (lv_at hl 1 rfl) ?_
    obtain ⟨q5, h⟩ := ck_some h
    obtain ⟨a6, μ7, ca6, h⟩ := bd_some h
    refine V_X8_record (pc := 14) C hM ca6 q5 bw_5_55 ⟨Nat.le_of_ble_eq_true rfl, Nat.le_of_ble_eq_true rfl⟩ hl.1 rc0 ⟨Nat.le_refl _, Nat.le_refl _⟩ dX8_release_14 (fun _ H locs hM => ?_)
    refine m_aload_n (pc := 17) C dX8_release_17 rfl (lv_at hl 1 rfl) ?_
    refine m_iload_n (pc := 18) C dX8_release_18 rfl (lv_at hl 2 rfl) ?_
    refine m_iload_n (pc := 19) C dX8_release_19 rfl (lv_at hl 3 rfl) ?_
    obtain ⟨q8, h⟩ := ck_some h
    obtain ⟨a9, μ10, ca9, h⟩ := bd_some h
    refine V_X8_releases (pc := 20) C hM ca9 rx1 rx2 q8 bw_5_179 ⟨Nat.le_of_ble_eq_true rfl, Nat.le_of_ble_eq_true rfl⟩ hl.1 rc0 ⟨Nat.le_refl _, Nat.le_refl _⟩ dX8_release_20 (fun ra9 H locs hM => ?_)
    cases h
    exact m_iret (pc := 23) C hM ra9 dX8_release_23
  · have h := if_f h c4
    refine m_iload_n (pc := 11) C dX8_release_11 rfl (lv_at hl 0 rfl) ?_
    cases h
    exact m_iret (pc := 12) C hM ra2 dX8_release_12
theorem hd_X8_release : yX8_release.cls ≠ "java/lang/invoke/MethodHandle" ∧ yX8_release.cls ≠ "java/lang/invoke/VarHandle" ∧ (parseMethodDescriptor yX8_release.desc).map (fun d => d.parameters.length) = some 2 := by decide +kernel

theorem V_X8_release {p : Program} {l : Launch} {e : Env} {R : Room} {s : State} {m : MethodId} {args : Array Value} {below : List Frame} {meth : Method} {c : Code} {H : Heap} {locs : List Loc} {cells slots : Nat} {Q : State → Prop} {cc : ByteArray} {pc nL : Nat} {ls : Array Slot} {rest : List Value} {ret : Option FieldType} {nmm own : String} {E : gE} {μ μ1 : Mm} {index : Nat} (C : gCx p s m args meth c cc nL ret nmm own) (hM : MS E μ s H locs) {N : Nat} {x0 x1 x2 v : Int} (hc : f_X8_release N x0 x1 x2 μ = some (v, μ1)) (rx1 : R32 x1) (rx2 : R32 x2) (hck : μ x0 (-2) = 10) (h1 : Cond.methodLink own index yX8_release ∈ bigL) (hR : 5 ≤ R.frames ∧ 119 ≤ R.locals) (hl : ls.size = nL) (hcat : RC rest 8) (hf : cells + 0 ≤ R.cells ∧ slots + 0 ≤ R.slots) (hdg : decode cc pc = .ok (.invokevirtual index, 3)) (kk : (R32 v) → ∀ (H1 : Heap) (locs1 : List Loc), MS E μ1 s H1 locs1 → W p l e R s m args below meth c H1 locs1 (cells + 0) (slots + 0) Q (F0 m (pc + 3) ls (vi v :: rest))) : W p l e R s m args below meth c H locs cells slots Q (F0 m pc ls (vi x2 :: vi x1 :: vr E x0 :: rest)) := g_callV C KF_X8 hM (c_X8_release l E N x0 x1 x2 μ μ1 v hc rx1 rx2) hck (gV h1 bw_5_160 bw_5_161 bw_1_13 bw_5_162) ⟨rfl, hd_X8_release⟩ hR rfl hl rfl hcat hf hdg kk
/-! X8_sample -/
def f_X8_sample (N : Nat) (x0 x1 x2 : Int) (μ : Mm) : Rs :=
  ck (μ x0 (-2) = 10) <|
  bd (f_X8_checkSample N x0 x1 x2 μ) fun a2 μ3 =>
  if 0 ≤ a2 then
    (ck (μ3 x0 (-2) = 10) <|
     bd (f_X8_record N x0 μ3) fun a6 μ7 =>
     ck (μ7 x0 (-2) = 10) <|
     bd (f_X8_samples N x0 x1 x2 μ7) fun a9 μ10 =>
     some (a9, μ10))
  else
  some (a2, μ3)
set_option maxHeartbeats 4000000 in
set_option maxRecDepth 100000 in
theorem c_X8_sample (l : Launch) (E : gE) (N : Nat) (x0 x1 x2 : Int) (μ μ' : Mm) (r : Int) (h : f_X8_sample N x0 x1 x2 μ = some (r, μ')) (rx1 : R32 x1) (rx2 : R32 x2) : gMet l E yX8_sample cX8_sample 4 (some .int) 4 98 [vr E x0, vi x1, vi x2] (some (vi r)) (R32 r) μ μ' 0 0 := by
  refine g_ofW [1, 1, 1] (by first | (simp only [List.map_cons, List.map_nil, vr_cat]; done) | (simp only [List.map_cons, List.map_nil, vr_cat]; rfl)) (by decide) (by decide) (fun p e s m below meth c ls C hM hl => ?_)
  replace C : gCx p s m _ meth c cX8_sample 4 (some .int) "sample" RX8 := C
  replace hl : lv_has ls 4 [(0, vr E x0), (1, vi x1), (2, vi x2)] := hl
  unfold f_X8_sample at h
  refine m_aload_n (pc := 0) C dX8_sample_0 rfl (lv_at hl 0 rfl) ?_
  refine m_iload_n (pc := 1) C dX8_sample_1 rfl (lv_at hl 1 rfl) ?_
  refine m_iload_n (pc := 2) C dX8_sample_2 rfl (lv_at hl 2 rfl) ?_
  obtain ⟨q1, h⟩ := ck_some h
  obtain ⟨a2, μ3, ca2, h⟩ := bd_some h
  refine V_X8_checkSample (pc := 3) C hM ca2 rx1 rx2 q1 bw_5_195 ⟨Nat.le_of_ble_eq_true rfl, Nat.le_of_ble_eq_true rfl⟩ hl.1 rc0 ⟨Nat.le_refl _, Nat.le_refl _⟩ dX8_sample_3 (fun ra2 H locs hM => ?_)
  refine m_istore_n (pc := 6) C dX8_sample_6 rfl hl (by decide) (lvK1 0 rfl (Nat.ne_of_beq_eq_false rfl) (Nat.ne_of_beq_eq_false rfl) (lvK1 1 rfl (Nat.ne_of_beq_eq_false rfl) (Nat.ne_of_beq_eq_false rfl) (lvK2 2 rfl (Nat.ne_of_beq_eq_false rfl) rfl lvK0))) (fun ls hl => ?_)
  refine m_iload_n (pc := 7) C dX8_sample_7 rfl (lv_at hl 0 rfl) ?_
  refine m_if_ge (tgt := 13) (pc := 8) C ra2 dX8_sample_8 (by decide) (fun c4 => ?_) (fun c4 => ?_)
  · have h := if_t h c4
    refine m_aload_n (pc := 13) C dX8_sample_13 rfl (lv_at hl 1 rfl) ?_
    obtain ⟨q5, h⟩ := ck_some h
    obtain ⟨a6, μ7, ca6, h⟩ := bd_some h
    refine V_X8_record (pc := 14) C hM ca6 q5 bw_5_55 ⟨Nat.le_of_ble_eq_true rfl, Nat.le_of_ble_eq_true rfl⟩ hl.1 rc0 ⟨Nat.le_refl _, Nat.le_refl _⟩ dX8_sample_14 (fun _ H locs hM => ?_)
    refine m_aload_n (pc := 17) C dX8_sample_17 rfl (lv_at hl 1 rfl) ?_
    refine m_iload_n (pc := 18) C dX8_sample_18 rfl (lv_at hl 2 rfl) ?_
    refine m_iload_n (pc := 19) C dX8_sample_19 rfl (lv_at hl 3 rfl) ?_
    obtain ⟨q8, h⟩ := ck_some h
    obtain ⟨a9, μ10, ca9, h⟩ := bd_some h
    refine V_X8_samples (pc := 20) C hM ca9 rx1 rx2 q8 bw_5_207 ⟨Nat.le_of_ble_eq_true rfl, Nat.le_of_ble_eq_true rfl⟩ hl.1 rc0 ⟨Nat.le_refl _, Nat.le_refl _⟩ dX8_sample_20 (fun ra9 H locs hM => ?_)
    cases h
    exact m_iret (pc := 23) C hM ra9 dX8_sample_23
  · have h := if_f h c4
    refine m_iload_n (pc := 11) C dX8_sample_11 rfl (lv_at hl 0 rfl) ?_
    cases h
    exact m_iret (pc := 12) C hM ra2 dX8_sample_12
theorem hd_X8_sample : yX8_sample.cls ≠ "java/lang/invoke/MethodHandle" ∧ yX8_sample.cls ≠ "java/lang/invoke/VarHandle" ∧ (parseMethodDescriptor yX8_sample.desc).map (fun d => d.parameters.length) = some 2 := by decide +kernel

theorem V_X8_sample {p : Program} {l : Launch} {e : Env} {R : Room} {s : State} {m : MethodId} {args : Array Value} {below : List Frame} {meth : Method} {c : Code} {H : Heap} {locs : List Loc} {cells slots : Nat} {Q : State → Prop} {cc : ByteArray} {pc nL : Nat} {ls : Array Slot} {rest : List Value} {ret : Option FieldType} {nmm own : String} {E : gE} {μ μ1 : Mm} {index : Nat} (C : gCx p s m args meth c cc nL ret nmm own) (hM : MS E μ s H locs) {N : Nat} {x0 x1 x2 v : Int} (hc : f_X8_sample N x0 x1 x2 μ = some (v, μ1)) (rx1 : R32 x1) (rx2 : R32 x2) (hck : μ x0 (-2) = 10) (h1 : Cond.methodLink own index yX8_sample ∈ bigL) (hR : 5 ≤ R.frames ∧ 121 ≤ R.locals) (hl : ls.size = nL) (hcat : RC rest 8) (hf : cells + 0 ≤ R.cells ∧ slots + 0 ≤ R.slots) (hdg : decode cc pc = .ok (.invokevirtual index, 3)) (kk : (R32 v) → ∀ (H1 : Heap) (locs1 : List Loc), MS E μ1 s H1 locs1 → W p l e R s m args below meth c H1 locs1 (cells + 0) (slots + 0) Q (F0 m (pc + 3) ls (vi v :: rest))) : W p l e R s m args below meth c H locs cells slots Q (F0 m pc ls (vi x2 :: vi x1 :: vr E x0 :: rest)) := g_callV C KF_X8 hM (c_X8_sample l E N x0 x1 x2 μ μ1 v hc rx1 rx2) hck (gV h1 bw_5_192 bw_5_193 bw_1_13 bw_5_194) ⟨rfl, hd_X8_sample⟩ hR rfl hl rfl hcat hf hdg kk
/-! X8_export -/
def f_X8_export (N : Nat) (x0 x1 x2 : Int) (μ : Mm) : Rs :=
  ck (μ x0 (-2) = 10) <|
  bd (f_X8_checkExport N x0 x1 x2 μ) fun a2 μ3 =>
  if 0 ≤ a2 then
    (ck (μ3 x0 (-2) = 10) <|
     bd (f_X8_record N x0 μ3) fun a6 μ7 =>
     ck (μ7 x0 (-2) = 10) <|
     bd (f_X8_exports N x0 x1 x2 μ7) fun a9 μ10 =>
     some (a9, μ10))
  else
  some (a2, μ3)
set_option maxHeartbeats 4000000 in
set_option maxRecDepth 100000 in
theorem c_X8_export (l : Launch) (E : gE) (N : Nat) (x0 x1 x2 : Int) (μ μ' : Mm) (r : Int) (h : f_X8_export N x0 x1 x2 μ = some (r, μ')) (rx1 : R32 x1) (rx2 : R32 x2) : gMet l E yX8_export cX8_export 4 (some .int) 4 96 [vr E x0, vi x1, vi x2] (some (vi r)) (R32 r) μ μ' 0 0 := by
  refine g_ofW [1, 1, 1] (by first | (simp only [List.map_cons, List.map_nil, vr_cat]; done) | (simp only [List.map_cons, List.map_nil, vr_cat]; rfl)) (by decide) (by decide) (fun p e s m below meth c ls C hM hl => ?_)
  replace C : gCx p s m _ meth c cX8_export 4 (some .int) "export" RX8 := C
  replace hl : lv_has ls 4 [(0, vr E x0), (1, vi x1), (2, vi x2)] := hl
  unfold f_X8_export at h
  refine m_aload_n (pc := 0) C dX8_export_0 rfl (lv_at hl 0 rfl) ?_
  refine m_iload_n (pc := 1) C dX8_export_1 rfl (lv_at hl 1 rfl) ?_
  refine m_iload_n (pc := 2) C dX8_export_2 rfl (lv_at hl 2 rfl) ?_
  obtain ⟨q1, h⟩ := ck_some h
  obtain ⟨a2, μ3, ca2, h⟩ := bd_some h
  refine V_X8_checkExport (pc := 3) C hM ca2 rx1 rx2 q1 bw_5_215 ⟨Nat.le_of_ble_eq_true rfl, Nat.le_of_ble_eq_true rfl⟩ hl.1 rc0 ⟨Nat.le_refl _, Nat.le_refl _⟩ dX8_export_3 (fun ra2 H locs hM => ?_)
  refine m_istore_n (pc := 6) C dX8_export_6 rfl hl (by decide) (lvK1 0 rfl (Nat.ne_of_beq_eq_false rfl) (Nat.ne_of_beq_eq_false rfl) (lvK1 1 rfl (Nat.ne_of_beq_eq_false rfl) (Nat.ne_of_beq_eq_false rfl) (lvK2 2 rfl (Nat.ne_of_beq_eq_false rfl) rfl lvK0))) (fun ls hl => ?_)
  refine m_iload_n (pc := 7) C dX8_export_7 rfl (lv_at hl 0 rfl) ?_
  refine m_if_ge (tgt := 13) (pc := 8) C ra2 dX8_export_8 (by decide) (fun c4 => ?_) (fun c4 => ?_)
  · have h := if_t h c4
    refine m_aload_n (pc := 13) C dX8_export_13 rfl (lv_at hl 1 rfl) ?_
    obtain ⟨q5, h⟩ := ck_some h
    obtain ⟨a6, μ7, ca6, h⟩ := bd_some h
    refine V_X8_record (pc := 14) C hM ca6 q5 bw_5_55 ⟨Nat.le_of_ble_eq_true rfl, Nat.le_of_ble_eq_true rfl⟩ hl.1 rc0 ⟨Nat.le_refl _, Nat.le_refl _⟩ dX8_export_14 (fun _ H locs hM => ?_)
    refine m_aload_n (pc := 17) C dX8_export_17 rfl (lv_at hl 1 rfl) ?_
    refine m_iload_n (pc := 18) C dX8_export_18 rfl (lv_at hl 2 rfl) ?_
    refine m_iload_n (pc := 19) C dX8_export_19 rfl (lv_at hl 3 rfl) ?_
    obtain ⟨q8, h⟩ := ck_some h
    obtain ⟨a9, μ10, ca9, h⟩ := bd_some h
    refine V_X8_exports (pc := 20) C hM ca9 rx1 rx2 q8 bw_5_219 ⟨Nat.le_of_ble_eq_true rfl, Nat.le_of_ble_eq_true rfl⟩ hl.1 rc0 ⟨Nat.le_refl _, Nat.le_refl _⟩ dX8_export_20 (fun ra9 H locs hM => ?_)
    cases h
    exact m_iret (pc := 23) C hM ra9 dX8_export_23
  · have h := if_f h c4
    refine m_iload_n (pc := 11) C dX8_export_11 rfl (lv_at hl 0 rfl) ?_
    cases h
    exact m_iret (pc := 12) C hM ra2 dX8_export_12
theorem hd_X8_export : yX8_export.cls ≠ "java/lang/invoke/MethodHandle" ∧ yX8_export.cls ≠ "java/lang/invoke/VarHandle" ∧ (parseMethodDescriptor yX8_export.desc).map (fun d => d.parameters.length) = some 2 := by decide +kernel

theorem V_X8_export {p : Program} {l : Launch} {e : Env} {R : Room} {s : State} {m : MethodId} {args : Array Value} {below : List Frame} {meth : Method} {c : Code} {H : Heap} {locs : List Loc} {cells slots : Nat} {Q : State → Prop} {cc : ByteArray} {pc nL : Nat} {ls : Array Slot} {rest : List Value} {ret : Option FieldType} {nmm own : String} {E : gE} {μ μ1 : Mm} {index : Nat} (C : gCx p s m args meth c cc nL ret nmm own) (hM : MS E μ s H locs) {N : Nat} {x0 x1 x2 v : Int} (hc : f_X8_export N x0 x1 x2 μ = some (v, μ1)) (rx1 : R32 x1) (rx2 : R32 x2) (hck : μ x0 (-2) = 10) (h1 : Cond.methodLink own index yX8_export ∈ bigL) (hR : 5 ≤ R.frames ∧ 119 ≤ R.locals) (hl : ls.size = nL) (hcat : RC rest 8) (hf : cells + 0 ≤ R.cells ∧ slots + 0 ≤ R.slots) (hdg : decode cc pc = .ok (.invokevirtual index, 3)) (kk : (R32 v) → ∀ (H1 : Heap) (locs1 : List Loc), MS E μ1 s H1 locs1 → W p l e R s m args below meth c H1 locs1 (cells + 0) (slots + 0) Q (F0 m (pc + 3) ls (vi v :: rest))) : W p l e R s m args below meth c H locs cells slots Q (F0 m pc ls (vi x2 :: vi x1 :: vr E x0 :: rest)) := g_callV C KF_X8 hM (c_X8_export l E N x0 x1 x2 μ μ1 v hc rx1 rx2) hck (gV h1 bw_5_212 bw_5_213 bw_1_13 bw_5_214) ⟨rfl, hd_X8_export⟩ hR rfl hl rfl hcat hf hdg kk
/-! X8_prove -/
def f_X8_prove (N : Nat) (x0 x1 : Int) (μ : Mm) : Rs :=
  ck (μ x0 (-2) = 10) <|
  bd (f_X8_checkProve N x0 x1 μ) fun a2 μ3 =>
  if 0 ≤ a2 then
    (ck (μ3 x0 (-2) = 10) <|
     bd (f_X8_record N x0 μ3) fun a6 μ7 =>
     ck (μ7 x0 (-2) = 10) <|
     bd (f_X8_proves N x0 x1 μ7) fun a9 μ10 =>
     some (a9, μ10))
  else
  some (a2, μ3)
set_option maxHeartbeats 4000000 in
set_option maxRecDepth 100000 in
theorem c_X8_prove (l : Launch) (E : gE) (N : Nat) (x0 x1 : Int) (μ μ' : Mm) (r : Int) (h : f_X8_prove N x0 x1 μ = some (r, μ')) (rx1 : R32 x1) : gMet l E yX8_prove cX8_prove 3 (some .int) 3 67 [vr E x0, vi x1] (some (vi r)) (R32 r) μ μ' 0 0 := by
  refine g_ofW [1, 1] (by first | (simp only [List.map_cons, List.map_nil, vr_cat]; done) | (simp only [List.map_cons, List.map_nil, vr_cat]; rfl)) (by decide) (by decide) (fun p e s m below meth c ls C hM hl => ?_)
  replace C : gCx p s m _ meth c cX8_prove 3 (some .int) "prove" RX8 := C
  replace hl : lv_has ls 3 [(0, vr E x0), (1, vi x1)] := hl
  unfold f_X8_prove at h
  refine m_aload_n (pc := 0) C dX8_prove_0 rfl (lv_at hl 0 rfl) ?_
  refine m_iload_n (pc := 1) C dX8_prove_1 rfl (lv_at hl 1 rfl) ?_
  obtain ⟨q1, h⟩ := ck_some h
  obtain ⟨a2, μ3, ca2, h⟩ := bd_some h
  refine V_X8_checkProve (pc := 2) C hM ca2 rx1 q1 bw_5_227 ⟨Nat.le_of_ble_eq_true rfl, Nat.le_of_ble_eq_true rfl⟩ hl.1 rc0 ⟨Nat.le_refl _, Nat.le_refl _⟩ dX8_prove_2 (fun ra2 H locs hM => ?_)
  refine m_istore_n (pc := 5) C dX8_prove_5 rfl hl (by decide) (lvK1 0 rfl (Nat.ne_of_beq_eq_false rfl) (Nat.ne_of_beq_eq_false rfl) (lvK2 1 rfl (Nat.ne_of_beq_eq_false rfl) rfl lvK0)) (fun ls hl => ?_)
  refine m_iload_n (pc := 6) C dX8_prove_6 rfl (lv_at hl 0 rfl) ?_
  refine m_if_ge (tgt := 12) (pc := 7) C ra2 dX8_prove_7 (by decide) (fun c4 => ?_) (fun c4 => ?_)
  · have h := if_t h c4
    refine m_aload_n (pc := 12) C dX8_prove_12 rfl (lv_at hl 1 rfl) ?_
    obtain ⟨q5, h⟩ := ck_some h
    obtain ⟨a6, μ7, ca6, h⟩ := bd_some h
    refine V_X8_record (pc := 13) C hM ca6 q5 bw_5_55 ⟨Nat.le_of_ble_eq_true rfl, Nat.le_of_ble_eq_true rfl⟩ hl.1 rc0 ⟨Nat.le_refl _, Nat.le_refl _⟩ dX8_prove_13 (fun _ H locs hM => ?_)
    refine m_aload_n (pc := 16) C dX8_prove_16 rfl (lv_at hl 1 rfl) ?_
    refine m_iload_n (pc := 17) C dX8_prove_17 rfl (lv_at hl 2 rfl) ?_
    obtain ⟨q8, h⟩ := ck_some h
    obtain ⟨a9, μ10, ca9, h⟩ := bd_some h
    refine V_X8_proves (pc := 18) C hM ca9 rx1 q8 bw_5_235 ⟨Nat.le_of_ble_eq_true rfl, Nat.le_of_ble_eq_true rfl⟩ hl.1 rc0 ⟨Nat.le_refl _, Nat.le_refl _⟩ dX8_prove_18 (fun ra9 H locs hM => ?_)
    cases h
    exact m_iret (pc := 21) C hM ra9 dX8_prove_21
  · have h := if_f h c4
    refine m_iload_n (pc := 10) C dX8_prove_10 rfl (lv_at hl 0 rfl) ?_
    cases h
    exact m_iret (pc := 11) C hM ra2 dX8_prove_11
theorem hd_X8_prove : yX8_prove.cls ≠ "java/lang/invoke/MethodHandle" ∧ yX8_prove.cls ≠ "java/lang/invoke/VarHandle" ∧ (parseMethodDescriptor yX8_prove.desc).map (fun d => d.parameters.length) = some 1 := by decide +kernel

theorem V_X8_prove {p : Program} {l : Launch} {e : Env} {R : Room} {s : State} {m : MethodId} {args : Array Value} {below : List Frame} {meth : Method} {c : Code} {H : Heap} {locs : List Loc} {cells slots : Nat} {Q : State → Prop} {cc : ByteArray} {pc nL : Nat} {ls : Array Slot} {rest : List Value} {ret : Option FieldType} {nmm own : String} {E : gE} {μ μ1 : Mm} {index : Nat} (C : gCx p s m args meth c cc nL ret nmm own) (hM : MS E μ s H locs) {N : Nat} {x0 x1 v : Int} (hc : f_X8_prove N x0 x1 μ = some (v, μ1)) (rx1 : R32 x1) (hck : μ x0 (-2) = 10) (h1 : Cond.methodLink own index yX8_prove ∈ bigL) (hR : 4 ≤ R.frames ∧ 89 ≤ R.locals) (hl : ls.size = nL) (hcat : RC rest 8) (hf : cells + 0 ≤ R.cells ∧ slots + 0 ≤ R.slots) (hdg : decode cc pc = .ok (.invokevirtual index, 3)) (kk : (R32 v) → ∀ (H1 : Heap) (locs1 : List Loc), MS E μ1 s H1 locs1 → W p l e R s m args below meth c H1 locs1 (cells + 0) (slots + 0) Q (F0 m (pc + 3) ls (vi v :: rest))) : W p l e R s m args below meth c H locs cells slots Q (F0 m pc ls (vi x1 :: vr E x0 :: rest)) := g_callV C KF_X8 hM (c_X8_prove l E N x0 x1 μ μ1 v hc rx1) hck (gV h1 bw_5_224 bw_5_225 bw_1_13 bw_5_226) ⟨rfl, hd_X8_prove⟩ hR rfl hl rfl hcat hf hdg kk
/-! X8_destroy -/
def f_X8_destroy (N : Nat) (x0 x1 x2 : Int) (μ : Mm) : Rs :=
  ck (μ x0 (-2) = 10) <|
  bd (f_X8_checkDestroy N x0 x1 x2 μ) fun a2 μ3 =>
  if 0 ≤ a2 then
    (ck (μ3 x0 (-2) = 10) <|
     bd (f_X8_record N x0 μ3) fun a6 μ7 =>
     ck (μ7 x0 (-2) = 10) <|
     bd (f_X8_destroys N x0 x1 x2 μ7) fun a9 μ10 =>
     some (a9, μ10))
  else
  some (a2, μ3)
set_option maxHeartbeats 4000000 in
set_option maxRecDepth 100000 in
theorem c_X8_destroy (l : Launch) (E : gE) (N : Nat) (x0 x1 x2 : Int) (μ μ' : Mm) (r : Int) (h : f_X8_destroy N x0 x1 x2 μ = some (r, μ')) (rx1 : R32 x1) (rx2 : R32 x2) : gMet l E yX8_destroy cX8_destroy 4 (some .int) 4 96 [vr E x0, vi x1, vi x2] (some (vi r)) (R32 r) μ μ' 0 0 := by
  refine g_ofW [1, 1, 1] (by first | (simp only [List.map_cons, List.map_nil, vr_cat]; done) | (simp only [List.map_cons, List.map_nil, vr_cat]; rfl)) (by decide) (by decide) (fun p e s m below meth c ls C hM hl => ?_)
  replace C : gCx p s m _ meth c cX8_destroy 4 (some .int) "destroy" RX8 := C
  replace hl : lv_has ls 4 [(0, vr E x0), (1, vi x1), (2, vi x2)] := hl
  unfold f_X8_destroy at h
  refine m_aload_n (pc := 0) C dX8_destroy_0 rfl (lv_at hl 0 rfl) ?_
  refine m_iload_n (pc := 1) C dX8_destroy_1 rfl (lv_at hl 1 rfl) ?_
  refine m_iload_n (pc := 2) C dX8_destroy_2 rfl (lv_at hl 2 rfl) ?_
  obtain ⟨q1, h⟩ := ck_some h
  obtain ⟨a2, μ3, ca2, h⟩ := bd_some h
  refine V_X8_checkDestroy (pc := 3) C hM ca2 rx1 rx2 q1 bw_6_3 ⟨Nat.le_of_ble_eq_true rfl, Nat.le_of_ble_eq_true rfl⟩ hl.1 rc0 ⟨Nat.le_refl _, Nat.le_refl _⟩ dX8_destroy_3 (fun ra2 H locs hM => ?_)
  refine m_istore_n (pc := 6) C dX8_destroy_6 rfl hl (by decide) (lvK1 0 rfl (Nat.ne_of_beq_eq_false rfl) (Nat.ne_of_beq_eq_false rfl) (lvK1 1 rfl (Nat.ne_of_beq_eq_false rfl) (Nat.ne_of_beq_eq_false rfl) (lvK2 2 rfl (Nat.ne_of_beq_eq_false rfl) rfl lvK0))) (fun ls hl => ?_)
  refine m_iload_n (pc := 7) C dX8_destroy_7 rfl (lv_at hl 0 rfl) ?_
  refine m_if_ge (tgt := 13) (pc := 8) C ra2 dX8_destroy_8 (by decide) (fun c4 => ?_) (fun c4 => ?_)
  · have h := if_t h c4
    refine m_aload_n (pc := 13) C dX8_destroy_13 rfl (lv_at hl 1 rfl) ?_
    obtain ⟨q5, h⟩ := ck_some h
    obtain ⟨a6, μ7, ca6, h⟩ := bd_some h
    refine V_X8_record (pc := 14) C hM ca6 q5 bw_5_55 ⟨Nat.le_of_ble_eq_true rfl, Nat.le_of_ble_eq_true rfl⟩ hl.1 rc0 ⟨Nat.le_refl _, Nat.le_refl _⟩ dX8_destroy_14 (fun _ H locs hM => ?_)
    refine m_aload_n (pc := 17) C dX8_destroy_17 rfl (lv_at hl 1 rfl) ?_
    refine m_iload_n (pc := 18) C dX8_destroy_18 rfl (lv_at hl 2 rfl) ?_
    refine m_iload_n (pc := 19) C dX8_destroy_19 rfl (lv_at hl 3 rfl) ?_
    obtain ⟨q8, h⟩ := ck_some h
    obtain ⟨a9, μ10, ca9, h⟩ := bd_some h
    refine V_X8_destroys (pc := 20) C hM ca9 rx1 rx2 q8 bw_6_7 ⟨Nat.le_of_ble_eq_true rfl, Nat.le_of_ble_eq_true rfl⟩ hl.1 rc0 ⟨Nat.le_refl _, Nat.le_refl _⟩ dX8_destroy_20 (fun ra9 H locs hM => ?_)
    cases h
    exact m_iret (pc := 23) C hM ra9 dX8_destroy_23
  · have h := if_f h c4
    refine m_iload_n (pc := 11) C dX8_destroy_11 rfl (lv_at hl 0 rfl) ?_
    cases h
    exact m_iret (pc := 12) C hM ra2 dX8_destroy_12
theorem hd_X8_destroy : yX8_destroy.cls ≠ "java/lang/invoke/MethodHandle" ∧ yX8_destroy.cls ≠ "java/lang/invoke/VarHandle" ∧ (parseMethodDescriptor yX8_destroy.desc).map (fun d => d.parameters.length) = some 2 := by decide +kernel

theorem V_X8_destroy {p : Program} {l : Launch} {e : Env} {R : Room} {s : State} {m : MethodId} {args : Array Value} {below : List Frame} {meth : Method} {c : Code} {H : Heap} {locs : List Loc} {cells slots : Nat} {Q : State → Prop} {cc : ByteArray} {pc nL : Nat} {ls : Array Slot} {rest : List Value} {ret : Option FieldType} {nmm own : String} {E : gE} {μ μ1 : Mm} {index : Nat} (C : gCx p s m args meth c cc nL ret nmm own) (hM : MS E μ s H locs) {N : Nat} {x0 x1 x2 v : Int} (hc : f_X8_destroy N x0 x1 x2 μ = some (v, μ1)) (rx1 : R32 x1) (rx2 : R32 x2) (hck : μ x0 (-2) = 10) (h1 : Cond.methodLink own index yX8_destroy ∈ bigL) (hR : 5 ≤ R.frames ∧ 119 ≤ R.locals) (hl : ls.size = nL) (hcat : RC rest 8) (hf : cells + 0 ≤ R.cells ∧ slots + 0 ≤ R.slots) (hdg : decode cc pc = .ok (.invokevirtual index, 3)) (kk : (R32 v) → ∀ (H1 : Heap) (locs1 : List Loc), MS E μ1 s H1 locs1 → W p l e R s m args below meth c H1 locs1 (cells + 0) (slots + 0) Q (F0 m (pc + 3) ls (vi v :: rest))) : W p l e R s m args below meth c H locs cells slots Q (F0 m pc ls (vi x2 :: vi x1 :: vr E x0 :: rest)) := g_callV C KF_X8 hM (c_X8_destroy l E N x0 x1 x2 μ μ1 v hc rx1 rx2) hck (gV h1 bw_6_0 bw_6_1 bw_1_13 bw_6_2) ⟨rfl, hd_X8_destroy⟩ hR rfl hl rfl hcat hf hdg kk
/-! X8_give -/
def f_X8_give (N : Nat) (x0 x1 x2 : Int) (μ : Mm) : Rs :=
  ck (μ x0 (-2) = 10) <|
  bd (f_X8_checkGive N x0 x1 x2 μ) fun a2 μ3 =>
  if 0 ≤ a2 then
    (ck (μ3 x0 (-2) = 10) <|
     bd (f_X8_record N x0 μ3) fun a6 μ7 =>
     ck (μ7 x0 (-2) = 10) <|
     bd (f_X8_gives N x0 x1 x2 μ7) fun a9 μ10 =>
     some (a9, μ10))
  else
  some (a2, μ3)
set_option maxHeartbeats 4000000 in
set_option maxRecDepth 100000 in
theorem c_X8_give (l : Launch) (E : gE) (N : Nat) (x0 x1 x2 : Int) (μ μ' : Mm) (r : Int) (h : f_X8_give N x0 x1 x2 μ = some (r, μ')) (rx1 : R32 x1) (rx2 : R32 x2) : gMet l E yX8_give cX8_give 4 (some .int) 6 139 [vr E x0, vi x1, vi x2] (some (vi r)) (R32 r) μ μ' 0 0 := by
  refine g_ofW [1, 1, 1] (by first | (simp only [List.map_cons, List.map_nil, vr_cat]; done) | (simp only [List.map_cons, List.map_nil, vr_cat]; rfl)) (by decide) (by decide) (fun p e s m below meth c ls C hM hl => ?_)
  replace C : gCx p s m _ meth c cX8_give 4 (some .int) "give" RX8 := C
  replace hl : lv_has ls 4 [(0, vr E x0), (1, vi x1), (2, vi x2)] := hl
  unfold f_X8_give at h
  refine m_aload_n (pc := 0) C dX8_give_0 rfl (lv_at hl 0 rfl) ?_
  refine m_iload_n (pc := 1) C dX8_give_1 rfl (lv_at hl 1 rfl) ?_
  refine m_iload_n (pc := 2) C dX8_give_2 rfl (lv_at hl 2 rfl) ?_
  obtain ⟨q1, h⟩ := ck_some h
  obtain ⟨a2, μ3, ca2, h⟩ := bd_some h
  refine V_X8_checkGive (pc := 3) C hM ca2 rx1 rx2 q1 bw_6_15 ⟨Nat.le_of_ble_eq_true rfl, Nat.le_of_ble_eq_true rfl⟩ hl.1 rc0 ⟨Nat.le_refl _, Nat.le_refl _⟩ dX8_give_3 (fun ra2 H locs hM => ?_)
  refine m_istore_n (pc := 6) C dX8_give_6 rfl hl (by decide) (lvK1 0 rfl (Nat.ne_of_beq_eq_false rfl) (Nat.ne_of_beq_eq_false rfl) (lvK1 1 rfl (Nat.ne_of_beq_eq_false rfl) (Nat.ne_of_beq_eq_false rfl) (lvK2 2 rfl (Nat.ne_of_beq_eq_false rfl) rfl lvK0))) (fun ls hl => ?_)
  refine m_iload_n (pc := 7) C dX8_give_7 rfl (lv_at hl 0 rfl) ?_
  refine m_if_ge (tgt := 13) (pc := 8) C ra2 dX8_give_8 (by decide) (fun c4 => ?_) (fun c4 => ?_)
  · have h := if_t h c4
    refine m_aload_n (pc := 13) C dX8_give_13 rfl (lv_at hl 1 rfl) ?_
    obtain ⟨q5, h⟩ := ck_some h
    obtain ⟨a6, μ7, ca6, h⟩ := bd_some h
    refine V_X8_record (pc := 14) C hM ca6 q5 bw_5_55 ⟨Nat.le_of_ble_eq_true rfl, Nat.le_of_ble_eq_true rfl⟩ hl.1 rc0 ⟨Nat.le_refl _, Nat.le_refl _⟩ dX8_give_14 (fun _ H locs hM => ?_)
    refine m_aload_n (pc := 17) C dX8_give_17 rfl (lv_at hl 1 rfl) ?_
    refine m_iload_n (pc := 18) C dX8_give_18 rfl (lv_at hl 2 rfl) ?_
    refine m_iload_n (pc := 19) C dX8_give_19 rfl (lv_at hl 3 rfl) ?_
    obtain ⟨q8, h⟩ := ck_some h
    obtain ⟨a9, μ10, ca9, h⟩ := bd_some h
    refine V_X8_gives (pc := 20) C hM ca9 rx1 rx2 q8 bw_6_19 ⟨Nat.le_of_ble_eq_true rfl, Nat.le_of_ble_eq_true rfl⟩ hl.1 rc0 ⟨Nat.le_refl _, Nat.le_refl _⟩ dX8_give_20 (fun ra9 H locs hM => ?_)
    cases h
    exact m_iret (pc := 23) C hM ra9 dX8_give_23
  · have h := if_f h c4
    refine m_iload_n (pc := 11) C dX8_give_11 rfl (lv_at hl 0 rfl) ?_
    cases h
    exact m_iret (pc := 12) C hM ra2 dX8_give_12
theorem hd_X8_give : yX8_give.cls ≠ "java/lang/invoke/MethodHandle" ∧ yX8_give.cls ≠ "java/lang/invoke/VarHandle" ∧ (parseMethodDescriptor yX8_give.desc).map (fun d => d.parameters.length) = some 2 := by decide +kernel

theorem V_X8_give {p : Program} {l : Launch} {e : Env} {R : Room} {s : State} {m : MethodId} {args : Array Value} {below : List Frame} {meth : Method} {c : Code} {H : Heap} {locs : List Loc} {cells slots : Nat} {Q : State → Prop} {cc : ByteArray} {pc nL : Nat} {ls : Array Slot} {rest : List Value} {ret : Option FieldType} {nmm own : String} {E : gE} {μ μ1 : Mm} {index : Nat} (C : gCx p s m args meth c cc nL ret nmm own) (hM : MS E μ s H locs) {N : Nat} {x0 x1 x2 v : Int} (hc : f_X8_give N x0 x1 x2 μ = some (v, μ1)) (rx1 : R32 x1) (rx2 : R32 x2) (hck : μ x0 (-2) = 10) (h1 : Cond.methodLink own index yX8_give ∈ bigL) (hR : 7 ≤ R.frames ∧ 162 ≤ R.locals) (hl : ls.size = nL) (hcat : RC rest 8) (hf : cells + 0 ≤ R.cells ∧ slots + 0 ≤ R.slots) (hdg : decode cc pc = .ok (.invokevirtual index, 3)) (kk : (R32 v) → ∀ (H1 : Heap) (locs1 : List Loc), MS E μ1 s H1 locs1 → W p l e R s m args below meth c H1 locs1 (cells + 0) (slots + 0) Q (F0 m (pc + 3) ls (vi v :: rest))) : W p l e R s m args below meth c H locs cells slots Q (F0 m pc ls (vi x2 :: vi x1 :: vr E x0 :: rest)) := g_callV C KF_X8 hM (c_X8_give l E N x0 x1 x2 μ μ1 v hc rx1 rx2) hck (gV h1 bw_6_12 bw_6_13 bw_1_13 bw_6_14) ⟨rfl, hd_X8_give⟩ hR rfl hl rfl hcat hf hdg kk
/-! X8_pass -/
def f_X8_pass (N : Nat) (x0 x1 : Int) (μ : Mm) : Rs :=
  bd (f_X8_in N x1 1 100 μ) fun a1 μ2 =>
  if ¬ a1 = 0 then
    (ck (μ2 x0 (-2) = 10) <|
     bd (f_X8_record N x0 μ2) fun a5 μ6 =>
     ck (μ6 x0 (-2) = 10) <|
     bd (f_X8_passes N x0 x1 μ6) fun a8 μ9 =>
     some (a8, μ9))
  else
  some ((-100000002), μ2)
set_option maxHeartbeats 4000000 in
set_option maxRecDepth 100000 in
theorem c_X8_pass (l : Launch) (E : gE) (N : Nat) (x0 x1 : Int) (μ μ' : Mm) (r : Int) (h : f_X8_pass N x0 x1 μ = some (r, μ')) (rx1 : R32 x1) : gMet l E yX8_pass cX8_pass 2 (some .int) 4 99 [vr E x0, vi x1] (some (vi r)) (R32 r) μ μ' 0 0 := by
  refine g_ofW [1, 1] (by first | (simp only [List.map_cons, List.map_nil, vr_cat]; done) | (simp only [List.map_cons, List.map_nil, vr_cat]; rfl)) (by decide) (by decide) (fun p e s m below meth c ls C hM hl => ?_)
  replace C : gCx p s m _ meth c cX8_pass 2 (some .int) "pass" RX8 := C
  replace hl : lv_has ls 2 [(0, vr E x0), (1, vi x1)] := hl
  unfold f_X8_pass at h
  refine m_iload_n (pc := 0) C dX8_pass_0 rfl (lv_at hl 1 rfl) ?_
  refine m_i2l (pc := 1) C rx1 dX8_pass_1 ?_
  refine m_lconst (v := 1) (pc := 2) C dX8_pass_2 rfl ?_
  refine m_ldc2 (n := 100) (pc := 3) C bw_4_223 rfl dX8_pass_3 ?_
  obtain ⟨a1, μ2, ca1, h⟩ := bd_some h
  refine V_X8_in (pc := 6) C hM ca1 (R32.to64 rx1) rl_1 rl_100 bw_5_43 ⟨Nat.le_of_ble_eq_true rfl, Nat.le_of_ble_eq_true rfl⟩ hl.1 rc0 ⟨Nat.le_refl _, Nat.le_refl _⟩ dX8_pass_6 (fun ra1 H locs hM => ?_)
  refine m_if_ne (tgt := 15) (pc := 9) C ra1 dX8_pass_9 (by decide) (fun c3 => ?_) (fun c3 => ?_)
  · have h := if_t h c3
    refine m_aload_n (pc := 15) C dX8_pass_15 rfl (lv_at hl 0 rfl) ?_
    obtain ⟨q4, h⟩ := ck_some h
    obtain ⟨a5, μ6, ca5, h⟩ := bd_some h
    refine V_X8_record (pc := 16) C hM ca5 q4 bw_5_55 ⟨Nat.le_of_ble_eq_true rfl, Nat.le_of_ble_eq_true rfl⟩ hl.1 rc0 ⟨Nat.le_refl _, Nat.le_refl _⟩ dX8_pass_16 (fun _ H locs hM => ?_)
    refine m_aload_n (pc := 19) C dX8_pass_19 rfl (lv_at hl 0 rfl) ?_
    refine m_iload_n (pc := 20) C dX8_pass_20 rfl (lv_at hl 1 rfl) ?_
    obtain ⟨q7, h⟩ := ck_some h
    obtain ⟨a8, μ9, ca8, h⟩ := bd_some h
    refine V_X8_passes (pc := 21) C hM ca8 rx1 q7 bw_6_27 ⟨Nat.le_of_ble_eq_true rfl, Nat.le_of_ble_eq_true rfl⟩ hl.1 rc0 ⟨Nat.le_refl _, Nat.le_refl _⟩ dX8_pass_21 (fun ra8 H locs hM => ?_)
    cases h
    exact m_iret (pc := 24) C hM ra8 dX8_pass_24
  · have h := if_f h c3
    refine m_ldc (n := -100000002) (pc := 12) C bw_5_77 rfl dX8_pass_12 ?_
    cases h
    exact m_iret (pc := 14) C hM rk_m100000002 dX8_pass_14
theorem hd_X8_pass : yX8_pass.cls ≠ "java/lang/invoke/MethodHandle" ∧ yX8_pass.cls ≠ "java/lang/invoke/VarHandle" ∧ (parseMethodDescriptor yX8_pass.desc).map (fun d => d.parameters.length) = some 1 := by decide +kernel

theorem V_X8_pass {p : Program} {l : Launch} {e : Env} {R : Room} {s : State} {m : MethodId} {args : Array Value} {below : List Frame} {meth : Method} {c : Code} {H : Heap} {locs : List Loc} {cells slots : Nat} {Q : State → Prop} {cc : ByteArray} {pc nL : Nat} {ls : Array Slot} {rest : List Value} {ret : Option FieldType} {nmm own : String} {E : gE} {μ μ1 : Mm} {index : Nat} (C : gCx p s m args meth c cc nL ret nmm own) (hM : MS E μ s H locs) {N : Nat} {x0 x1 v : Int} (hc : f_X8_pass N x0 x1 μ = some (v, μ1)) (rx1 : R32 x1) (hck : μ x0 (-2) = 10) (h1 : Cond.methodLink own index yX8_pass ∈ bigL) (hR : 5 ≤ R.frames ∧ 120 ≤ R.locals) (hl : ls.size = nL) (hcat : RC rest 8) (hf : cells + 0 ≤ R.cells ∧ slots + 0 ≤ R.slots) (hdg : decode cc pc = .ok (.invokevirtual index, 3)) (kk : (R32 v) → ∀ (H1 : Heap) (locs1 : List Loc), MS E μ1 s H1 locs1 → W p l e R s m args below meth c H1 locs1 (cells + 0) (slots + 0) Q (F0 m (pc + 3) ls (vi v :: rest))) : W p l e R s m args below meth c H locs cells slots Q (F0 m pc ls (vi x1 :: vr E x0 :: rest)) := g_callV C KF_X8 hM (c_X8_pass l E N x0 x1 μ μ1 v hc rx1) hck (gV h1 bw_6_24 bw_6_25 bw_1_13 bw_6_26) ⟨rfl, hd_X8_pass⟩ hR rfl hl rfl hcat hf hdg kk
/-! X8_type -/
def f_X8_type (N : Nat) (x0 x1 : Int) (μ : Mm) : Rs :=
  ck (μ x0 (-2) = 10) <|
  if ¬ (μ x0 6) = 80 then
    (ck (μ x0 (-2) = 10) <|
     ck (μ x0 (-2) = 10) <|
     ck (μ (μ x0 7) (-2) = 22 ∧ (0 : Int) ≤ (μ x0 6) ∧ (μ x0 6) < μ (μ x0 7) (-1) ∧ (0 : Int) ≤ x1 ∧ x1 ≤ (65535 : Int)) <|
     nm (mset μ (μ x0 7) (μ x0 6) x1) fun μ6 =>
     ck (μ6 x0 (-2) = 10) <|
     nm (w32 ((μ6 x0 6) + 1)) fun a8 =>
     ck (μ6 x0 (-2) = 10) <|
     nm (mset μ6 x0 6 a8) fun μ10 =>
     ck (μ10 x0 (-2) = 10) <|
     some (μ10 x0 6, μ10))
  else
  some ((-100000004), μ)
set_option maxHeartbeats 4000000 in
set_option maxRecDepth 100000 in
theorem c_X8_type (l : Launch) (E : gE) (N : Nat) (x0 x1 : Int) (μ μ' : Mm) (r : Int) (h : f_X8_type N x0 x1 μ = some (r, μ')) (rx1 : R32 x1) : gMet l E yX8_type cX8_type 2 (some .int) 0 0 [vr E x0, vi x1] (some (vi r)) (R32 r) μ μ' 0 0 := by
  refine g_ofW [1, 1] (by first | (simp only [List.map_cons, List.map_nil, vr_cat]; done) | (simp only [List.map_cons, List.map_nil, vr_cat]; rfl)) (by decide) (by decide) (fun p e s m below meth c ls C hM hl => ?_)
  replace C : gCx p s m _ meth c cX8_type 2 (some .int) "type" RX8 := C
  replace hl : lv_has ls 2 [(0, vr E x0), (1, vi x1)] := hl
  unfold f_X8_type at h
  refine m_aload_n (pc := 0) C dX8_type_0 rfl (lv_at hl 0 rfl) ?_
  obtain ⟨q1, h⟩ := ck_some h
  have gq1 := Gr_X8_typed hM q1
  refine G_X8_typed (pc := 1) C hM bw_4_233 q1 dX8_type_1 ?_
  refine m_bipush (pc := 4) C dX8_type_4 rfl ?_
  refine m_icmp_ne (tgt := 12) (pc := 6) C gq1 rk_80 dX8_type_6 (by decide) (fun c2 => ?_) (fun c2 => ?_)
  · have h := if_t h c2
    refine m_aload_n (pc := 12) C dX8_type_12 rfl (lv_at hl 0 rfl) ?_
    obtain ⟨q3, h⟩ := ck_some h
    refine G_X8_text (pc := 13) C hM bw_4_234 q3 dX8_type_13 ?_
    refine m_aload_n (pc := 16) C dX8_type_16 rfl (lv_at hl 0 rfl) ?_
    obtain ⟨q4, h⟩ := ck_some h
    have gq4 := Gr_X8_typed hM q4
    refine G_X8_typed (pc := 17) C hM bw_4_233 q4 dX8_type_17 ?_
    refine m_iload_n (pc := 20) C dX8_type_20 rfl (lv_at hl 1 rfl) ?_
    obtain ⟨q5, h⟩ := ck_some h
    obtain ⟨μ6, eμ6, h⟩ := nm_some h
    refine m_cast (pc := 21) C hM q5.1 q5.2.1  q5.2.2.1 q5.2.2.2.1 q5.2.2.2.2 eμ6 dX8_type_21 (fun H locs hM => ?_)
    refine m_aload_n (pc := 22) C dX8_type_22 rfl (lv_at hl 0 rfl) ?_
    refine m_dup (pc := 23) C (vr_cat _ _) dX8_type_23 ?_
    obtain ⟨q7, h⟩ := ck_some h
    have gq7 := Gr_X8_typed hM q7
    refine G_X8_typed (pc := 24) C hM bw_4_233 q7 dX8_type_24 ?_
    refine m_iconst (pc := 27) C dX8_type_27 ?_
    obtain ⟨a8, ea8, h⟩ := nm_some h
    have ra8 : R32 a8 := by rw [ea8]; exact w32_R _
    refine m_iadd (pc := 28) C dX8_type_28 ea8 ?_
    obtain ⟨q9, h⟩ := ck_some h
    obtain ⟨μ10, eμ10, h⟩ := nm_some h
    refine P_X8_typed (pc := 29) C hM bw_4_233 q9 ra8 eμ10 dX8_type_29 (fun H locs hM => ?_)
    refine m_aload_n (pc := 32) C dX8_type_32 rfl (lv_at hl 0 rfl) ?_
    obtain ⟨q11, h⟩ := ck_some h
    have gq11 := Gr_X8_typed hM q11
    refine G_X8_typed (pc := 33) C hM bw_4_233 q11 dX8_type_33 ?_
    cases h
    exact m_iret (pc := 36) C hM gq11 dX8_type_36
  · have h := if_f h c2
    refine m_ldc (n := -100000004) (pc := 9) C bw_5_64 rfl dX8_type_9 ?_
    cases h
    exact m_iret (pc := 11) C hM rk_m100000004 dX8_type_11
theorem hd_X8_type : yX8_type.cls ≠ "java/lang/invoke/MethodHandle" ∧ yX8_type.cls ≠ "java/lang/invoke/VarHandle" ∧ (parseMethodDescriptor yX8_type.desc).map (fun d => d.parameters.length) = some 1 := by decide +kernel

theorem V_X8_type {p : Program} {l : Launch} {e : Env} {R : Room} {s : State} {m : MethodId} {args : Array Value} {below : List Frame} {meth : Method} {c : Code} {H : Heap} {locs : List Loc} {cells slots : Nat} {Q : State → Prop} {cc : ByteArray} {pc nL : Nat} {ls : Array Slot} {rest : List Value} {ret : Option FieldType} {nmm own : String} {E : gE} {μ μ1 : Mm} {index : Nat} (C : gCx p s m args meth c cc nL ret nmm own) (hM : MS E μ s H locs) {N : Nat} {x0 x1 v : Int} (hc : f_X8_type N x0 x1 μ = some (v, μ1)) (rx1 : R32 x1) (hck : μ x0 (-2) = 10) (h1 : Cond.methodLink own index yX8_type ∈ bigL) (hR : 1 ≤ R.frames ∧ 21 ≤ R.locals) (hl : ls.size = nL) (hcat : RC rest 8) (hf : cells + 0 ≤ R.cells ∧ slots + 0 ≤ R.slots) (hdg : decode cc pc = .ok (.invokevirtual index, 3)) (kk : (R32 v) → ∀ (H1 : Heap) (locs1 : List Loc), MS E μ1 s H1 locs1 → W p l e R s m args below meth c H1 locs1 (cells + 0) (slots + 0) Q (F0 m (pc + 3) ls (vi v :: rest))) : W p l e R s m args below meth c H locs cells slots Q (F0 m pc ls (vi x1 :: vr E x0 :: rest)) := g_callV C KF_X8 hM (c_X8_type l E N x0 x1 μ μ1 v hc rx1) hck (gV h1 bw_6_37 bw_6_38 bw_1_13 bw_6_39) ⟨rfl, hd_X8_type⟩ hR rfl hl rfl hcat hf hdg kk
/-! X8_clearText -/
def f_X8_clearText (N : Nat) (x0 : Int) (μ : Mm) : Rs :=
  ck (μ x0 (-2) = 10) <|
  ck (μ x0 (-2) = 10) <|
  nm (mset μ x0 6 0) fun μ3 =>
  some (μ x0 6, μ3)
set_option maxHeartbeats 4000000 in
set_option maxRecDepth 100000 in
theorem c_X8_clearText (l : Launch) (E : gE) (N : Nat) (x0 : Int) (μ μ' : Mm) (r : Int) (h : f_X8_clearText N x0 μ = some (r, μ')) : gMet l E yX8_clearText cX8_clearText 2 (some .int) 0 0 [vr E x0] (some (vi r)) (R32 r) μ μ' 0 0 := by
  refine g_ofW [1] (by first | (simp only [List.map_cons, List.map_nil, vr_cat]; done) | (simp only [List.map_cons, List.map_nil, vr_cat]; rfl)) (by decide) (by decide) (fun p e s m below meth c ls C hM hl => ?_)
  replace C : gCx p s m _ meth c cX8_clearText 2 (some .int) "clearText" RX8 := C
  replace hl : lv_has ls 2 [(0, vr E x0)] := hl
  unfold f_X8_clearText at h
  refine m_aload_n (pc := 0) C dX8_clearText_0 rfl (lv_at hl 0 rfl) ?_
  obtain ⟨q1, h⟩ := ck_some h
  have gq1 := Gr_X8_typed hM q1
  refine G_X8_typed (pc := 1) C hM bw_4_233 q1 dX8_clearText_1 ?_
  refine m_istore_n (pc := 4) C dX8_clearText_4 rfl hl (by decide) (lvK2 0 rfl (Nat.ne_of_beq_eq_false rfl) (vr_cat _ _) lvK0) (fun ls hl => ?_)
  refine m_aload_n (pc := 5) C dX8_clearText_5 rfl (lv_at hl 1 rfl) ?_
  refine m_iconst (pc := 6) C dX8_clearText_6 ?_
  obtain ⟨q2, h⟩ := ck_some h
  obtain ⟨μ3, eμ3, h⟩ := nm_some h
  refine P_X8_typed (pc := 7) C hM bw_4_233 q2 rk_0 eμ3 dX8_clearText_7 (fun H locs hM => ?_)
  refine m_iload_n (pc := 10) C dX8_clearText_10 rfl (lv_at hl 0 rfl) ?_
  cases h
  exact m_iret (pc := 11) C hM gq1 dX8_clearText_11
theorem hd_X8_clearText : yX8_clearText.cls ≠ "java/lang/invoke/MethodHandle" ∧ yX8_clearText.cls ≠ "java/lang/invoke/VarHandle" ∧ (parseMethodDescriptor yX8_clearText.desc).map (fun d => d.parameters.length) = some 0 := by decide +kernel

theorem V_X8_clearText {p : Program} {l : Launch} {e : Env} {R : Room} {s : State} {m : MethodId} {args : Array Value} {below : List Frame} {meth : Method} {c : Code} {H : Heap} {locs : List Loc} {cells slots : Nat} {Q : State → Prop} {cc : ByteArray} {pc nL : Nat} {ls : Array Slot} {rest : List Value} {ret : Option FieldType} {nmm own : String} {E : gE} {μ μ1 : Mm} {index : Nat} (C : gCx p s m args meth c cc nL ret nmm own) (hM : MS E μ s H locs) {N : Nat} {x0 v : Int} (hc : f_X8_clearText N x0 μ = some (v, μ1)) (hck : μ x0 (-2) = 10) (h1 : Cond.methodLink own index yX8_clearText ∈ bigL) (hR : 1 ≤ R.frames ∧ 21 ≤ R.locals) (hl : ls.size = nL) (hcat : RC rest 8) (hf : cells + 0 ≤ R.cells ∧ slots + 0 ≤ R.slots) (hdg : decode cc pc = .ok (.invokevirtual index, 3)) (kk : (R32 v) → ∀ (H1 : Heap) (locs1 : List Loc), MS E μ1 s H1 locs1 → W p l e R s m args below meth c H1 locs1 (cells + 0) (slots + 0) Q (F0 m (pc + 3) ls (vi v :: rest))) : W p l e R s m args below meth c H locs cells slots Q (F0 m pc ls (vr E x0 :: rest)) := g_callV C KF_X8 hM (c_X8_clearText l E N x0 μ μ1 v hc) hck (gV h1 bw_6_41 bw_6_42 bw_1_13 bw_6_43) ⟨rfl, hd_X8_clearText⟩ hR rfl hl rfl hcat hf hdg kk
/-! X8_find -/
def f_X8_find_b62 (N : Nat) (x0 : Int) (μ : Mm) : Rs :=
  ck (μ x0 (-2) = 10) <|
  ck (μ x0 (-2) = 10) <|
  if ¬ (μ x0 9) = (μ x0 8) then
    (ck (μ x0 (-2) = 10) <|
     nm (mset μ x0 10 ((-100000005))) fun μ5 =>
     some (0, μ5))
  else
  ck (μ x0 (-2) = 10) <|
  ck (μ x0 (-2) = 10) <|
  nm (mset μ x0 10 (μ x0 8)) fun μ8 =>
  some (0, μ8)
def f_X8_find_b10 (N : Nat) : Nat → Int → Mm → Rs
  | 0, _, _ => none
  | n + 1, x0, μ =>
    ck (μ x0 (-2) = 10) <|
    ck (μ x0 (-2) = 10) <|
    if (μ x0 6) ≤ (μ x0 9) then
      (f_X8_find_b62 N x0 μ)
    else
    ck (μ x0 (-2) = 10) <|
    ck (μ x0 (-2) = 10) <|
    ck (μ (μ x0 7) (-2) = 22 ∧ (0 : Int) ≤ (μ x0 9) ∧ (μ x0 9) < μ (μ x0 7) (-1)) <|
    if (μ (μ x0 7) (μ x0 9)) = 32 then
      (f_X8_find_b62 N x0 μ)
    else
    ck (μ x0 (-2) = 10) <|
    ck (μ x0 (-2) = 10) <|
    ck (μ (μ x0 7) (-2) = 22 ∧ (0 : Int) ≤ (μ x0 9) ∧ (μ x0 9) < μ (μ x0 7) (-1)) <|
    if (μ (μ x0 7) (μ x0 9)) = 59 then
      (f_X8_find_b62 N x0 μ)
    else
    ck (μ x0 (-2) = 10) <|
    nm (w32 ((μ x0 9) + 1)) fun a13 =>
    ck (μ x0 (-2) = 10) <|
    nm (mset μ x0 9 a13) fun μ15 =>
    f_X8_find_b10 N n x0 μ15
def f_X8_find (N : Nat) (x0 x1 : Int) (μ : Mm) : Rs :=
  ck (μ x0 (-2) = 10) <|
  nm (mset μ x0 8 x1) fun μ2 =>
  ck (μ2 x0 (-2) = 10) <|
  nm (mset μ2 x0 9 x1) fun μ4 =>
  f_X8_find_b10 N N x0 μ4
set_option maxHeartbeats 4000000 in
set_option maxRecDepth 100000 in
theorem k_X8_find_b62 (C : gCx p s m args meth c cX8_find 2 none "find" RX8) (N : Nat) {r : Int} {μ' : Mm} : ∀ (x0 : Int) (μ : Mm), f_X8_find_b62 N x0 μ = some (r, μ') → ∀ (H : Heap) (locs : List Loc) (ls : Array Slot), MS E μ s H locs → lv_has ls 2 [(0, vr E x0)] → W p l e ({ frames := 0, cells := 0, slots := 0, locals := 0 } : Room) s m args below meth c H locs 0 0 (MQ below (gQ E none True μ') args s 0 0 (gA E)) (F0 m 62 ls []) := by
  intro x0 μ h H locs ls hM hl
  unfold f_X8_find_b62 at h
  refine m_aload_n (pc := 62) C dX8_find_62 rfl (lv_at hl 0 rfl) ?_
  refine m_aload_n (pc := 63) C dX8_find_63 rfl (lv_at hl 0 rfl) ?_
  obtain ⟨q1, h⟩ := ck_some h
  have gq1 := Gr_X8_to hM q1
  refine G_X8_to (pc := 64) C hM bw_4_236 q1 dX8_find_64 ?_
  refine m_aload_n (pc := 67) C dX8_find_67 rfl (lv_at hl 0 rfl) ?_
  obtain ⟨q2, h⟩ := ck_some h
  have gq2 := Gr_X8_from hM q2
  refine G_X8_from (pc := 68) C hM bw_4_235 q2 dX8_find_68 ?_
  refine m_icmp_ne (tgt := 81) (pc := 71) C gq1 gq2 dX8_find_71 (by decide) (fun c3 => ?_) (fun c3 => ?_)
  · have h := if_t h c3
    refine m_ldc (n := -100000005) (pc := 81) C bw_5_38 rfl dX8_find_81 ?_
    obtain ⟨q4, h⟩ := ck_some h
    obtain ⟨μ5, eμ5, h⟩ := nm_some h
    refine P_X8_fault (pc := 83) C hM bw_4_237 q4 rk_m100000005 eμ5 dX8_find_83 (fun H locs hM => ?_)
    cases h
    exact m_vret (pc := 86) C hM trivial dX8_find_86
  · have h := if_f h c3
    refine m_aload_n (pc := 74) C dX8_find_74 rfl (lv_at hl 0 rfl) ?_
    obtain ⟨q6, h⟩ := ck_some h
    have gq6 := Gr_X8_from hM q6
    refine G_X8_from (pc := 75) C hM bw_4_235 q6 dX8_find_75 ?_
    refine m_goto (tgt := 83) (pc := 78) C dX8_find_78 (by decide) ?_
    obtain ⟨q7, h⟩ := ck_some h
    obtain ⟨μ8, eμ8, h⟩ := nm_some h
    refine P_X8_fault (pc := 83) C hM bw_4_237 q7 gq6 eμ8 dX8_find_83 (fun H locs hM => ?_)
    cases h
    exact m_vret (pc := 86) C hM trivial dX8_find_86
set_option maxHeartbeats 4000000 in
set_option maxRecDepth 100000 in
theorem k_X8_find_b10 (C : gCx p s m args meth c cX8_find 2 none "find" RX8) (N : Nat) {r : Int} {μ' : Mm} : ∀ (n : Nat), ∀ (x0 : Int) (μ : Mm), f_X8_find_b10 N n x0 μ = some (r, μ') → ∀ (H : Heap) (locs : List Loc) (ls : Array Slot), MS E μ s H locs → lv_has ls 2 [(0, vr E x0)] → W p l e ({ frames := 0, cells := 0, slots := 0, locals := 0 } : Room) s m args below meth c H locs 0 0 (MQ below (gQ E none True μ') args s 0 0 (gA E)) (F0 m 10 ls []) := by
  intro n
  induction n with
  | zero => intro x0 μ h; simp [f_X8_find_b10] at h
  | succ n ih =>
    intro x0 μ h H locs ls hM hl
    rw [f_X8_find_b10] at h
    refine m_aload_n (pc := 10) C dX8_find_10 rfl (lv_at hl 0 rfl) ?_
    obtain ⟨q1, h⟩ := ck_some h
    have gq1 := Gr_X8_to hM q1
    refine G_X8_to (pc := 11) C hM bw_4_236 q1 dX8_find_11 ?_
    refine m_aload_n (pc := 14) C dX8_find_14 rfl (lv_at hl 0 rfl) ?_
    obtain ⟨q2, h⟩ := ck_some h
    have gq2 := Gr_X8_typed hM q2
    refine G_X8_typed (pc := 15) C hM bw_4_233 q2 dX8_find_15 ?_
    refine m_icmp_ge (tgt := 62) (pc := 18) C gq1 gq2 dX8_find_18 (by decide) (fun c3 => ?_) (fun c3 => ?_)
    · have h := if_t h c3
      exact k_X8_find_b62 C N _ _ h _ _ _ hM (lv_sub hl [0] rfl)
    · have h := if_f h c3
      refine m_aload_n (pc := 21) C dX8_find_21 rfl (lv_at hl 0 rfl) ?_
      obtain ⟨q4, h⟩ := ck_some h
      refine G_X8_text (pc := 22) C hM bw_4_234 q4 dX8_find_22 ?_
      refine m_aload_n (pc := 25) C dX8_find_25 rfl (lv_at hl 0 rfl) ?_
      obtain ⟨q5, h⟩ := ck_some h
      have gq5 := Gr_X8_to hM q5
      refine G_X8_to (pc := 26) C hM bw_4_236 q5 dX8_find_26 ?_
      obtain ⟨q6, h⟩ := ck_some h
      have gq6 := Ar_cald hM q6.1 q6.2.1 q6.2.2
      refine m_cald (pc := 29) C hM q6.1 q6.2.1 q6.2.2 dX8_find_29 ?_
      refine m_bipush (pc := 30) C dX8_find_30 rfl ?_
      refine m_icmp_eq (tgt := 62) (pc := 32) C gq6 rk_32 dX8_find_32 (by decide) (fun c7 => ?_) (fun c7 => ?_)
      · have h := if_t h c7
        exact k_X8_find_b62 C N _ _ h _ _ _ hM (lv_sub hl [0] rfl)
      · have h := if_f h c7
        refine m_aload_n (pc := 35) C dX8_find_35 rfl (lv_at hl 0 rfl) ?_
        obtain ⟨q8, h⟩ := ck_some h
        refine G_X8_text (pc := 36) C hM bw_4_234 q8 dX8_find_36 ?_
        refine m_aload_n (pc := 39) C dX8_find_39 rfl (lv_at hl 0 rfl) ?_
        obtain ⟨q9, h⟩ := ck_some h
        have gq9 := Gr_X8_to hM q9
        refine G_X8_to (pc := 40) C hM bw_4_236 q9 dX8_find_40 ?_
        obtain ⟨q10, h⟩ := ck_some h
        have gq10 := Ar_cald hM q10.1 q10.2.1 q10.2.2
        refine m_cald (pc := 43) C hM q10.1 q10.2.1 q10.2.2 dX8_find_43 ?_
        refine m_bipush (pc := 44) C dX8_find_44 rfl ?_
        refine m_icmp_eq (tgt := 62) (pc := 46) C gq10 rk_59 dX8_find_46 (by decide) (fun c11 => ?_) (fun c11 => ?_)
        · have h := if_t h c11
          exact k_X8_find_b62 C N _ _ h _ _ _ hM (lv_sub hl [0] rfl)
        · have h := if_f h c11
          refine m_aload_n (pc := 49) C dX8_find_49 rfl (lv_at hl 0 rfl) ?_
          refine m_dup (pc := 50) C (vr_cat _ _) dX8_find_50 ?_
          obtain ⟨q12, h⟩ := ck_some h
          have gq12 := Gr_X8_to hM q12
          refine G_X8_to (pc := 51) C hM bw_4_236 q12 dX8_find_51 ?_
          refine m_iconst (pc := 54) C dX8_find_54 ?_
          obtain ⟨a13, ea13, h⟩ := nm_some h
          have ra13 : R32 a13 := by rw [ea13]; exact w32_R _
          refine m_iadd (pc := 55) C dX8_find_55 ea13 ?_
          obtain ⟨q14, h⟩ := ck_some h
          obtain ⟨μ15, eμ15, h⟩ := nm_some h
          refine P_X8_to (pc := 56) C hM bw_4_236 q14 ra13 eμ15 dX8_find_56 (fun H locs hM => ?_)
          refine m_goto (tgt := 10) (pc := 59) C dX8_find_59 (by decide) ?_
          exact ih _ _ h _ _ _ hM (lv_sub hl [0] rfl)
set_option maxHeartbeats 4000000 in
set_option maxRecDepth 100000 in
theorem c_X8_find (l : Launch) (E : gE) (N : Nat) (x0 x1 : Int) (μ μ' : Mm) (r : Int) (h : f_X8_find N x0 x1 μ = some (r, μ')) (rx1 : R32 x1) : gMet l E yX8_find cX8_find 2 none 0 0 [vr E x0, vi x1] none True μ μ' 0 0 := by
  refine g_ofW [1, 1] (by first | (simp only [List.map_cons, List.map_nil, vr_cat]; done) | (simp only [List.map_cons, List.map_nil, vr_cat]; rfl)) (by decide) (by decide) (fun p e s m below meth c ls C hM hl => ?_)
  replace C : gCx p s m _ meth c cX8_find 2 none "find" RX8 := C
  replace hl : lv_has ls 2 [(0, vr E x0), (1, vi x1)] := hl
  unfold f_X8_find at h
  refine m_aload_n (pc := 0) C dX8_find_0 rfl (lv_at hl 0 rfl) ?_
  refine m_iload_n (pc := 1) C dX8_find_1 rfl (lv_at hl 1 rfl) ?_
  obtain ⟨q1, h⟩ := ck_some h
  obtain ⟨μ2, eμ2, h⟩ := nm_some h
  refine P_X8_from (pc := 2) C hM bw_4_235 q1 rx1 eμ2 dX8_find_2 (fun H locs hM => ?_)
  refine m_aload_n (pc := 5) C dX8_find_5 rfl (lv_at hl 0 rfl) ?_
  refine m_iload_n (pc := 6) C dX8_find_6 rfl (lv_at hl 1 rfl) ?_
  obtain ⟨q3, h⟩ := ck_some h
  obtain ⟨μ4, eμ4, h⟩ := nm_some h
  refine P_X8_to (pc := 7) C hM bw_4_236 q3 rx1 eμ4 dX8_find_7 (fun H locs hM => ?_)
  exact k_X8_find_b10 C N N _ _ h _ _ _ hM (lv_sub hl [0] rfl)
theorem hd_X8_find : yX8_find.cls ≠ "java/lang/invoke/MethodHandle" ∧ yX8_find.cls ≠ "java/lang/invoke/VarHandle" ∧ (parseMethodDescriptor yX8_find.desc).map (fun d => d.parameters.length) = some 1 := by decide +kernel

theorem V_X8_find {p : Program} {l : Launch} {e : Env} {R : Room} {s : State} {m : MethodId} {args : Array Value} {below : List Frame} {meth : Method} {c : Code} {H : Heap} {locs : List Loc} {cells slots : Nat} {Q : State → Prop} {cc : ByteArray} {pc nL : Nat} {ls : Array Slot} {rest : List Value} {ret : Option FieldType} {nmm own : String} {E : gE} {μ μ1 : Mm} {index : Nat} (C : gCx p s m args meth c cc nL ret nmm own) (hM : MS E μ s H locs) {N : Nat} {x0 x1 v : Int} (hc : f_X8_find N x0 x1 μ = some (v, μ1)) (rx1 : R32 x1) (hck : μ x0 (-2) = 10) (h1 : Cond.methodLink own index yX8_find ∈ bigL) (hR : 1 ≤ R.frames ∧ 21 ≤ R.locals) (hl : ls.size = nL) (hcat : RC rest 8) (hf : cells + 0 ≤ R.cells ∧ slots + 0 ≤ R.slots) (hdg : decode cc pc = .ok (.invokevirtual index, 3)) (kk : True → ∀ (H1 : Heap) (locs1 : List Loc), MS E μ1 s H1 locs1 → W p l e R s m args below meth c H1 locs1 (cells + 0) (slots + 0) Q (F0 m (pc + 3) ls rest)) : W p l e R s m args below meth c H locs cells slots Q (F0 m pc ls (vi x1 :: vr E x0 :: rest)) := g_callV C KF_X8 hM (c_X8_find l E N x0 x1 μ μ1 v hc rx1) hck (gV h1 bw_6_58 bs_58 bw_1_13 bw_6_59) ⟨rfl, hd_X8_find⟩ hR rfl hl rfl hcat hf hdg kk
/-! X8_begins -/
def f_X8_begins (N : Nat) (x0 x1 x2 x3 x4 x5 : Int) (μ : Mm) : Rs :=
  ck (μ x0 (-2) = 10) <|
  ck (μ x0 (-2) = 10) <|
  nm (w32 ((μ x0 9) - (μ x0 8))) fun a3 =>
  if ¬ a3 = x5 then
    (some (0, μ))
  else
  ck (μ x0 (-2) = 10) <|
  ck (μ x0 (-2) = 10) <|
  ck (μ (μ x0 7) (-2) = 22 ∧ (0 : Int) ≤ (μ x0 8) ∧ (μ x0 8) < μ (μ x0 7) (-1)) <|
  if ¬ (μ (μ x0 7) (μ x0 8)) = x1 then
    (some (0, μ))
  else
  ck (μ x0 (-2) = 10) <|
  ck (μ x0 (-2) = 10) <|
  nm (w32 ((μ x0 8) + 1)) fun a11 =>
  ck (μ (μ x0 7) (-2) = 22 ∧ (0 : Int) ≤ a11 ∧ a11 < μ (μ x0 7) (-1)) <|
  if ¬ (μ (μ x0 7) a11) = x2 then
    (some (0, μ))
  else
  ck (μ x0 (-2) = 10) <|
  ck (μ x0 (-2) = 10) <|
  nm (w32 ((μ x0 8) + 2)) fun a16 =>
  ck (μ (μ x0 7) (-2) = 22 ∧ (0 : Int) ≤ a16 ∧ a16 < μ (μ x0 7) (-1)) <|
  if ¬ (μ (μ x0 7) a16) = x3 then
    (some (0, μ))
  else
  ck (μ x0 (-2) = 10) <|
  ck (μ x0 (-2) = 10) <|
  nm (w32 ((μ x0 8) + 3)) fun a21 =>
  ck (μ (μ x0 7) (-2) = 22 ∧ (0 : Int) ≤ a21 ∧ a21 < μ (μ x0 7) (-1)) <|
  if ¬ (μ (μ x0 7) a21) = x4 then
    (some (0, μ))
  else
  some (1, μ)
set_option maxHeartbeats 4000000 in
set_option maxRecDepth 100000 in
theorem c_X8_begins (l : Launch) (E : gE) (N : Nat) (x0 x1 x2 x3 x4 x5 : Int) (μ μ' : Mm) (r : Int) (h : f_X8_begins N x0 x1 x2 x3 x4 x5 μ = some (r, μ')) (rx1 : R32 x1) (rx2 : R32 x2) (rx3 : R32 x3) (rx4 : R32 x4) (rx5 : R32 x5) : gMet l E yX8_begins cX8_begins 6 (some .boolean) 0 0 [vr E x0, vi x1, vi x2, vi x3, vi x4, vi x5] (some (vi r)) (R32 r) μ μ' 0 0 := by
  refine g_ofW [1, 1, 1, 1, 1, 1] (by first | (simp only [List.map_cons, List.map_nil, vr_cat]; done) | (simp only [List.map_cons, List.map_nil, vr_cat]; rfl)) (by decide) (by decide) (fun p e s m below meth c ls C hM hl => ?_)
  replace C : gCx p s m _ meth c cX8_begins 6 (some .boolean) "begins" RX8 := C
  replace hl : lv_has ls 6 [(0, vr E x0), (1, vi x1), (2, vi x2), (3, vi x3), (4, vi x4), (5, vi x5)] := hl
  unfold f_X8_begins at h
  refine m_aload_n (pc := 0) C dX8_begins_0 rfl (lv_at hl 0 rfl) ?_
  obtain ⟨q1, h⟩ := ck_some h
  have gq1 := Gr_X8_to hM q1
  refine G_X8_to (pc := 1) C hM bw_4_236 q1 dX8_begins_1 ?_
  refine m_aload_n (pc := 4) C dX8_begins_4 rfl (lv_at hl 0 rfl) ?_
  obtain ⟨q2, h⟩ := ck_some h
  have gq2 := Gr_X8_from hM q2
  refine G_X8_from (pc := 5) C hM bw_4_235 q2 dX8_begins_5 ?_
  obtain ⟨a3, ea3, h⟩ := nm_some h
  have ra3 : R32 a3 := by rw [ea3]; exact w32_R _
  refine m_isub (pc := 8) C dX8_begins_8 ea3 ?_
  refine m_iload (pc := 9) C dX8_begins_9 (lv_at hl 5 rfl) ?_
  refine m_icmp_ne (tgt := 77) (pc := 11) C ra3 rx5 dX8_begins_11 (by decide) (fun c4 => ?_) (fun c4 => ?_)
  · have h := if_t h c4
    refine m_iconst (pc := 77) C dX8_begins_77 ?_
    cases h
    exact m_zret (pc := 78) C rfl hM rk_0 dX8_begins_78
  · have h := if_f h c4
    refine m_aload_n (pc := 14) C dX8_begins_14 rfl (lv_at hl 0 rfl) ?_
    obtain ⟨q5, h⟩ := ck_some h
    refine G_X8_text (pc := 15) C hM bw_4_234 q5 dX8_begins_15 ?_
    refine m_aload_n (pc := 18) C dX8_begins_18 rfl (lv_at hl 0 rfl) ?_
    obtain ⟨q6, h⟩ := ck_some h
    have gq6 := Gr_X8_from hM q6
    refine G_X8_from (pc := 19) C hM bw_4_235 q6 dX8_begins_19 ?_
    obtain ⟨q7, h⟩ := ck_some h
    have gq7 := Ar_cald hM q7.1 q7.2.1 q7.2.2
    refine m_cald (pc := 22) C hM q7.1 q7.2.1 q7.2.2 dX8_begins_22 ?_
    refine m_iload_n (pc := 23) C dX8_begins_23 rfl (lv_at hl 1 rfl) ?_
    refine m_icmp_ne (tgt := 77) (pc := 24) C gq7 rx1 dX8_begins_24 (by decide) (fun c8 => ?_) (fun c8 => ?_)
    · have h := if_t h c8
      refine m_iconst (pc := 77) C dX8_begins_77 ?_
      cases h
      exact m_zret (pc := 78) C rfl hM rk_0 dX8_begins_78
    · have h := if_f h c8
      refine m_aload_n (pc := 27) C dX8_begins_27 rfl (lv_at hl 0 rfl) ?_
      obtain ⟨q9, h⟩ := ck_some h
      refine G_X8_text (pc := 28) C hM bw_4_234 q9 dX8_begins_28 ?_
      refine m_aload_n (pc := 31) C dX8_begins_31 rfl (lv_at hl 0 rfl) ?_
      obtain ⟨q10, h⟩ := ck_some h
      have gq10 := Gr_X8_from hM q10
      refine G_X8_from (pc := 32) C hM bw_4_235 q10 dX8_begins_32 ?_
      refine m_iconst (pc := 35) C dX8_begins_35 ?_
      obtain ⟨a11, ea11, h⟩ := nm_some h
      have ra11 : R32 a11 := by rw [ea11]; exact w32_R _
      refine m_iadd (pc := 36) C dX8_begins_36 ea11 ?_
      obtain ⟨q12, h⟩ := ck_some h
      have gq12 := Ar_cald hM q12.1 q12.2.1 q12.2.2
      refine m_cald (pc := 37) C hM q12.1 q12.2.1 q12.2.2 dX8_begins_37 ?_
      refine m_iload_n (pc := 38) C dX8_begins_38 rfl (lv_at hl 2 rfl) ?_
      refine m_icmp_ne (tgt := 77) (pc := 39) C gq12 rx2 dX8_begins_39 (by decide) (fun c13 => ?_) (fun c13 => ?_)
      · have h := if_t h c13
        refine m_iconst (pc := 77) C dX8_begins_77 ?_
        cases h
        exact m_zret (pc := 78) C rfl hM rk_0 dX8_begins_78
      · have h := if_f h c13
        refine m_aload_n (pc := 42) C dX8_begins_42 rfl (lv_at hl 0 rfl) ?_
        obtain ⟨q14, h⟩ := ck_some h
        refine G_X8_text (pc := 43) C hM bw_4_234 q14 dX8_begins_43 ?_
        refine m_aload_n (pc := 46) C dX8_begins_46 rfl (lv_at hl 0 rfl) ?_
        obtain ⟨q15, h⟩ := ck_some h
        have gq15 := Gr_X8_from hM q15
        refine G_X8_from (pc := 47) C hM bw_4_235 q15 dX8_begins_47 ?_
        refine m_iconst (pc := 50) C dX8_begins_50 ?_
        obtain ⟨a16, ea16, h⟩ := nm_some h
        have ra16 : R32 a16 := by rw [ea16]; exact w32_R _
        refine m_iadd (pc := 51) C dX8_begins_51 ea16 ?_
        obtain ⟨q17, h⟩ := ck_some h
        have gq17 := Ar_cald hM q17.1 q17.2.1 q17.2.2
        refine m_cald (pc := 52) C hM q17.1 q17.2.1 q17.2.2 dX8_begins_52 ?_
        refine m_iload_n (pc := 53) C dX8_begins_53 rfl (lv_at hl 3 rfl) ?_
        refine m_icmp_ne (tgt := 77) (pc := 54) C gq17 rx3 dX8_begins_54 (by decide) (fun c18 => ?_) (fun c18 => ?_)
        · have h := if_t h c18
          refine m_iconst (pc := 77) C dX8_begins_77 ?_
          cases h
          exact m_zret (pc := 78) C rfl hM rk_0 dX8_begins_78
        · have h := if_f h c18
          refine m_aload_n (pc := 57) C dX8_begins_57 rfl (lv_at hl 0 rfl) ?_
          obtain ⟨q19, h⟩ := ck_some h
          refine G_X8_text (pc := 58) C hM bw_4_234 q19 dX8_begins_58 ?_
          refine m_aload_n (pc := 61) C dX8_begins_61 rfl (lv_at hl 0 rfl) ?_
          obtain ⟨q20, h⟩ := ck_some h
          have gq20 := Gr_X8_from hM q20
          refine G_X8_from (pc := 62) C hM bw_4_235 q20 dX8_begins_62 ?_
          refine m_iconst (pc := 65) C dX8_begins_65 ?_
          obtain ⟨a21, ea21, h⟩ := nm_some h
          have ra21 : R32 a21 := by rw [ea21]; exact w32_R _
          refine m_iadd (pc := 66) C dX8_begins_66 ea21 ?_
          obtain ⟨q22, h⟩ := ck_some h
          have gq22 := Ar_cald hM q22.1 q22.2.1 q22.2.2
          refine m_cald (pc := 67) C hM q22.1 q22.2.1 q22.2.2 dX8_begins_67 ?_
          refine m_iload (pc := 68) C dX8_begins_68 (lv_at hl 4 rfl) ?_
          refine m_icmp_ne (tgt := 77) (pc := 70) C gq22 rx4 dX8_begins_70 (by decide) (fun c23 => ?_) (fun c23 => ?_)
          · have h := if_t h c23
            refine m_iconst (pc := 77) C dX8_begins_77 ?_
            cases h
            exact m_zret (pc := 78) C rfl hM rk_0 dX8_begins_78
          · have h := if_f h c23
            refine m_iconst (pc := 73) C dX8_begins_73 ?_
            refine m_goto (tgt := 78) (pc := 74) C dX8_begins_74 (by decide) ?_
            cases h
            exact m_zret (pc := 78) C rfl hM rk_1 dX8_begins_78
theorem hd_X8_begins : yX8_begins.cls ≠ "java/lang/invoke/MethodHandle" ∧ yX8_begins.cls ≠ "java/lang/invoke/VarHandle" ∧ (parseMethodDescriptor yX8_begins.desc).map (fun d => d.parameters.length) = some 5 := by decide +kernel

theorem V_X8_begins {p : Program} {l : Launch} {e : Env} {R : Room} {s : State} {m : MethodId} {args : Array Value} {below : List Frame} {meth : Method} {c : Code} {H : Heap} {locs : List Loc} {cells slots : Nat} {Q : State → Prop} {cc : ByteArray} {pc nL : Nat} {ls : Array Slot} {rest : List Value} {ret : Option FieldType} {nmm own : String} {E : gE} {μ μ1 : Mm} {index : Nat} (C : gCx p s m args meth c cc nL ret nmm own) (hM : MS E μ s H locs) {N : Nat} {x0 x1 x2 x3 x4 x5 v : Int} (hc : f_X8_begins N x0 x1 x2 x3 x4 x5 μ = some (v, μ1)) (rx1 : R32 x1) (rx2 : R32 x2) (rx3 : R32 x3) (rx4 : R32 x4) (rx5 : R32 x5) (hck : μ x0 (-2) = 10) (h1 : Cond.methodLink own index yX8_begins ∈ bigL) (hR : 1 ≤ R.frames ∧ 25 ≤ R.locals) (hl : ls.size = nL) (hcat : RC rest 8) (hf : cells + 0 ≤ R.cells ∧ slots + 0 ≤ R.slots) (hdg : decode cc pc = .ok (.invokevirtual index, 3)) (kk : (R32 v) → ∀ (H1 : Heap) (locs1 : List Loc), MS E μ1 s H1 locs1 → W p l e R s m args below meth c H1 locs1 (cells + 0) (slots + 0) Q (F0 m (pc + 3) ls (vi v :: rest))) : W p l e R s m args below meth c H locs cells slots Q (F0 m pc ls (vi x5 :: vi x4 :: vi x3 :: vi x2 :: vi x1 :: vr E x0 :: rest)) := g_callV C KF_X8 hM (c_X8_begins l E N x0 x1 x2 x3 x4 x5 μ μ1 v hc rx1 rx2 rx3 rx4 rx5) hck (gV h1 bw_6_66 bs_60 bw_1_13 bw_6_67) ⟨rfl, hd_X8_begins⟩ hR rfl hl rfl hcat hf hdg kk
/-! X8_isAt -/
def f_X8_isAt (N : Nat) (x0 x1 x2 : Int) (μ : Mm) : Rs :=
  ck (μ x0 (-2) = 10) <|
  ck (μ x0 (-2) = 10) <|
  nm (w32 ((μ x0 8) + x1)) fun a3 =>
  ck (μ (μ x0 7) (-2) = 22 ∧ (0 : Int) ≤ a3 ∧ a3 < μ (μ x0 7) (-1)) <|
  if ¬ (μ (μ x0 7) a3) = x2 then
    (some (0, μ))
  else
  some (1, μ)
set_option maxHeartbeats 4000000 in
set_option maxRecDepth 100000 in
theorem c_X8_isAt (l : Launch) (E : gE) (N : Nat) (x0 x1 x2 : Int) (μ μ' : Mm) (r : Int) (h : f_X8_isAt N x0 x1 x2 μ = some (r, μ')) (rx1 : R32 x1) (rx2 : R32 x2) : gMet l E yX8_isAt cX8_isAt 3 (some .boolean) 0 0 [vr E x0, vi x1, vi x2] (some (vi r)) (R32 r) μ μ' 0 0 := by
  refine g_ofW [1, 1, 1] (by first | (simp only [List.map_cons, List.map_nil, vr_cat]; done) | (simp only [List.map_cons, List.map_nil, vr_cat]; rfl)) (by decide) (by decide) (fun p e s m below meth c ls C hM hl => ?_)
  replace C : gCx p s m _ meth c cX8_isAt 3 (some .boolean) "isAt" RX8 := C
  replace hl : lv_has ls 3 [(0, vr E x0), (1, vi x1), (2, vi x2)] := hl
  unfold f_X8_isAt at h
  refine m_aload_n (pc := 0) C dX8_isAt_0 rfl (lv_at hl 0 rfl) ?_
  obtain ⟨q1, h⟩ := ck_some h
  refine G_X8_text (pc := 1) C hM bw_4_234 q1 dX8_isAt_1 ?_
  refine m_aload_n (pc := 4) C dX8_isAt_4 rfl (lv_at hl 0 rfl) ?_
  obtain ⟨q2, h⟩ := ck_some h
  have gq2 := Gr_X8_from hM q2
  refine G_X8_from (pc := 5) C hM bw_4_235 q2 dX8_isAt_5 ?_
  refine m_iload_n (pc := 8) C dX8_isAt_8 rfl (lv_at hl 1 rfl) ?_
  obtain ⟨a3, ea3, h⟩ := nm_some h
  have ra3 : R32 a3 := by rw [ea3]; exact w32_R _
  refine m_iadd (pc := 9) C dX8_isAt_9 ea3 ?_
  obtain ⟨q4, h⟩ := ck_some h
  have gq4 := Ar_cald hM q4.1 q4.2.1 q4.2.2
  refine m_cald (pc := 10) C hM q4.1 q4.2.1 q4.2.2 dX8_isAt_10 ?_
  refine m_iload_n (pc := 11) C dX8_isAt_11 rfl (lv_at hl 2 rfl) ?_
  refine m_icmp_ne (tgt := 19) (pc := 12) C gq4 rx2 dX8_isAt_12 (by decide) (fun c5 => ?_) (fun c5 => ?_)
  · have h := if_t h c5
    refine m_iconst (pc := 19) C dX8_isAt_19 ?_
    cases h
    exact m_zret (pc := 20) C rfl hM rk_0 dX8_isAt_20
  · have h := if_f h c5
    refine m_iconst (pc := 15) C dX8_isAt_15 ?_
    refine m_goto (tgt := 20) (pc := 16) C dX8_isAt_16 (by decide) ?_
    cases h
    exact m_zret (pc := 20) C rfl hM rk_1 dX8_isAt_20
theorem hd_X8_isAt : yX8_isAt.cls ≠ "java/lang/invoke/MethodHandle" ∧ yX8_isAt.cls ≠ "java/lang/invoke/VarHandle" ∧ (parseMethodDescriptor yX8_isAt.desc).map (fun d => d.parameters.length) = some 2 := by decide +kernel

theorem V_X8_isAt {p : Program} {l : Launch} {e : Env} {R : Room} {s : State} {m : MethodId} {args : Array Value} {below : List Frame} {meth : Method} {c : Code} {H : Heap} {locs : List Loc} {cells slots : Nat} {Q : State → Prop} {cc : ByteArray} {pc nL : Nat} {ls : Array Slot} {rest : List Value} {ret : Option FieldType} {nmm own : String} {E : gE} {μ μ1 : Mm} {index : Nat} (C : gCx p s m args meth c cc nL ret nmm own) (hM : MS E μ s H locs) {N : Nat} {x0 x1 x2 v : Int} (hc : f_X8_isAt N x0 x1 x2 μ = some (v, μ1)) (rx1 : R32 x1) (rx2 : R32 x2) (hck : μ x0 (-2) = 10) (h1 : Cond.methodLink own index yX8_isAt ∈ bigL) (hR : 1 ≤ R.frames ∧ 22 ≤ R.locals) (hl : ls.size = nL) (hcat : RC rest 8) (hf : cells + 0 ≤ R.cells ∧ slots + 0 ≤ R.slots) (hdg : decode cc pc = .ok (.invokevirtual index, 3)) (kk : (R32 v) → ∀ (H1 : Heap) (locs1 : List Loc), MS E μ1 s H1 locs1 → W p l e R s m args below meth c H1 locs1 (cells + 0) (slots + 0) Q (F0 m (pc + 3) ls (vi v :: rest))) : W p l e R s m args below meth c H locs cells slots Q (F0 m pc ls (vi x2 :: vi x1 :: vr E x0 :: rest)) := g_callV C KF_X8 hM (c_X8_isAt l E N x0 x1 x2 μ μ1 v hc rx1 rx2) hck (gV h1 bw_6_70 bs_61 bw_1_13 bw_6_71) ⟨rfl, hd_X8_isAt⟩ hR rfl hl rfl hcat hf hdg kk
/-! X8_word -/
def f_X8_word_b234 (N : Nat) (x0 : Int) (μ : Mm) : Rs :=
  ck (μ x0 (-2) = 10) <|
  bd (f_X8_begins N x0 103 105 118 101 4 μ) fun a2 μ3 =>
  if a2 = 0 then
    (ck (μ3 x0 (-2) = 10) <|
     bd (f_X8_begins N x0 100 97 121 115 4 μ3) fun a6 μ7 =>
     if a6 = 0 then
       (some ((-100000005), μ7))
     else
     some (7, μ7))
  else
  some (6, μ3)
def f_X8_word_b184 (N : Nat) (x0 : Int) (μ : Mm) : Rs :=
  ck (μ x0 (-2) = 10) <|
  bd (f_X8_begins N x0 100 101 115 116 7 μ) fun a2 μ3 =>
  if a2 = 0 then
    (f_X8_word_b234 N x0 μ3)
  else
  ck (μ3 x0 (-2) = 10) <|
  bd (f_X8_isAt N x0 4 114 μ3) fun a6 μ7 =>
  if a6 = 0 then
    (f_X8_word_b234 N x0 μ7)
  else
  ck (μ7 x0 (-2) = 10) <|
  bd (f_X8_isAt N x0 5 111 μ7) fun a10 μ11 =>
  if a10 = 0 then
    (f_X8_word_b234 N x0 μ11)
  else
  ck (μ11 x0 (-2) = 10) <|
  bd (f_X8_isAt N x0 6 121 μ11) fun a14 μ15 =>
  if a14 = 0 then
    (f_X8_word_b234 N x0 μ15)
  else
  some (5, μ15)
def f_X8_word_b156 (N : Nat) (x0 : Int) (μ : Mm) : Rs :=
  ck (μ x0 (-2) = 10) <|
  bd (f_X8_begins N x0 112 114 111 118 5 μ) fun a2 μ3 =>
  if a2 = 0 then
    (f_X8_word_b184 N x0 μ3)
  else
  ck (μ3 x0 (-2) = 10) <|
  bd (f_X8_isAt N x0 4 101 μ3) fun a6 μ7 =>
  if a6 = 0 then
    (f_X8_word_b184 N x0 μ7)
  else
  some (4, μ7)
def f_X8_word_b117 (N : Nat) (x0 : Int) (μ : Mm) : Rs :=
  ck (μ x0 (-2) = 10) <|
  bd (f_X8_begins N x0 101 120 112 111 6 μ) fun a2 μ3 =>
  if a2 = 0 then
    (f_X8_word_b156 N x0 μ3)
  else
  ck (μ3 x0 (-2) = 10) <|
  bd (f_X8_isAt N x0 4 114 μ3) fun a6 μ7 =>
  if a6 = 0 then
    (f_X8_word_b156 N x0 μ7)
  else
  ck (μ7 x0 (-2) = 10) <|
  bd (f_X8_isAt N x0 5 116 μ7) fun a10 μ11 =>
  if a10 = 0 then
    (f_X8_word_b156 N x0 μ11)
  else
  some (3, μ11)
def f_X8_word_b78 (N : Nat) (x0 : Int) (μ : Mm) : Rs :=
  ck (μ x0 (-2) = 10) <|
  bd (f_X8_begins N x0 115 97 109 112 6 μ) fun a2 μ3 =>
  if a2 = 0 then
    (f_X8_word_b117 N x0 μ3)
  else
  ck (μ3 x0 (-2) = 10) <|
  bd (f_X8_isAt N x0 4 108 μ3) fun a6 μ7 =>
  if a6 = 0 then
    (f_X8_word_b117 N x0 μ7)
  else
  ck (μ7 x0 (-2) = 10) <|
  bd (f_X8_isAt N x0 5 101 μ7) fun a10 μ11 =>
  if a10 = 0 then
    (f_X8_word_b117 N x0 μ11)
  else
  some (2, μ11)
def f_X8_word_b28 (N : Nat) (x0 : Int) (μ : Mm) : Rs :=
  ck (μ x0 (-2) = 10) <|
  bd (f_X8_begins N x0 114 101 108 101 7 μ) fun a2 μ3 =>
  if a2 = 0 then
    (f_X8_word_b78 N x0 μ3)
  else
  ck (μ3 x0 (-2) = 10) <|
  bd (f_X8_isAt N x0 4 97 μ3) fun a6 μ7 =>
  if a6 = 0 then
    (f_X8_word_b78 N x0 μ7)
  else
  ck (μ7 x0 (-2) = 10) <|
  bd (f_X8_isAt N x0 5 115 μ7) fun a10 μ11 =>
  if a10 = 0 then
    (f_X8_word_b78 N x0 μ11)
  else
  ck (μ11 x0 (-2) = 10) <|
  bd (f_X8_isAt N x0 6 101 μ11) fun a14 μ15 =>
  if a14 = 0 then
    (f_X8_word_b78 N x0 μ15)
  else
  some (1, μ15)
def f_X8_word (N : Nat) (x0 : Int) (μ : Mm) : Rs :=
  ck (μ x0 (-2) = 10) <|
  bd (f_X8_begins N x0 101 110 116 101 5 μ) fun a2 μ3 =>
  if a2 = 0 then
    (f_X8_word_b28 N x0 μ3)
  else
  ck (μ3 x0 (-2) = 10) <|
  bd (f_X8_isAt N x0 4 114 μ3) fun a6 μ7 =>
  if a6 = 0 then
    (f_X8_word_b28 N x0 μ7)
  else
  some (0, μ7)
set_option maxHeartbeats 4000000 in
set_option maxRecDepth 100000 in
theorem k_X8_word_b234 (C : gCx p s m args meth c cX8_word 1 (some .int) "word" RX8) (N : Nat) {r : Int} {μ' : Mm} : ∀ (x0 : Int) (μ : Mm), f_X8_word_b234 N x0 μ = some (r, μ') → ∀ (H : Heap) (locs : List Loc) (ls : Array Slot), MS E μ s H locs → lv_has ls 1 [(0, vr E x0)] → W p l e ({ frames := 1, cells := 0, slots := 0, locals := 25 } : Room) s m args below meth c H locs 0 0 (MQ below (gQ E (some (vi r)) (R32 r) μ') args s 0 0 (gA E)) (F0 m 234 ls []) := by
  intro x0 μ h H locs ls hM hl
  unfold f_X8_word_b234 at h
  refine m_aload_n (pc := 234) C dX8_word_234 rfl (lv_at hl 0 rfl) ?_
  refine m_bipush (pc := 235) C dX8_word_235 rfl ?_
  refine m_bipush (pc := 237) C dX8_word_237 rfl ?_
  refine m_bipush (pc := 239) C dX8_word_239 rfl ?_
  refine m_bipush (pc := 241) C dX8_word_241 rfl ?_
  refine m_iconst (pc := 243) C dX8_word_243 ?_
  obtain ⟨q1, h⟩ := ck_some h
  obtain ⟨a2, μ3, ca2, h⟩ := bd_some h
  refine V_X8_begins (pc := 244) C hM ca2 rk_103 rk_105 rk_118 rk_101 rk_4 q1 bw_6_64 ⟨Nat.le_of_ble_eq_true rfl, Nat.le_of_ble_eq_true rfl⟩ hl.1 rc0 ⟨Nat.le_refl _, Nat.le_refl _⟩ dX8_word_244 (fun ra2 H locs hM => ?_)
  refine m_if_eq (tgt := 255) (pc := 247) C ra2 dX8_word_247 (by decide) (fun c4 => ?_) (fun c4 => ?_)
  · have h := if_t h c4
    refine m_aload_n (pc := 255) C dX8_word_255 rfl (lv_at hl 0 rfl) ?_
    refine m_bipush (pc := 256) C dX8_word_256 rfl ?_
    refine m_bipush (pc := 258) C dX8_word_258 rfl ?_
    refine m_bipush (pc := 260) C dX8_word_260 rfl ?_
    refine m_bipush (pc := 262) C dX8_word_262 rfl ?_
    refine m_iconst (pc := 264) C dX8_word_264 ?_
    obtain ⟨q5, h⟩ := ck_some h
    obtain ⟨a6, μ7, ca6, h⟩ := bd_some h
    refine V_X8_begins (pc := 265) C hM ca6 rk_100 rk_97 rk_121 rk_115 rk_4 q5 bw_6_64 ⟨Nat.le_of_ble_eq_true rfl, Nat.le_of_ble_eq_true rfl⟩ hl.1 rc0 ⟨Nat.le_refl _, Nat.le_refl _⟩ dX8_word_265 (fun ra6 H locs hM => ?_)
    refine m_if_eq (tgt := 276) (pc := 268) C ra6 dX8_word_268 (by decide) (fun c8 => ?_) (fun c8 => ?_)
    · have h := if_t h c8
      refine m_ldc (n := -100000005) (pc := 276) C bw_5_38 rfl dX8_word_276 ?_
      cases h
      exact m_iret (pc := 278) C hM rk_m100000005 dX8_word_278
    · have h := if_f h c8
      refine m_bipush (pc := 271) C dX8_word_271 rfl ?_
      refine m_goto (tgt := 278) (pc := 273) C dX8_word_273 (by decide) ?_
      cases h
      exact m_iret (pc := 278) C hM rk_7 dX8_word_278
  · have h := if_f h c4
    refine m_bipush (pc := 250) C dX8_word_250 rfl ?_
    refine m_goto (tgt := 278) (pc := 252) C dX8_word_252 (by decide) ?_
    cases h
    exact m_iret (pc := 278) C hM rk_6 dX8_word_278
set_option maxHeartbeats 4000000 in
set_option maxRecDepth 100000 in
theorem k_X8_word_b184 (C : gCx p s m args meth c cX8_word 1 (some .int) "word" RX8) (N : Nat) {r : Int} {μ' : Mm} : ∀ (x0 : Int) (μ : Mm), f_X8_word_b184 N x0 μ = some (r, μ') → ∀ (H : Heap) (locs : List Loc) (ls : Array Slot), MS E μ s H locs → lv_has ls 1 [(0, vr E x0)] → W p l e ({ frames := 1, cells := 0, slots := 0, locals := 25 } : Room) s m args below meth c H locs 0 0 (MQ below (gQ E (some (vi r)) (R32 r) μ') args s 0 0 (gA E)) (F0 m 184 ls []) := by
  intro x0 μ h H locs ls hM hl
  unfold f_X8_word_b184 at h
  refine m_aload_n (pc := 184) C dX8_word_184 rfl (lv_at hl 0 rfl) ?_
  refine m_bipush (pc := 185) C dX8_word_185 rfl ?_
  refine m_bipush (pc := 187) C dX8_word_187 rfl ?_
  refine m_bipush (pc := 189) C dX8_word_189 rfl ?_
  refine m_bipush (pc := 191) C dX8_word_191 rfl ?_
  refine m_bipush (pc := 193) C dX8_word_193 rfl ?_
  obtain ⟨q1, h⟩ := ck_some h
  obtain ⟨a2, μ3, ca2, h⟩ := bd_some h
  refine V_X8_begins (pc := 195) C hM ca2 rk_100 rk_101 rk_115 rk_116 rk_7 q1 bw_6_64 ⟨Nat.le_of_ble_eq_true rfl, Nat.le_of_ble_eq_true rfl⟩ hl.1 rc0 ⟨Nat.le_refl _, Nat.le_refl _⟩ dX8_word_195 (fun ra2 H locs hM => ?_)
  refine m_if_eq (tgt := 234) (pc := 198) C ra2 dX8_word_198 (by decide) (fun c4 => ?_) (fun c4 => ?_)
  · have h := if_t h c4
    exact k_X8_word_b234 C N _ _ h _ _ _ hM (lv_sub hl [0] rfl)
  · have h := if_f h c4
    refine m_aload_n (pc := 201) C dX8_word_201 rfl (lv_at hl 0 rfl) ?_
    refine m_iconst (pc := 202) C dX8_word_202 ?_
    refine m_bipush (pc := 203) C dX8_word_203 rfl ?_
    obtain ⟨q5, h⟩ := ck_some h
    obtain ⟨a6, μ7, ca6, h⟩ := bd_some h
    refine V_X8_isAt (pc := 205) C hM ca6 rk_4 rk_114 q5 bw_6_68 ⟨Nat.le_of_ble_eq_true rfl, Nat.le_of_ble_eq_true rfl⟩ hl.1 rc0 ⟨Nat.le_refl _, Nat.le_refl _⟩ dX8_word_205 (fun ra6 H locs hM => ?_)
    refine m_if_eq (tgt := 234) (pc := 208) C ra6 dX8_word_208 (by decide) (fun c8 => ?_) (fun c8 => ?_)
    · have h := if_t h c8
      exact k_X8_word_b234 C N _ _ h _ _ _ hM (lv_sub hl [0] rfl)
    · have h := if_f h c8
      refine m_aload_n (pc := 211) C dX8_word_211 rfl (lv_at hl 0 rfl) ?_
      refine m_iconst (pc := 212) C dX8_word_212 ?_
      refine m_bipush (pc := 213) C dX8_word_213 rfl ?_
      obtain ⟨q9, h⟩ := ck_some h
      obtain ⟨a10, μ11, ca10, h⟩ := bd_some h
      refine V_X8_isAt (pc := 215) C hM ca10 rk_5 rk_111 q9 bw_6_68 ⟨Nat.le_of_ble_eq_true rfl, Nat.le_of_ble_eq_true rfl⟩ hl.1 rc0 ⟨Nat.le_refl _, Nat.le_refl _⟩ dX8_word_215 (fun ra10 H locs hM => ?_)
      refine m_if_eq (tgt := 234) (pc := 218) C ra10 dX8_word_218 (by decide) (fun c12 => ?_) (fun c12 => ?_)
      · have h := if_t h c12
        exact k_X8_word_b234 C N _ _ h _ _ _ hM (lv_sub hl [0] rfl)
      · have h := if_f h c12
        refine m_aload_n (pc := 221) C dX8_word_221 rfl (lv_at hl 0 rfl) ?_
        refine m_bipush (pc := 222) C dX8_word_222 rfl ?_
        refine m_bipush (pc := 224) C dX8_word_224 rfl ?_
        obtain ⟨q13, h⟩ := ck_some h
        obtain ⟨a14, μ15, ca14, h⟩ := bd_some h
        refine V_X8_isAt (pc := 226) C hM ca14 rk_6 rk_121 q13 bw_6_68 ⟨Nat.le_of_ble_eq_true rfl, Nat.le_of_ble_eq_true rfl⟩ hl.1 rc0 ⟨Nat.le_refl _, Nat.le_refl _⟩ dX8_word_226 (fun ra14 H locs hM => ?_)
        refine m_if_eq (tgt := 234) (pc := 229) C ra14 dX8_word_229 (by decide) (fun c16 => ?_) (fun c16 => ?_)
        · have h := if_t h c16
          exact k_X8_word_b234 C N _ _ h _ _ _ hM (lv_sub hl [0] rfl)
        · have h := if_f h c16
          refine m_iconst (pc := 232) C dX8_word_232 ?_
          cases h
          exact m_iret (pc := 233) C hM rk_5 dX8_word_233
set_option maxHeartbeats 4000000 in
set_option maxRecDepth 100000 in
theorem k_X8_word_b156 (C : gCx p s m args meth c cX8_word 1 (some .int) "word" RX8) (N : Nat) {r : Int} {μ' : Mm} : ∀ (x0 : Int) (μ : Mm), f_X8_word_b156 N x0 μ = some (r, μ') → ∀ (H : Heap) (locs : List Loc) (ls : Array Slot), MS E μ s H locs → lv_has ls 1 [(0, vr E x0)] → W p l e ({ frames := 1, cells := 0, slots := 0, locals := 25 } : Room) s m args below meth c H locs 0 0 (MQ below (gQ E (some (vi r)) (R32 r) μ') args s 0 0 (gA E)) (F0 m 156 ls []) := by
  intro x0 μ h H locs ls hM hl
  unfold f_X8_word_b156 at h
  refine m_aload_n (pc := 156) C dX8_word_156 rfl (lv_at hl 0 rfl) ?_
  refine m_bipush (pc := 157) C dX8_word_157 rfl ?_
  refine m_bipush (pc := 159) C dX8_word_159 rfl ?_
  refine m_bipush (pc := 161) C dX8_word_161 rfl ?_
  refine m_bipush (pc := 163) C dX8_word_163 rfl ?_
  refine m_iconst (pc := 165) C dX8_word_165 ?_
  obtain ⟨q1, h⟩ := ck_some h
  obtain ⟨a2, μ3, ca2, h⟩ := bd_some h
  refine V_X8_begins (pc := 166) C hM ca2 rk_112 rk_114 rk_111 rk_118 rk_5 q1 bw_6_64 ⟨Nat.le_of_ble_eq_true rfl, Nat.le_of_ble_eq_true rfl⟩ hl.1 rc0 ⟨Nat.le_refl _, Nat.le_refl _⟩ dX8_word_166 (fun ra2 H locs hM => ?_)
  refine m_if_eq (tgt := 184) (pc := 169) C ra2 dX8_word_169 (by decide) (fun c4 => ?_) (fun c4 => ?_)
  · have h := if_t h c4
    exact k_X8_word_b184 C N _ _ h _ _ _ hM (lv_sub hl [0] rfl)
  · have h := if_f h c4
    refine m_aload_n (pc := 172) C dX8_word_172 rfl (lv_at hl 0 rfl) ?_
    refine m_iconst (pc := 173) C dX8_word_173 ?_
    refine m_bipush (pc := 174) C dX8_word_174 rfl ?_
    obtain ⟨q5, h⟩ := ck_some h
    obtain ⟨a6, μ7, ca6, h⟩ := bd_some h
    refine V_X8_isAt (pc := 176) C hM ca6 rk_4 rk_101 q5 bw_6_68 ⟨Nat.le_of_ble_eq_true rfl, Nat.le_of_ble_eq_true rfl⟩ hl.1 rc0 ⟨Nat.le_refl _, Nat.le_refl _⟩ dX8_word_176 (fun ra6 H locs hM => ?_)
    refine m_if_eq (tgt := 184) (pc := 179) C ra6 dX8_word_179 (by decide) (fun c8 => ?_) (fun c8 => ?_)
    · have h := if_t h c8
      exact k_X8_word_b184 C N _ _ h _ _ _ hM (lv_sub hl [0] rfl)
    · have h := if_f h c8
      refine m_iconst (pc := 182) C dX8_word_182 ?_
      cases h
      exact m_iret (pc := 183) C hM rk_4 dX8_word_183
set_option maxHeartbeats 4000000 in
set_option maxRecDepth 100000 in
theorem k_X8_word_b117 (C : gCx p s m args meth c cX8_word 1 (some .int) "word" RX8) (N : Nat) {r : Int} {μ' : Mm} : ∀ (x0 : Int) (μ : Mm), f_X8_word_b117 N x0 μ = some (r, μ') → ∀ (H : Heap) (locs : List Loc) (ls : Array Slot), MS E μ s H locs → lv_has ls 1 [(0, vr E x0)] → W p l e ({ frames := 1, cells := 0, slots := 0, locals := 25 } : Room) s m args below meth c H locs 0 0 (MQ below (gQ E (some (vi r)) (R32 r) μ') args s 0 0 (gA E)) (F0 m 117 ls []) := by
  intro x0 μ h H locs ls hM hl
  unfold f_X8_word_b117 at h
  refine m_aload_n (pc := 117) C dX8_word_117 rfl (lv_at hl 0 rfl) ?_
  refine m_bipush (pc := 118) C dX8_word_118 rfl ?_
  refine m_bipush (pc := 120) C dX8_word_120 rfl ?_
  refine m_bipush (pc := 122) C dX8_word_122 rfl ?_
  refine m_bipush (pc := 124) C dX8_word_124 rfl ?_
  refine m_bipush (pc := 126) C dX8_word_126 rfl ?_
  obtain ⟨q1, h⟩ := ck_some h
  obtain ⟨a2, μ3, ca2, h⟩ := bd_some h
  refine V_X8_begins (pc := 128) C hM ca2 rk_101 rk_120 rk_112 rk_111 rk_6 q1 bw_6_64 ⟨Nat.le_of_ble_eq_true rfl, Nat.le_of_ble_eq_true rfl⟩ hl.1 rc0 ⟨Nat.le_refl _, Nat.le_refl _⟩ dX8_word_128 (fun ra2 H locs hM => ?_)
  refine m_if_eq (tgt := 156) (pc := 131) C ra2 dX8_word_131 (by decide) (fun c4 => ?_) (fun c4 => ?_)
  · have h := if_t h c4
    exact k_X8_word_b156 C N _ _ h _ _ _ hM (lv_sub hl [0] rfl)
  · have h := if_f h c4
    refine m_aload_n (pc := 134) C dX8_word_134 rfl (lv_at hl 0 rfl) ?_
    refine m_iconst (pc := 135) C dX8_word_135 ?_
    refine m_bipush (pc := 136) C dX8_word_136 rfl ?_
    obtain ⟨q5, h⟩ := ck_some h
    obtain ⟨a6, μ7, ca6, h⟩ := bd_some h
    refine V_X8_isAt (pc := 138) C hM ca6 rk_4 rk_114 q5 bw_6_68 ⟨Nat.le_of_ble_eq_true rfl, Nat.le_of_ble_eq_true rfl⟩ hl.1 rc0 ⟨Nat.le_refl _, Nat.le_refl _⟩ dX8_word_138 (fun ra6 H locs hM => ?_)
    refine m_if_eq (tgt := 156) (pc := 141) C ra6 dX8_word_141 (by decide) (fun c8 => ?_) (fun c8 => ?_)
    · have h := if_t h c8
      exact k_X8_word_b156 C N _ _ h _ _ _ hM (lv_sub hl [0] rfl)
    · have h := if_f h c8
      refine m_aload_n (pc := 144) C dX8_word_144 rfl (lv_at hl 0 rfl) ?_
      refine m_iconst (pc := 145) C dX8_word_145 ?_
      refine m_bipush (pc := 146) C dX8_word_146 rfl ?_
      obtain ⟨q9, h⟩ := ck_some h
      obtain ⟨a10, μ11, ca10, h⟩ := bd_some h
      refine V_X8_isAt (pc := 148) C hM ca10 rk_5 rk_116 q9 bw_6_68 ⟨Nat.le_of_ble_eq_true rfl, Nat.le_of_ble_eq_true rfl⟩ hl.1 rc0 ⟨Nat.le_refl _, Nat.le_refl _⟩ dX8_word_148 (fun ra10 H locs hM => ?_)
      refine m_if_eq (tgt := 156) (pc := 151) C ra10 dX8_word_151 (by decide) (fun c12 => ?_) (fun c12 => ?_)
      · have h := if_t h c12
        exact k_X8_word_b156 C N _ _ h _ _ _ hM (lv_sub hl [0] rfl)
      · have h := if_f h c12
        refine m_iconst (pc := 154) C dX8_word_154 ?_
        cases h
        exact m_iret (pc := 155) C hM rk_3 dX8_word_155
set_option maxHeartbeats 4000000 in
set_option maxRecDepth 100000 in
theorem k_X8_word_b78 (C : gCx p s m args meth c cX8_word 1 (some .int) "word" RX8) (N : Nat) {r : Int} {μ' : Mm} : ∀ (x0 : Int) (μ : Mm), f_X8_word_b78 N x0 μ = some (r, μ') → ∀ (H : Heap) (locs : List Loc) (ls : Array Slot), MS E μ s H locs → lv_has ls 1 [(0, vr E x0)] → W p l e ({ frames := 1, cells := 0, slots := 0, locals := 25 } : Room) s m args below meth c H locs 0 0 (MQ below (gQ E (some (vi r)) (R32 r) μ') args s 0 0 (gA E)) (F0 m 78 ls []) := by
  intro x0 μ h H locs ls hM hl
  unfold f_X8_word_b78 at h
  refine m_aload_n (pc := 78) C dX8_word_78 rfl (lv_at hl 0 rfl) ?_
  refine m_bipush (pc := 79) C dX8_word_79 rfl ?_
  refine m_bipush (pc := 81) C dX8_word_81 rfl ?_
  refine m_bipush (pc := 83) C dX8_word_83 rfl ?_
  refine m_bipush (pc := 85) C dX8_word_85 rfl ?_
  refine m_bipush (pc := 87) C dX8_word_87 rfl ?_
  obtain ⟨q1, h⟩ := ck_some h
  obtain ⟨a2, μ3, ca2, h⟩ := bd_some h
  refine V_X8_begins (pc := 89) C hM ca2 rk_115 rk_97 rk_109 rk_112 rk_6 q1 bw_6_64 ⟨Nat.le_of_ble_eq_true rfl, Nat.le_of_ble_eq_true rfl⟩ hl.1 rc0 ⟨Nat.le_refl _, Nat.le_refl _⟩ dX8_word_89 (fun ra2 H locs hM => ?_)
  refine m_if_eq (tgt := 117) (pc := 92) C ra2 dX8_word_92 (by decide) (fun c4 => ?_) (fun c4 => ?_)
  · have h := if_t h c4
    exact k_X8_word_b117 C N _ _ h _ _ _ hM (lv_sub hl [0] rfl)
  · have h := if_f h c4
    refine m_aload_n (pc := 95) C dX8_word_95 rfl (lv_at hl 0 rfl) ?_
    refine m_iconst (pc := 96) C dX8_word_96 ?_
    refine m_bipush (pc := 97) C dX8_word_97 rfl ?_
    obtain ⟨q5, h⟩ := ck_some h
    obtain ⟨a6, μ7, ca6, h⟩ := bd_some h
    refine V_X8_isAt (pc := 99) C hM ca6 rk_4 rk_108 q5 bw_6_68 ⟨Nat.le_of_ble_eq_true rfl, Nat.le_of_ble_eq_true rfl⟩ hl.1 rc0 ⟨Nat.le_refl _, Nat.le_refl _⟩ dX8_word_99 (fun ra6 H locs hM => ?_)
    refine m_if_eq (tgt := 117) (pc := 102) C ra6 dX8_word_102 (by decide) (fun c8 => ?_) (fun c8 => ?_)
    · have h := if_t h c8
      exact k_X8_word_b117 C N _ _ h _ _ _ hM (lv_sub hl [0] rfl)
    · have h := if_f h c8
      refine m_aload_n (pc := 105) C dX8_word_105 rfl (lv_at hl 0 rfl) ?_
      refine m_iconst (pc := 106) C dX8_word_106 ?_
      refine m_bipush (pc := 107) C dX8_word_107 rfl ?_
      obtain ⟨q9, h⟩ := ck_some h
      obtain ⟨a10, μ11, ca10, h⟩ := bd_some h
      refine V_X8_isAt (pc := 109) C hM ca10 rk_5 rk_101 q9 bw_6_68 ⟨Nat.le_of_ble_eq_true rfl, Nat.le_of_ble_eq_true rfl⟩ hl.1 rc0 ⟨Nat.le_refl _, Nat.le_refl _⟩ dX8_word_109 (fun ra10 H locs hM => ?_)
      refine m_if_eq (tgt := 117) (pc := 112) C ra10 dX8_word_112 (by decide) (fun c12 => ?_) (fun c12 => ?_)
      · have h := if_t h c12
        exact k_X8_word_b117 C N _ _ h _ _ _ hM (lv_sub hl [0] rfl)
      · have h := if_f h c12
        refine m_iconst (pc := 115) C dX8_word_115 ?_
        cases h
        exact m_iret (pc := 116) C hM rk_2 dX8_word_116
set_option maxHeartbeats 4000000 in
set_option maxRecDepth 100000 in
theorem k_X8_word_b28 (C : gCx p s m args meth c cX8_word 1 (some .int) "word" RX8) (N : Nat) {r : Int} {μ' : Mm} : ∀ (x0 : Int) (μ : Mm), f_X8_word_b28 N x0 μ = some (r, μ') → ∀ (H : Heap) (locs : List Loc) (ls : Array Slot), MS E μ s H locs → lv_has ls 1 [(0, vr E x0)] → W p l e ({ frames := 1, cells := 0, slots := 0, locals := 25 } : Room) s m args below meth c H locs 0 0 (MQ below (gQ E (some (vi r)) (R32 r) μ') args s 0 0 (gA E)) (F0 m 28 ls []) := by
  intro x0 μ h H locs ls hM hl
  unfold f_X8_word_b28 at h
  refine m_aload_n (pc := 28) C dX8_word_28 rfl (lv_at hl 0 rfl) ?_
  refine m_bipush (pc := 29) C dX8_word_29 rfl ?_
  refine m_bipush (pc := 31) C dX8_word_31 rfl ?_
  refine m_bipush (pc := 33) C dX8_word_33 rfl ?_
  refine m_bipush (pc := 35) C dX8_word_35 rfl ?_
  refine m_bipush (pc := 37) C dX8_word_37 rfl ?_
  obtain ⟨q1, h⟩ := ck_some h
  obtain ⟨a2, μ3, ca2, h⟩ := bd_some h
  refine V_X8_begins (pc := 39) C hM ca2 rk_114 rk_101 rk_108 rk_101 rk_7 q1 bw_6_64 ⟨Nat.le_of_ble_eq_true rfl, Nat.le_of_ble_eq_true rfl⟩ hl.1 rc0 ⟨Nat.le_refl _, Nat.le_refl _⟩ dX8_word_39 (fun ra2 H locs hM => ?_)
  refine m_if_eq (tgt := 78) (pc := 42) C ra2 dX8_word_42 (by decide) (fun c4 => ?_) (fun c4 => ?_)
  · have h := if_t h c4
    exact k_X8_word_b78 C N _ _ h _ _ _ hM (lv_sub hl [0] rfl)
  · have h := if_f h c4
    refine m_aload_n (pc := 45) C dX8_word_45 rfl (lv_at hl 0 rfl) ?_
    refine m_iconst (pc := 46) C dX8_word_46 ?_
    refine m_bipush (pc := 47) C dX8_word_47 rfl ?_
    obtain ⟨q5, h⟩ := ck_some h
    obtain ⟨a6, μ7, ca6, h⟩ := bd_some h
    refine V_X8_isAt (pc := 49) C hM ca6 rk_4 rk_97 q5 bw_6_68 ⟨Nat.le_of_ble_eq_true rfl, Nat.le_of_ble_eq_true rfl⟩ hl.1 rc0 ⟨Nat.le_refl _, Nat.le_refl _⟩ dX8_word_49 (fun ra6 H locs hM => ?_)
    refine m_if_eq (tgt := 78) (pc := 52) C ra6 dX8_word_52 (by decide) (fun c8 => ?_) (fun c8 => ?_)
    · have h := if_t h c8
      exact k_X8_word_b78 C N _ _ h _ _ _ hM (lv_sub hl [0] rfl)
    · have h := if_f h c8
      refine m_aload_n (pc := 55) C dX8_word_55 rfl (lv_at hl 0 rfl) ?_
      refine m_iconst (pc := 56) C dX8_word_56 ?_
      refine m_bipush (pc := 57) C dX8_word_57 rfl ?_
      obtain ⟨q9, h⟩ := ck_some h
      obtain ⟨a10, μ11, ca10, h⟩ := bd_some h
      refine V_X8_isAt (pc := 59) C hM ca10 rk_5 rk_115 q9 bw_6_68 ⟨Nat.le_of_ble_eq_true rfl, Nat.le_of_ble_eq_true rfl⟩ hl.1 rc0 ⟨Nat.le_refl _, Nat.le_refl _⟩ dX8_word_59 (fun ra10 H locs hM => ?_)
      refine m_if_eq (tgt := 78) (pc := 62) C ra10 dX8_word_62 (by decide) (fun c12 => ?_) (fun c12 => ?_)
      · have h := if_t h c12
        exact k_X8_word_b78 C N _ _ h _ _ _ hM (lv_sub hl [0] rfl)
      · have h := if_f h c12
        refine m_aload_n (pc := 65) C dX8_word_65 rfl (lv_at hl 0 rfl) ?_
        refine m_bipush (pc := 66) C dX8_word_66 rfl ?_
        refine m_bipush (pc := 68) C dX8_word_68 rfl ?_
        obtain ⟨q13, h⟩ := ck_some h
        obtain ⟨a14, μ15, ca14, h⟩ := bd_some h
        refine V_X8_isAt (pc := 70) C hM ca14 rk_6 rk_101 q13 bw_6_68 ⟨Nat.le_of_ble_eq_true rfl, Nat.le_of_ble_eq_true rfl⟩ hl.1 rc0 ⟨Nat.le_refl _, Nat.le_refl _⟩ dX8_word_70 (fun ra14 H locs hM => ?_)
        refine m_if_eq (tgt := 78) (pc := 73) C ra14 dX8_word_73 (by decide) (fun c16 => ?_) (fun c16 => ?_)
        · have h := if_t h c16
          exact k_X8_word_b78 C N _ _ h _ _ _ hM (lv_sub hl [0] rfl)
        · have h := if_f h c16
          refine m_iconst (pc := 76) C dX8_word_76 ?_
          cases h
          exact m_iret (pc := 77) C hM rk_1 dX8_word_77
set_option maxHeartbeats 4000000 in
set_option maxRecDepth 100000 in
theorem c_X8_word (l : Launch) (E : gE) (N : Nat) (x0 : Int) (μ μ' : Mm) (r : Int) (h : f_X8_word N x0 μ = some (r, μ')) : gMet l E yX8_word cX8_word 1 (some .int) 1 25 [vr E x0] (some (vi r)) (R32 r) μ μ' 0 0 := by
  refine g_ofW [1] (by first | (simp only [List.map_cons, List.map_nil, vr_cat]; done) | (simp only [List.map_cons, List.map_nil, vr_cat]; rfl)) (by decide) (by decide) (fun p e s m below meth c ls C hM hl => ?_)
  replace C : gCx p s m _ meth c cX8_word 1 (some .int) "word" RX8 := C
  replace hl : lv_has ls 1 [(0, vr E x0)] := hl
  unfold f_X8_word at h
  refine m_aload_n (pc := 0) C dX8_word_0 rfl (lv_at hl 0 rfl) ?_
  refine m_bipush (pc := 1) C dX8_word_1 rfl ?_
  refine m_bipush (pc := 3) C dX8_word_3 rfl ?_
  refine m_bipush (pc := 5) C dX8_word_5 rfl ?_
  refine m_bipush (pc := 7) C dX8_word_7 rfl ?_
  refine m_iconst (pc := 9) C dX8_word_9 ?_
  obtain ⟨q1, h⟩ := ck_some h
  obtain ⟨a2, μ3, ca2, h⟩ := bd_some h
  refine V_X8_begins (pc := 10) C hM ca2 rk_101 rk_110 rk_116 rk_101 rk_5 q1 bw_6_64 ⟨Nat.le_of_ble_eq_true rfl, Nat.le_of_ble_eq_true rfl⟩ hl.1 rc0 ⟨Nat.le_refl _, Nat.le_refl _⟩ dX8_word_10 (fun ra2 H locs hM => ?_)
  refine m_if_eq (tgt := 28) (pc := 13) C ra2 dX8_word_13 (by decide) (fun c4 => ?_) (fun c4 => ?_)
  · have h := if_t h c4
    exact k_X8_word_b28 C N _ _ h _ _ _ hM (lv_sub hl [0] rfl)
  · have h := if_f h c4
    refine m_aload_n (pc := 16) C dX8_word_16 rfl (lv_at hl 0 rfl) ?_
    refine m_iconst (pc := 17) C dX8_word_17 ?_
    refine m_bipush (pc := 18) C dX8_word_18 rfl ?_
    obtain ⟨q5, h⟩ := ck_some h
    obtain ⟨a6, μ7, ca6, h⟩ := bd_some h
    refine V_X8_isAt (pc := 20) C hM ca6 rk_4 rk_114 q5 bw_6_68 ⟨Nat.le_of_ble_eq_true rfl, Nat.le_of_ble_eq_true rfl⟩ hl.1 rc0 ⟨Nat.le_refl _, Nat.le_refl _⟩ dX8_word_20 (fun ra6 H locs hM => ?_)
    refine m_if_eq (tgt := 28) (pc := 23) C ra6 dX8_word_23 (by decide) (fun c8 => ?_) (fun c8 => ?_)
    · have h := if_t h c8
      exact k_X8_word_b28 C N _ _ h _ _ _ hM (lv_sub hl [0] rfl)
    · have h := if_f h c8
      refine m_iconst (pc := 26) C dX8_word_26 ?_
      cases h
      exact m_iret (pc := 27) C hM rk_0 dX8_word_27
theorem hd_X8_word : yX8_word.cls ≠ "java/lang/invoke/MethodHandle" ∧ yX8_word.cls ≠ "java/lang/invoke/VarHandle" ∧ (parseMethodDescriptor yX8_word.desc).map (fun d => d.parameters.length) = some 0 := by decide +kernel

theorem V_X8_word {p : Program} {l : Launch} {e : Env} {R : Room} {s : State} {m : MethodId} {args : Array Value} {below : List Frame} {meth : Method} {c : Code} {H : Heap} {locs : List Loc} {cells slots : Nat} {Q : State → Prop} {cc : ByteArray} {pc nL : Nat} {ls : Array Slot} {rest : List Value} {ret : Option FieldType} {nmm own : String} {E : gE} {μ μ1 : Mm} {index : Nat} (C : gCx p s m args meth c cc nL ret nmm own) (hM : MS E μ s H locs) {N : Nat} {x0 v : Int} (hc : f_X8_word N x0 μ = some (v, μ1)) (hck : μ x0 (-2) = 10) (h1 : Cond.methodLink own index yX8_word ∈ bigL) (hR : 2 ≤ R.frames ∧ 45 ≤ R.locals) (hl : ls.size = nL) (hcat : RC rest 8) (hf : cells + 0 ≤ R.cells ∧ slots + 0 ≤ R.slots) (hdg : decode cc pc = .ok (.invokevirtual index, 3)) (kk : (R32 v) → ∀ (H1 : Heap) (locs1 : List Loc), MS E μ1 s H1 locs1 → W p l e R s m args below meth c H1 locs1 (cells + 0) (slots + 0) Q (F0 m (pc + 3) ls (vi v :: rest))) : W p l e R s m args below meth c H locs cells slots Q (F0 m pc ls (vr E x0 :: rest)) := g_callV C KF_X8 hM (c_X8_word l E N x0 μ μ1 v hc) hck (gV h1 bw_6_62 bs_59 bw_1_13 bw_6_63) ⟨rfl, hd_X8_word⟩ hR rfl hl rfl hcat hf hdg kk
end G14
